/-! the same of the canton in thought -/
section TWs
variable {W : TXW}
set_option maxRecDepth 100000 in
theorem bh_14_1 (call : QC FA) (x1 : Int32) (L : QH FA) (F : Nat) : xnG call 14 (F + 1) 0 [some (vR 32), some (vI x1)] [] L = xnG call 14 F 1 [some (vR 32), some (vI x1)] [vI x1] L := rfl
set_option maxRecDepth 100000 in
theorem bh_14_2 (call : QC FA) (x : Int32) (ls : List (Option PV)) (L : QH FA) (F : Nat) : xnG call 14 (F + 1) 1 ls [vI x] L = bif pcmp 2 x 0 then xnG call 14 F 11 ls [] L else xnG call 14 F 2 ls [] L := rfl
set_option maxRecDepth 100000 in
theorem bh_14_3 (call : QC FA) (x1 : Int32) (L : QH FA) (F : Nat) : xnG call 14 (F + 1) 11 [some (vR 32), some (vI x1)] [] L = xnG call 14 F 12 [some (vR 32), some (vI x1)] [vI 0] L := rfl
set_option maxRecDepth 100000 in
theorem bh_14_4 (call : QC FA) (ls : List (Option PV)) (L : QH FA) (F : Nat) : xnG call 14 (F + 1) 12 ls [vI 0] L = some (some (vI 0), L) := rfl
set_option maxRecDepth 100000 in
theorem bh_14_5 (call : QC FA) (x1 : Int32) (z : Nat → Int32) (f : Nat → FA) (F : Nat) : xnG call 14 (F + 3) 2 [some (vR 32), some (vI x1)] [] (LW W z f) = xnG call 14 F 5 [some (vR 32), some (vI x1)] [vI (z 322), vI x1] (LW W z f) := rfl
set_option maxRecDepth 100000 in
theorem bh_14_6 (call : QC FA) (x y : Int32) (ls : List (Option PV)) (L : QH FA) (F : Nat) : xnG call 14 (F + 1) 5 ls [vI y, vI x] L = bif pcmp 3 x y then xnG call 14 F 11 ls [] L else xnG call 14 F 6 ls [] L := rfl
set_option maxRecDepth 100000 in
theorem bh_14_7 (call : QC FA) (x1 : Int32) (L : QH FA) (F : Nat) : xnG call 14 (F + 2) 6 [some (vR 32), some (vI x1)] [] L = xnG call 14 F 8 [some (vR 32), some (vI x1)] [vI 20, vI x1] L := rfl
set_option maxRecDepth 100000 in
theorem bh_14_8 (call : QC FA) (x y : Int32) (ls : List (Option PV)) (L : QH FA) (F : Nat) : xnG call 14 (F + 1) 8 ls [vI y, vI x] L = bif pcmp 3 x y then xnG call 14 F 11 ls [] L else xnG call 14 F 9 ls [] L := rfl
set_option maxRecDepth 100000 in
theorem bh_14_9 (call : QC FA) (x1 : Int32) (L : QH FA) (F : Nat) : xnG call 14 (F + 2) 9 [some (vR 32), some (vI x1)] [] L = xnG call 14 F 12 [some (vR 32), some (vI x1)] [vI 1] L := rfl
set_option maxRecDepth 100000 in
theorem bh_14_10 (call : QC FA) (ls : List (Option PV)) (L : QH FA) (F : Nat) : xnG call 14 (F + 1) 12 ls [vI 1] L = some (some (vI 1), L) := rfl
theorem vch_14_0 (call : QC FA) (x1 : Int32) (z : Nat → Int32) (f : Nat → FA) (res : Option PV × QH FA) (H : ((I x1 < 0 → res = (some (vI 0), LW W z f)) ∧ (0 ≤ I x1 → ((I (z 322) ≤ I x1 → res = (some (vI 0), LW W z f)) ∧ (I x1 < I (z 322) → ((20 ≤ I x1 → res = (some (vI 0), LW W z f)) ∧ (I x1 < 20 → res = (some (vI 1), LW W z f)))))))) : XC call (mP 14) 0 [some (vR 32), some (vI x1)] [] (LW W z f) res := by
  refine xc_b (i' := 1) (ls' := [some (vR 32), some (vI x1)]) (st' := [vI x1]) (L' := LW W z f) 1 (bh_14_1 call x1 _) ?_
  refine xc_if (it := 11) (ie := 2) (ls' := [some (vR 32), some (vI x1)]) (st' := []) (bh_14_2 call x1 _ _) (fun q1 => ?_) (fun q1 => ?_)
  · have H := H.1 (cI2t q1 rfl rfl)
    refine xc_b (i' := 12) (ls' := [some (vR 32), some (vI x1)]) (st' := [vI 0]) (L' := LW W z f) 1 (bh_14_3 call x1 _) ?_
    subst H
    exact xc_ret (bh_14_4 call _ _)
  · have H := H.2 (cI2f q1 rfl rfl)
    refine xc_b (i' := 5) (ls' := [some (vR 32), some (vI x1)]) (st' := [vI (z 322), vI x1]) (L' := LW W z f) 3 (bh_14_5 call x1 z f) ?_
    refine xc_if (it := 11) (ie := 6) (ls' := [some (vR 32), some (vI x1)]) (st' := []) (bh_14_6 call x1 (z 322) _ _) (fun q2 => ?_) (fun q2 => ?_)
    · have H := H.1 (cI3t q2 rfl rfl)
      refine xc_b (i' := 12) (ls' := [some (vR 32), some (vI x1)]) (st' := [vI 0]) (L' := LW W z f) 1 (bh_14_3 call x1 _) ?_
      subst H
      exact xc_ret (bh_14_4 call _ _)
    · have H := H.2 (cI3f q2 rfl rfl)
      refine xc_b (i' := 8) (ls' := [some (vR 32), some (vI x1)]) (st' := [vI 20, vI x1]) (L' := LW W z f) 2 (bh_14_7 call x1 _) ?_
      refine xc_if (it := 11) (ie := 9) (ls' := [some (vR 32), some (vI x1)]) (st' := []) (bh_14_8 call x1 20 _ _) (fun q3 => ?_) (fun q3 => ?_)
      · have H := H.1 (cI3t q3 rfl rfl)
        refine xc_b (i' := 12) (ls' := [some (vR 32), some (vI x1)]) (st' := [vI 0]) (L' := LW W z f) 1 (bh_14_3 call x1 _) ?_
        subst H
        exact xc_ret (bh_14_4 call _ _)
      · have H := H.2 (cI3f q3 rfl rfl)
        refine xc_b (i' := 12) (ls' := [some (vR 32), some (vI x1)]) (st' := [vI 1]) (L' := LW W z f) 2 (bh_14_9 call x1 _) ?_
        subst H
        exact xc_ret (bh_14_10 call _ _)
set_option maxRecDepth 100000 in
theorem bh_13_1 (call : QC FA) (x1 : Int32) (x2 : Int32) (o3 : Option PV) (L : QH FA) (F : Nat) : xnG call 13 (F + 2) 0 [some (vR 32), some (vI x1), some (vI x2), o3] [] L = xnG call 13 F 2 [some (vR 32), some (vI x1), some (vI x2), o3] [vI x1, vR 32] L := rfl
set_option maxRecDepth 100000 in
theorem bh_13_2 (call : QC FA) (a0 : Int32) (ls : List (Option PV)) (z : Nat → Int32) (f : Nat → FA) (F : Nat) : xnG call 13 (F + 1) 2 ls [vI a0, vR 32] (LW W z f) = cbd (call 14 [vR 32, vI a0] (LW W z f)) (fun r L' => xnG call 13 F 3 ls (r.toList ++ []) L') := pcY (ih := xnG call 13 F) (call := call) (a := 14) (b := 1) (v := 0) (t := 3) (x := 32) (ls := ls) (As := [vI a0]) (st' := []) (L := LW W z f) rfl rfl rfl
set_option maxRecDepth 100000 in
theorem bh_13_3 (call : QC FA) (x : Int32) (ls : List (Option PV)) (L : QH FA) (F : Nat) : xnG call 13 (F + 1) 3 ls [vI x] L = bif pcmp 0 x 0 then xnG call 13 F 11 ls [] L else xnG call 13 F 4 ls [] L := rfl
set_option maxRecDepth 100000 in
theorem bh_13_4 (call : QC FA) (x1 : Int32) (x2 : Int32) (o3 : Option PV) (L : QH FA) (F : Nat) : xnG call 13 (F + 3) 11 [some (vR 32), some (vI x1), some (vI x2), o3] [] L = xnG call 13 F 14 [some (vR 32), some (vI x1), some (vI x2), some (vI 0)] [vI 0] L := rfl
set_option maxRecDepth 100000 in
theorem bh_13_5 (call : QC FA) (x : Int32) (ls : List (Option PV)) (L : QH FA) (F : Nat) : xnG call 13 (F + 1) 14 ls [vI x] L = bif pcmp 0 x 0 then xnG call 13 F 24 ls [] L else xnG call 13 F 15 ls [] L := rfl
set_option maxRecDepth 100000 in
theorem bh_13_6 (call : QC FA) (x1 : Int32) (x2 : Int32) (x3 : Int32) (L : QH FA) (F : Nat) : xnG call 13 (F + 1) 24 [some (vR 32), some (vI x1), some (vI x2), some (vI x3)] [] L = xnG call 13 F 25 [some (vR 32), some (vI x1), some (vI x2), some (vI x3)] [vI 0] L := rfl
set_option maxRecDepth 100000 in
theorem bh_13_7 (call : QC FA) (x : Int32) (ls : List (Option PV)) (L : QH FA) (F : Nat) : xnG call 13 (F + 1) 25 ls [vI x] L = some (some (vI x), L) := rfl
set_option maxRecDepth 100000 in
theorem bh_13_8 (call : QC FA) (x1 : Int32) (x2 : Int32) (o3 : Option PV) (L : QH FA) (F : Nat) : xnG call 13 (F + 1) 4 [some (vR 32), some (vI x1), some (vI x2), o3] [] L = xnG call 13 F 5 [some (vR 32), some (vI x1), some (vI x2), o3] [vI x2] L := rfl
set_option maxRecDepth 100000 in
theorem bh_13_9 (call : QC FA) (x : Int32) (ls : List (Option PV)) (L : QH FA) (F : Nat) : xnG call 13 (F + 1) 5 ls [vI x] L = bif pcmp 2 x 0 then xnG call 13 F 11 ls [] L else xnG call 13 F 6 ls [] L := rfl
set_option maxRecDepth 100000 in
theorem bh_13_10 (call : QC FA) (x1 : Int32) (x2 : Int32) (o3 : Option PV) (L : QH FA) (F : Nat) : xnG call 13 (F + 2) 6 [some (vR 32), some (vI x1), some (vI x2), o3] [] L = xnG call 13 F 8 [some (vR 32), some (vI x1), some (vI x2), o3] [vI 6, vI x2] L := rfl
set_option maxRecDepth 100000 in
theorem bh_13_11 (call : QC FA) (x y : Int32) (ls : List (Option PV)) (L : QH FA) (F : Nat) : xnG call 13 (F + 1) 8 ls [vI y, vI x] L = bif pcmp 3 x y then xnG call 13 F 11 ls [] L else xnG call 13 F 9 ls [] L := rfl
set_option maxRecDepth 100000 in
theorem bh_13_12 (call : QC FA) (x1 : Int32) (x2 : Int32) (o3 : Option PV) (L : QH FA) (F : Nat) : xnG call 13 (F + 4) 9 [some (vR 32), some (vI x1), some (vI x2), o3] [] L = xnG call 13 F 14 [some (vR 32), some (vI x1), some (vI x2), some (vI 1)] [vI 1] L := rfl
set_option maxRecDepth 100000 in
theorem bh_13_13 (call : QC FA) (x1 : Int32) (x2 : Int32) (x3 : Int32) (z : Nat → Int32) (f : Nat → FA) (F : Nat) : xnG call 13 (F + 7) 15 [some (vR 32), some (vI x1), some (vI x2), some (vI x3)] [] (LW W z f) = xnG call 13 F 22 [some (vR 32), some (vI x1), some (vI x2), some (vI x3)] [vI ((x2 * 20) + x1), vR 33] (LW W z f) := rfl
set_option maxRecDepth 100000 in
theorem bh_13_14 (call : QC FA) (x : Int32) (ls : List (Option PV)) (z : Nat → Int32) (f : Nat → FA) (F : Nat) : xnG call 13 (F + 1) 22 ls [vI x, vR 33] (LW W z f) = bif (Nat.beq 0 0 && pin x 120) then xnG call 13 F 23 ls [vI (f 33 (ix x))] (LW W z f) else none := rfl
set_option maxRecDepth 100000 in
theorem bh_13_15 (call : QC FA) (x1 : Int32) (x2 : Int32) (x3 : Int32) (s0 : Int32) (L : QH FA) (F : Nat) : xnG call 13 (F + 1) 23 [some (vR 32), some (vI x1), some (vI x2), some (vI x3)] [vI s0] L = xnG call 13 F 25 [some (vR 32), some (vI x1), some (vI x2), some (vI x3)] [vI s0] L := rfl
theorem vch_13_0 (call : QC FA) (x1 : Int32) (x2 : Int32) (o3 : Option PV) (z : Nat → Int32) (f : Nat → FA) (res : Option PV × QH FA) (H : (∃ (r1 : Int32) (z1 : Nat → Int32) (f1 : Nat → FA), call 14 [vR 32, vI x1] (LW W z f) = some (some (vI r1), LW W z1 f1) ∧ ((r1 = 0 → res = (some (vI 0), LW W z1 f1)) ∧ (¬ r1 = 0 → ((I x2 < 0 → res = (some (vI 0), LW W z1 f1)) ∧ (0 ≤ I x2 → ((6 ≤ I x2 → res = (some (vI 0), LW W z1 f1)) ∧ (I x2 < 6 → (pin ((x2 * 20) + x1) 120 = true ∧ res = (some (vI (f1 33 (ix ((x2 * 20) + x1)))), LW W z1 f1)))))))))) : XC call (mP 13) 0 [some (vR 32), some (vI x1), some (vI x2), o3] [] (LW W z f) res := by
  refine xc_b (i' := 2) (ls' := [some (vR 32), some (vI x1), some (vI x2), o3]) (st' := [vI x1, vR 32]) (L' := LW W z f) 2 (bh_13_1 call x1 x2 o3 _) ?_
  obtain ⟨r1, z1, f1, hc, H⟩ := H
  refine xc_call (t := 3) (ls' := [some (vR 32), some (vI x1), some (vI x2), o3]) (st' := []) (bh_13_2 call x1 _ z f) hc ?_
  show XC call (mP 13) 3 [some (vR 32), some (vI x1), some (vI x2), o3] [vI r1] (LW W z1 f1) res
  refine xc_if (it := 11) (ie := 4) (ls' := [some (vR 32), some (vI x1), some (vI x2), o3]) (st' := []) (bh_13_3 call r1 _ _) (fun q1 => ?_) (fun q1 => ?_)
  · have H := H.1 (cI0t q1)
    refine xc_b (i' := 14) (ls' := [some (vR 32), some (vI x1), some (vI x2), some (vI 0)]) (st' := [vI 0]) (L' := LW W z1 f1) 3 (bh_13_4 call x1 x2 o3 _) ?_
    refine xc_t (it := 24) (ie := 15) (ls' := [some (vR 32), some (vI x1), some (vI x2), some (vI 0)]) (st' := []) (bh_13_5 call 0 _ _) (by decide) ?_
    refine xc_b (i' := 25) (ls' := [some (vR 32), some (vI x1), some (vI x2), some (vI 0)]) (st' := [vI 0]) (L' := LW W z1 f1) 1 (bh_13_6 call x1 x2 0 _) ?_
    subst H
    exact xc_ret (bh_13_7 call _ _ _)
  · have H := H.2 (cI0f q1)
    refine xc_b (i' := 5) (ls' := [some (vR 32), some (vI x1), some (vI x2), o3]) (st' := [vI x2]) (L' := LW W z1 f1) 1 (bh_13_8 call x1 x2 o3 _) ?_
    refine xc_if (it := 11) (ie := 6) (ls' := [some (vR 32), some (vI x1), some (vI x2), o3]) (st' := []) (bh_13_9 call x2 _ _) (fun q2 => ?_) (fun q2 => ?_)
    · have H := H.1 (cI2t q2 rfl rfl)
      refine xc_b (i' := 14) (ls' := [some (vR 32), some (vI x1), some (vI x2), some (vI 0)]) (st' := [vI 0]) (L' := LW W z1 f1) 3 (bh_13_4 call x1 x2 o3 _) ?_
      refine xc_t (it := 24) (ie := 15) (ls' := [some (vR 32), some (vI x1), some (vI x2), some (vI 0)]) (st' := []) (bh_13_5 call 0 _ _) (by decide) ?_
      refine xc_b (i' := 25) (ls' := [some (vR 32), some (vI x1), some (vI x2), some (vI 0)]) (st' := [vI 0]) (L' := LW W z1 f1) 1 (bh_13_6 call x1 x2 0 _) ?_
      subst H
      exact xc_ret (bh_13_7 call _ _ _)
    · have H := H.2 (cI2f q2 rfl rfl)
      refine xc_b (i' := 8) (ls' := [some (vR 32), some (vI x1), some (vI x2), o3]) (st' := [vI 6, vI x2]) (L' := LW W z1 f1) 2 (bh_13_10 call x1 x2 o3 _) ?_
      refine xc_if (it := 11) (ie := 9) (ls' := [some (vR 32), some (vI x1), some (vI x2), o3]) (st' := []) (bh_13_11 call x2 6 _ _) (fun q3 => ?_) (fun q3 => ?_)
      · have H := H.1 (cI3t q3 rfl rfl)
        refine xc_b (i' := 14) (ls' := [some (vR 32), some (vI x1), some (vI x2), some (vI 0)]) (st' := [vI 0]) (L' := LW W z1 f1) 3 (bh_13_4 call x1 x2 o3 _) ?_
        refine xc_t (it := 24) (ie := 15) (ls' := [some (vR 32), some (vI x1), some (vI x2), some (vI 0)]) (st' := []) (bh_13_5 call 0 _ _) (by decide) ?_
        refine xc_b (i' := 25) (ls' := [some (vR 32), some (vI x1), some (vI x2), some (vI 0)]) (st' := [vI 0]) (L' := LW W z1 f1) 1 (bh_13_6 call x1 x2 0 _) ?_
        subst H
        exact xc_ret (bh_13_7 call _ _ _)
      · have H := H.2 (cI3f q3 rfl rfl)
        refine xc_b (i' := 14) (ls' := [some (vR 32), some (vI x1), some (vI x2), some (vI 1)]) (st' := [vI 1]) (L' := LW W z1 f1) 4 (bh_13_12 call x1 x2 o3 _) ?_
        refine xc_f (it := 24) (ie := 15) (ls' := [some (vR 32), some (vI x1), some (vI x2), some (vI 1)]) (st' := []) (bh_13_5 call 1 _ _) (by decide) ?_
        refine xc_b (i' := 22) (ls' := [some (vR 32), some (vI x1), some (vI x2), some (vI 1)]) (st' := [vI ((x2 * 20) + x1), vR 33]) (L' := LW W z1 f1) 7 (bh_13_13 call x1 x2 1 z1 f1) ?_
        obtain ⟨g1, H⟩ := H
        refine xc_g (i' := 23) (ls' := [some (vR 32), some (vI x1), some (vI x2), some (vI 1)]) (st' := [vI (f1 33 (ix ((x2 * 20) + x1)))]) (L' := LW W z1 f1) (bh_13_14 call ((x2 * 20) + x1) _ z1 f1) (pinG g1) ?_
        refine xc_b (i' := 25) (ls' := [some (vR 32), some (vI x1), some (vI x2), some (vI 1)]) (st' := [vI (f1 33 (ix ((x2 * 20) + x1)))]) (L' := LW W z1 f1) 1 (bh_13_15 call x1 x2 1 (f1 33 (ix ((x2 * 20) + x1))) _) ?_
        subst H
        exact xc_ret (bh_13_7 call _ _ _)
set_option maxRecDepth 100000 in
theorem bh_87_1 (call : QC FA) (x1 : Int32) (x2 : Int32) (x3 : Int32) (L : QH FA) (F : Nat) : xnG call 87 (F + 2) 0 [some (vR 32), some (vI x1), some (vI x2), some (vI x3)] [] L = xnG call 87 F 2 [some (vR 32), some (vI x1), some (vI x2), some (vI x3)] [vI x1, vR 32] L := rfl
set_option maxRecDepth 100000 in
theorem bh_87_2 (call : QC FA) (a0 : Int32) (ls : List (Option PV)) (z : Nat → Int32) (f : Nat → FA) (F : Nat) : xnG call 87 (F + 1) 2 ls [vI a0, vR 32] (LW W z f) = cbd (call 14 [vR 32, vI a0] (LW W z f)) (fun r L' => xnG call 87 F 3 ls (r.toList ++ []) L') := pcY (ih := xnG call 87 F) (call := call) (a := 14) (b := 1) (v := 0) (t := 3) (x := 32) (ls := ls) (As := [vI a0]) (st' := []) (L := LW W z f) rfl rfl rfl
set_option maxRecDepth 100000 in
theorem bh_87_3 (call : QC FA) (x : Int32) (ls : List (Option PV)) (L : QH FA) (F : Nat) : xnG call 87 (F + 1) 3 ls [vI x] L = bif pcmp 0 x 0 then xnG call 87 F 18 ls [] L else xnG call 87 F 4 ls [] L := rfl
set_option maxRecDepth 100000 in
theorem bh_87_4 (call : QC FA) (ls : List (Option PV)) (L : QH FA) (F : Nat) : xnG call 87 (F + 1) 18 ls [] L = some (none, L) := rfl
set_option maxRecDepth 100000 in
theorem bh_87_5 (call : QC FA) (x1 : Int32) (x2 : Int32) (x3 : Int32) (L : QH FA) (F : Nat) : xnG call 87 (F + 1) 4 [some (vR 32), some (vI x1), some (vI x2), some (vI x3)] [] L = xnG call 87 F 5 [some (vR 32), some (vI x1), some (vI x2), some (vI x3)] [vI x2] L := rfl
set_option maxRecDepth 100000 in
theorem bh_87_6 (call : QC FA) (x : Int32) (ls : List (Option PV)) (L : QH FA) (F : Nat) : xnG call 87 (F + 1) 5 ls [vI x] L = bif pcmp 2 x 0 then xnG call 87 F 18 ls [] L else xnG call 87 F 6 ls [] L := rfl
set_option maxRecDepth 100000 in
theorem bh_87_7 (call : QC FA) (x1 : Int32) (x2 : Int32) (x3 : Int32) (L : QH FA) (F : Nat) : xnG call 87 (F + 2) 6 [some (vR 32), some (vI x1), some (vI x2), some (vI x3)] [] L = xnG call 87 F 8 [some (vR 32), some (vI x1), some (vI x2), some (vI x3)] [vI 6, vI x2] L := rfl
set_option maxRecDepth 100000 in
theorem bh_87_8 (call : QC FA) (x y : Int32) (ls : List (Option PV)) (L : QH FA) (F : Nat) : xnG call 87 (F + 1) 8 ls [vI y, vI x] L = bif pcmp 3 x y then xnG call 87 F 18 ls [] L else xnG call 87 F 9 ls [] L := rfl
set_option maxRecDepth 100000 in
theorem bh_87_9 (call : QC FA) (x1 : Int32) (x2 : Int32) (x3 : Int32) (z : Nat → Int32) (f : Nat → FA) (F : Nat) : xnG call 87 (F + 8) 9 [some (vR 32), some (vI x1), some (vI x2), some (vI x3)] [] (LW W z f) = xnG call 87 F 17 [some (vR 32), some (vI x1), some (vI x2), some (vI x3)] [vI x3, vI ((x2 * 20) + x1), vR 33] (LW W z f) := rfl
set_option maxRecDepth 100000 in
theorem bh_87_10 (call : QC FA) (x y : Int32) (ls : List (Option PV)) (z : Nat → Int32) (f : Nat → FA) (F : Nat) : xnG call 87 (F + 1) 17 ls [vI y, vI x, vR 33] (LW W z f) = bif (Nat.beq 0 0 && pin x 120) then xnG call 87 F 18 ls [] (LW W z (uA f 33 (upd (f 33) (ix x) y))) else none := rfl
theorem vch_87_0 (call : QC FA) (x1 : Int32) (x2 : Int32) (x3 : Int32) (z : Nat → Int32) (f : Nat → FA) (res : Option PV × QH FA) (H : (∃ (r1 : Int32) (z1 : Nat → Int32) (f1 : Nat → FA), call 14 [vR 32, vI x1] (LW W z f) = some (some (vI r1), LW W z1 f1) ∧ ((r1 = 0 → res = (none, LW W z1 f1)) ∧ (¬ r1 = 0 → ((I x2 < 0 → res = (none, LW W z1 f1)) ∧ (0 ≤ I x2 → ((6 ≤ I x2 → res = (none, LW W z1 f1)) ∧ (I x2 < 6 → (pin ((x2 * 20) + x1) 120 = true ∧ res = (none, LW W z1 (uA f1 33 (upd (f1 33) (ix ((x2 * 20) + x1)) x3)))))))))))) : XC call (mP 87) 0 [some (vR 32), some (vI x1), some (vI x2), some (vI x3)] [] (LW W z f) res := by
  refine xc_b (i' := 2) (ls' := [some (vR 32), some (vI x1), some (vI x2), some (vI x3)]) (st' := [vI x1, vR 32]) (L' := LW W z f) 2 (bh_87_1 call x1 x2 x3 _) ?_
  obtain ⟨r1, z1, f1, hc, H⟩ := H
  refine xc_call (t := 3) (ls' := [some (vR 32), some (vI x1), some (vI x2), some (vI x3)]) (st' := []) (bh_87_2 call x1 _ z f) hc ?_
  show XC call (mP 87) 3 [some (vR 32), some (vI x1), some (vI x2), some (vI x3)] [vI r1] (LW W z1 f1) res
  refine xc_if (it := 18) (ie := 4) (ls' := [some (vR 32), some (vI x1), some (vI x2), some (vI x3)]) (st' := []) (bh_87_3 call r1 _ _) (fun q1 => ?_) (fun q1 => ?_)
  · have H := H.1 (cI0t q1)
    subst H
    exact xc_ret (bh_87_4 call _ _)
  · have H := H.2 (cI0f q1)
    refine xc_b (i' := 5) (ls' := [some (vR 32), some (vI x1), some (vI x2), some (vI x3)]) (st' := [vI x2]) (L' := LW W z1 f1) 1 (bh_87_5 call x1 x2 x3 _) ?_
    refine xc_if (it := 18) (ie := 6) (ls' := [some (vR 32), some (vI x1), some (vI x2), some (vI x3)]) (st' := []) (bh_87_6 call x2 _ _) (fun q2 => ?_) (fun q2 => ?_)
    · have H := H.1 (cI2t q2 rfl rfl)
      subst H
      exact xc_ret (bh_87_4 call _ _)
    · have H := H.2 (cI2f q2 rfl rfl)
      refine xc_b (i' := 8) (ls' := [some (vR 32), some (vI x1), some (vI x2), some (vI x3)]) (st' := [vI 6, vI x2]) (L' := LW W z1 f1) 2 (bh_87_7 call x1 x2 x3 _) ?_
      refine xc_if (it := 18) (ie := 9) (ls' := [some (vR 32), some (vI x1), some (vI x2), some (vI x3)]) (st' := []) (bh_87_8 call x2 6 _ _) (fun q3 => ?_) (fun q3 => ?_)
      · have H := H.1 (cI3t q3 rfl rfl)
        subst H
        exact xc_ret (bh_87_4 call _ _)
      · have H := H.2 (cI3f q3 rfl rfl)
        refine xc_b (i' := 17) (ls' := [some (vR 32), some (vI x1), some (vI x2), some (vI x3)]) (st' := [vI x3, vI ((x2 * 20) + x1), vR 33]) (L' := LW W z1 f1) 8 (bh_87_9 call x1 x2 x3 z1 f1) ?_
        obtain ⟨g1, H⟩ := H
        refine xc_g (i' := 18) (ls' := [some (vR 32), some (vI x1), some (vI x2), some (vI x3)]) (st' := []) (L' := LW W z1 (uA f1 33 (upd (f1 33) (ix ((x2 * 20) + x1)) x3))) (bh_87_10 call ((x2 * 20) + x1) x3 _ z1 f1) (pinG g1) ?_
        subst H
        exact xc_ret (bh_87_4 call _ _)
set_option maxRecDepth 100000 in
theorem bh_84_1 (call : QC FA) (x1 : Int32) (L : QH FA) (F : Nat) : xnG call 84 (F + 2) 0 [some (vR 32), some (vI x1)] [] L = xnG call 84 F 2 [some (vR 32), some (vI x1)] [vI x1, vR 32] L := rfl
set_option maxRecDepth 100000 in
theorem bh_84_2 (call : QC FA) (a0 : Int32) (ls : List (Option PV)) (z : Nat → Int32) (f : Nat → FA) (F : Nat) : xnG call 84 (F + 1) 2 ls [vI a0, vR 32] (LW W z f) = cbd (call 14 [vR 32, vI a0] (LW W z f)) (fun r L' => xnG call 84 F 3 ls (r.toList ++ []) L') := pcY (ih := xnG call 84 F) (call := call) (a := 14) (b := 1) (v := 0) (t := 3) (x := 32) (ls := ls) (As := [vI a0]) (st' := []) (L := LW W z f) rfl rfl rfl
set_option maxRecDepth 100000 in
theorem bh_84_3 (call : QC FA) (x : Int32) (ls : List (Option PV)) (L : QH FA) (F : Nat) : xnG call 84 (F + 1) 3 ls [vI x] L = bif pcmp 0 x 0 then xnG call 84 F 16 ls [] L else xnG call 84 F 4 ls [] L := rfl
set_option maxRecDepth 100000 in
theorem bh_84_4 (call : QC FA) (x1 : Int32) (L : QH FA) (F : Nat) : xnG call 84 (F + 1) 16 [some (vR 32), some (vI x1)] [] L = xnG call 84 F 17 [some (vR 32), some (vI x1)] [vI 0] L := rfl
set_option maxRecDepth 100000 in
theorem bh_84_5 (call : QC FA) (ls : List (Option PV)) (L : QH FA) (F : Nat) : xnG call 84 (F + 1) 17 ls [vI 0] L = some (some (vI 0), L) := rfl
set_option maxRecDepth 100000 in
theorem bh_84_6 (call : QC FA) (x1 : Int32) (L : QH FA) (F : Nat) : xnG call 84 (F + 3) 4 [some (vR 32), some (vI x1)] [] L = xnG call 84 F 7 [some (vR 32), some (vI x1)] [vI 4, vI x1, vR 32] L := rfl
set_option maxRecDepth 100000 in
theorem bh_84_7 (call : QC FA) (a0 : Int32) (a1 : Int32) (ls : List (Option PV)) (z : Nat → Int32) (f : Nat → FA) (F : Nat) : xnG call 84 (F + 1) 7 ls [vI a1, vI a0, vR 32] (LW W z f) = cbd (call 13 [vR 32, vI a0, vI a1] (LW W z f)) (fun r L' => xnG call 84 F 8 ls (r.toList ++ []) L') := pcY (ih := xnG call 84 F) (call := call) (a := 13) (b := 2) (v := 0) (t := 8) (x := 32) (ls := ls) (As := [vI a0, vI a1]) (st' := []) (L := LW W z f) rfl rfl rfl
set_option maxRecDepth 100000 in
theorem bh_84_8 (call : QC FA) (x : Int32) (ls : List (Option PV)) (L : QH FA) (F : Nat) : xnG call 84 (F + 1) 8 ls [vI x] L = bif pcmp 1 x 0 then xnG call 84 F 16 ls [] L else xnG call 84 F 9 ls [] L := rfl
set_option maxRecDepth 100000 in
theorem bh_84_9 (call : QC FA) (x1 : Int32) (L : QH FA) (F : Nat) : xnG call 84 (F + 3) 9 [some (vR 32), some (vI x1)] [] L = xnG call 84 F 12 [some (vR 32), some (vI x1)] [vI 1, vI x1, vR 32] L := rfl
set_option maxRecDepth 100000 in
theorem bh_84_10 (call : QC FA) (a0 : Int32) (a1 : Int32) (ls : List (Option PV)) (z : Nat → Int32) (f : Nat → FA) (F : Nat) : xnG call 84 (F + 1) 12 ls [vI a1, vI a0, vR 32] (LW W z f) = cbd (call 13 [vR 32, vI a0, vI a1] (LW W z f)) (fun r L' => xnG call 84 F 13 ls (r.toList ++ []) L') := pcY (ih := xnG call 84 F) (call := call) (a := 13) (b := 2) (v := 0) (t := 13) (x := 32) (ls := ls) (As := [vI a0, vI a1]) (st' := []) (L := LW W z f) rfl rfl rfl
set_option maxRecDepth 100000 in
theorem bh_84_11 (call : QC FA) (x : Int32) (ls : List (Option PV)) (L : QH FA) (F : Nat) : xnG call 84 (F + 1) 13 ls [vI x] L = bif pcmp 0 x 0 then xnG call 84 F 16 ls [] L else xnG call 84 F 14 ls [] L := rfl
set_option maxRecDepth 100000 in
theorem bh_84_12 (call : QC FA) (x1 : Int32) (L : QH FA) (F : Nat) : xnG call 84 (F + 2) 14 [some (vR 32), some (vI x1)] [] L = xnG call 84 F 17 [some (vR 32), some (vI x1)] [vI 1] L := rfl
set_option maxRecDepth 100000 in
theorem bh_84_13 (call : QC FA) (ls : List (Option PV)) (L : QH FA) (F : Nat) : xnG call 84 (F + 1) 17 ls [vI 1] L = some (some (vI 1), L) := rfl
theorem vch_84_0 (call : QC FA) (x1 : Int32) (z : Nat → Int32) (f : Nat → FA) (res : Option PV × QH FA) (H : (∃ (r1 : Int32) (z1 : Nat → Int32) (f1 : Nat → FA), call 14 [vR 32, vI x1] (LW W z f) = some (some (vI r1), LW W z1 f1) ∧ ((r1 = 0 → res = (some (vI 0), LW W z1 f1)) ∧ (¬ r1 = 0 → (∃ (r2 : Int32) (z2 : Nat → Int32) (f2 : Nat → FA), call 13 [vR 32, vI x1, vI 4] (LW W z1 f1) = some (some (vI r2), LW W z2 f2) ∧ ((¬ r2 = 0 → res = (some (vI 0), LW W z2 f2)) ∧ (r2 = 0 → (∃ (r3 : Int32) (z3 : Nat → Int32) (f3 : Nat → FA), call 13 [vR 32, vI x1, vI 1] (LW W z2 f2) = some (some (vI r3), LW W z3 f3) ∧ ((r3 = 0 → res = (some (vI 0), LW W z3 f3)) ∧ (¬ r3 = 0 → res = (some (vI 1), LW W z3 f3))))))))))) : XC call (mP 84) 0 [some (vR 32), some (vI x1)] [] (LW W z f) res := by
  refine xc_b (i' := 2) (ls' := [some (vR 32), some (vI x1)]) (st' := [vI x1, vR 32]) (L' := LW W z f) 2 (bh_84_1 call x1 _) ?_
  obtain ⟨r1, z1, f1, hc, H⟩ := H
  refine xc_call (t := 3) (ls' := [some (vR 32), some (vI x1)]) (st' := []) (bh_84_2 call x1 _ z f) hc ?_
  show XC call (mP 84) 3 [some (vR 32), some (vI x1)] [vI r1] (LW W z1 f1) res
  refine xc_if (it := 16) (ie := 4) (ls' := [some (vR 32), some (vI x1)]) (st' := []) (bh_84_3 call r1 _ _) (fun q1 => ?_) (fun q1 => ?_)
  · have H := H.1 (cI0t q1)
    refine xc_b (i' := 17) (ls' := [some (vR 32), some (vI x1)]) (st' := [vI 0]) (L' := LW W z1 f1) 1 (bh_84_4 call x1 _) ?_
    subst H
    exact xc_ret (bh_84_5 call _ _)
  · have H := H.2 (cI0f q1)
    refine xc_b (i' := 7) (ls' := [some (vR 32), some (vI x1)]) (st' := [vI 4, vI x1, vR 32]) (L' := LW W z1 f1) 3 (bh_84_6 call x1 _) ?_
    obtain ⟨r2, z2, f2, hc, H⟩ := H
    refine xc_call (t := 8) (ls' := [some (vR 32), some (vI x1)]) (st' := []) (bh_84_7 call x1 4 _ z1 f1) hc ?_
    show XC call (mP 84) 8 [some (vR 32), some (vI x1)] [vI r2] (LW W z2 f2) res
    refine xc_if (it := 16) (ie := 9) (ls' := [some (vR 32), some (vI x1)]) (st' := []) (bh_84_8 call r2 _ _) (fun q2 => ?_) (fun q2 => ?_)
    · have H := H.1 (cI1t q2)
      refine xc_b (i' := 17) (ls' := [some (vR 32), some (vI x1)]) (st' := [vI 0]) (L' := LW W z2 f2) 1 (bh_84_4 call x1 _) ?_
      subst H
      exact xc_ret (bh_84_5 call _ _)
    · have H := H.2 (cI1f q2)
      refine xc_b (i' := 12) (ls' := [some (vR 32), some (vI x1)]) (st' := [vI 1, vI x1, vR 32]) (L' := LW W z2 f2) 3 (bh_84_9 call x1 _) ?_
      obtain ⟨r3, z3, f3, hc, H⟩ := H
      refine xc_call (t := 13) (ls' := [some (vR 32), some (vI x1)]) (st' := []) (bh_84_10 call x1 1 _ z2 f2) hc ?_
      show XC call (mP 84) 13 [some (vR 32), some (vI x1)] [vI r3] (LW W z3 f3) res
      refine xc_if (it := 16) (ie := 14) (ls' := [some (vR 32), some (vI x1)]) (st' := []) (bh_84_11 call r3 _ _) (fun q3 => ?_) (fun q3 => ?_)
      · have H := H.1 (cI0t q3)
        refine xc_b (i' := 17) (ls' := [some (vR 32), some (vI x1)]) (st' := [vI 0]) (L' := LW W z3 f3) 1 (bh_84_4 call x1 _) ?_
        subst H
        exact xc_ret (bh_84_5 call _ _)
      · have H := H.2 (cI0f q3)
        refine xc_b (i' := 17) (ls' := [some (vR 32), some (vI x1)]) (st' := [vI 1]) (L' := LW W z3 f3) 2 (bh_84_12 call x1 _) ?_
        subst H
        exact xc_ret (bh_84_13 call _ _)
set_option maxRecDepth 100000 in
theorem bh_8_1 (call : QC FA) (x1 : Int32) (L : QH FA) (F : Nat) : xnG call 8 (F + 1) 0 [some (vR 32), some (vI x1)] [] L = xnG call 8 F 1 [some (vR 32), some (vI x1)] [vI x1] L := rfl
set_option maxRecDepth 100000 in
theorem bh_8_2 (call : QC FA) (x : Int32) (ls : List (Option PV)) (L : QH FA) (F : Nat) : xnG call 8 (F + 1) 1 ls [vI x] L = bif pcmp 2 x 0 then xnG call 8 F 10 ls [] L else xnG call 8 F 2 ls [] L := rfl
set_option maxRecDepth 100000 in
theorem bh_8_3 (call : QC FA) (x1 : Int32) (L : QH FA) (F : Nat) : xnG call 8 (F + 1) 10 [some (vR 32), some (vI x1)] [] L = xnG call 8 F 11 [some (vR 32), some (vI x1)] [vI 0] L := rfl
set_option maxRecDepth 100000 in
theorem bh_8_4 (call : QC FA) (x : Int32) (ls : List (Option PV)) (L : QH FA) (F : Nat) : xnG call 8 (F + 1) 11 ls [vI x] L = some (some (vI x), L) := rfl
set_option maxRecDepth 100000 in
theorem bh_8_5 (call : QC FA) (x1 : Int32) (L : QH FA) (F : Nat) : xnG call 8 (F + 2) 2 [some (vR 32), some (vI x1)] [] L = xnG call 8 F 4 [some (vR 32), some (vI x1)] [vI 144, vI x1] L := rfl
set_option maxRecDepth 100000 in
theorem bh_8_6 (call : QC FA) (x y : Int32) (ls : List (Option PV)) (L : QH FA) (F : Nat) : xnG call 8 (F + 1) 4 ls [vI y, vI x] L = bif pcmp 3 x y then xnG call 8 F 10 ls [] L else xnG call 8 F 5 ls [] L := rfl
set_option maxRecDepth 100000 in
theorem bh_8_7 (call : QC FA) (x1 : Int32) (z : Nat → Int32) (f : Nat → FA) (F : Nat) : xnG call 8 (F + 3) 5 [some (vR 32), some (vI x1)] [] (LW W z f) = xnG call 8 F 8 [some (vR 32), some (vI x1)] [vI x1, vR 34] (LW W z f) := rfl
set_option maxRecDepth 100000 in
theorem bh_8_8 (call : QC FA) (x : Int32) (ls : List (Option PV)) (z : Nat → Int32) (f : Nat → FA) (F : Nat) : xnG call 8 (F + 1) 8 ls [vI x, vR 34] (LW W z f) = bif (Nat.beq 0 0 && pin x 144) then xnG call 8 F 9 ls [vI (f 34 (ix x))] (LW W z f) else none := rfl
set_option maxRecDepth 100000 in
theorem bh_8_9 (call : QC FA) (x1 : Int32) (s0 : Int32) (L : QH FA) (F : Nat) : xnG call 8 (F + 1) 9 [some (vR 32), some (vI x1)] [vI s0] L = xnG call 8 F 11 [some (vR 32), some (vI x1)] [vI s0] L := rfl
theorem vch_8_0 (call : QC FA) (x1 : Int32) (z : Nat → Int32) (f : Nat → FA) (res : Option PV × QH FA) (H : ((I x1 < 0 → res = (some (vI 0), LW W z f)) ∧ (0 ≤ I x1 → ((144 ≤ I x1 → res = (some (vI 0), LW W z f)) ∧ (I x1 < 144 → (pin x1 144 = true ∧ res = (some (vI (f 34 (ix x1))), LW W z f))))))) : XC call (mP 8) 0 [some (vR 32), some (vI x1)] [] (LW W z f) res := by
  refine xc_b (i' := 1) (ls' := [some (vR 32), some (vI x1)]) (st' := [vI x1]) (L' := LW W z f) 1 (bh_8_1 call x1 _) ?_
  refine xc_if (it := 10) (ie := 2) (ls' := [some (vR 32), some (vI x1)]) (st' := []) (bh_8_2 call x1 _ _) (fun q1 => ?_) (fun q1 => ?_)
  · have H := H.1 (cI2t q1 rfl rfl)
    refine xc_b (i' := 11) (ls' := [some (vR 32), some (vI x1)]) (st' := [vI 0]) (L' := LW W z f) 1 (bh_8_3 call x1 _) ?_
    subst H
    exact xc_ret (bh_8_4 call _ _ _)
  · have H := H.2 (cI2f q1 rfl rfl)
    refine xc_b (i' := 4) (ls' := [some (vR 32), some (vI x1)]) (st' := [vI 144, vI x1]) (L' := LW W z f) 2 (bh_8_5 call x1 _) ?_
    refine xc_if (it := 10) (ie := 5) (ls' := [some (vR 32), some (vI x1)]) (st' := []) (bh_8_6 call x1 144 _ _) (fun q2 => ?_) (fun q2 => ?_)
    · have H := H.1 (cI3t q2 rfl rfl)
      refine xc_b (i' := 11) (ls' := [some (vR 32), some (vI x1)]) (st' := [vI 0]) (L' := LW W z f) 1 (bh_8_3 call x1 _) ?_
      subst H
      exact xc_ret (bh_8_4 call _ _ _)
    · have H := H.2 (cI3f q2 rfl rfl)
      refine xc_b (i' := 8) (ls' := [some (vR 32), some (vI x1)]) (st' := [vI x1, vR 34]) (L' := LW W z f) 3 (bh_8_7 call x1 z f) ?_
      obtain ⟨g1, H⟩ := H
      refine xc_g (i' := 9) (ls' := [some (vR 32), some (vI x1)]) (st' := [vI (f 34 (ix x1))]) (L' := LW W z f) (bh_8_8 call x1 _ z f) (pinG g1) ?_
      refine xc_b (i' := 11) (ls' := [some (vR 32), some (vI x1)]) (st' := [vI (f 34 (ix x1))]) (L' := LW W z f) 1 (bh_8_9 call x1 (f 34 (ix x1)) _) ?_
      subst H
      exact xc_ret (bh_8_4 call _ _ _)
set_option maxRecDepth 100000 in
theorem bh_6_1 (call : QC FA) (x1 : Int32) (L : QH FA) (F : Nat) : xnG call 6 (F + 1) 0 [some (vR 32), some (vI x1)] [] L = xnG call 6 F 1 [some (vR 32), some (vI x1)] [vI x1] L := rfl
set_option maxRecDepth 100000 in
theorem bh_6_2 (call : QC FA) (x : Int32) (ls : List (Option PV)) (L : QH FA) (F : Nat) : xnG call 6 (F + 1) 1 ls [vI x] L = bif pcmp 2 x 0 then xnG call 6 F 12 ls [] L else xnG call 6 F 2 ls [] L := rfl
set_option maxRecDepth 100000 in
theorem bh_6_3 (call : QC FA) (x1 : Int32) (L : QH FA) (F : Nat) : xnG call 6 (F + 1) 12 [some (vR 32), some (vI x1)] [] L = xnG call 6 F 13 [some (vR 32), some (vI x1)] [vI 0] L := rfl
set_option maxRecDepth 100000 in
theorem bh_6_4 (call : QC FA) (ls : List (Option PV)) (L : QH FA) (F : Nat) : xnG call 6 (F + 1) 13 ls [vI 0] L = some (some (vI 0), L) := rfl
set_option maxRecDepth 100000 in
theorem bh_6_5 (call : QC FA) (x1 : Int32) (L : QH FA) (F : Nat) : xnG call 6 (F + 2) 2 [some (vR 32), some (vI x1)] [] L = xnG call 6 F 4 [some (vR 32), some (vI x1)] [vI 144, vI x1] L := rfl
set_option maxRecDepth 100000 in
theorem bh_6_6 (call : QC FA) (x y : Int32) (ls : List (Option PV)) (L : QH FA) (F : Nat) : xnG call 6 (F + 1) 4 ls [vI y, vI x] L = bif pcmp 3 x y then xnG call 6 F 12 ls [] L else xnG call 6 F 5 ls [] L := rfl
set_option maxRecDepth 100000 in
theorem bh_6_7 (call : QC FA) (x1 : Int32) (z : Nat → Int32) (f : Nat → FA) (F : Nat) : xnG call 6 (F + 3) 5 [some (vR 32), some (vI x1)] [] (LW W z f) = xnG call 6 F 8 [some (vR 32), some (vI x1)] [vI x1, vR 34] (LW W z f) := rfl
set_option maxRecDepth 100000 in
theorem bh_6_8 (call : QC FA) (x : Int32) (ls : List (Option PV)) (z : Nat → Int32) (f : Nat → FA) (F : Nat) : xnG call 6 (F + 1) 8 ls [vI x, vR 34] (LW W z f) = bif (Nat.beq 0 0 && pin x 144) then xnG call 6 F 9 ls [vI (f 34 (ix x))] (LW W z f) else none := rfl
set_option maxRecDepth 100000 in
theorem bh_6_9 (call : QC FA) (x : Int32) (ls : List (Option PV)) (L : QH FA) (F : Nat) : xnG call 6 (F + 1) 9 ls [vI x] L = bif pcmp 0 x 0 then xnG call 6 F 12 ls [] L else xnG call 6 F 10 ls [] L := rfl
set_option maxRecDepth 100000 in
theorem bh_6_10 (call : QC FA) (x1 : Int32) (L : QH FA) (F : Nat) : xnG call 6 (F + 2) 10 [some (vR 32), some (vI x1)] [] L = xnG call 6 F 13 [some (vR 32), some (vI x1)] [vI 1] L := rfl
set_option maxRecDepth 100000 in
theorem bh_6_11 (call : QC FA) (ls : List (Option PV)) (L : QH FA) (F : Nat) : xnG call 6 (F + 1) 13 ls [vI 1] L = some (some (vI 1), L) := rfl
theorem vch_6_0 (call : QC FA) (x1 : Int32) (z : Nat → Int32) (f : Nat → FA) (res : Option PV × QH FA) (H : ((I x1 < 0 → res = (some (vI 0), LW W z f)) ∧ (0 ≤ I x1 → ((144 ≤ I x1 → res = (some (vI 0), LW W z f)) ∧ (I x1 < 144 → (pin x1 144 = true ∧ ((f 34 (ix x1) = 0 → res = (some (vI 0), LW W z f)) ∧ (¬ f 34 (ix x1) = 0 → res = (some (vI 1), LW W z f))))))))) : XC call (mP 6) 0 [some (vR 32), some (vI x1)] [] (LW W z f) res := by
  refine xc_b (i' := 1) (ls' := [some (vR 32), some (vI x1)]) (st' := [vI x1]) (L' := LW W z f) 1 (bh_6_1 call x1 _) ?_
  refine xc_if (it := 12) (ie := 2) (ls' := [some (vR 32), some (vI x1)]) (st' := []) (bh_6_2 call x1 _ _) (fun q1 => ?_) (fun q1 => ?_)
  · have H := H.1 (cI2t q1 rfl rfl)
    refine xc_b (i' := 13) (ls' := [some (vR 32), some (vI x1)]) (st' := [vI 0]) (L' := LW W z f) 1 (bh_6_3 call x1 _) ?_
    subst H
    exact xc_ret (bh_6_4 call _ _)
  · have H := H.2 (cI2f q1 rfl rfl)
    refine xc_b (i' := 4) (ls' := [some (vR 32), some (vI x1)]) (st' := [vI 144, vI x1]) (L' := LW W z f) 2 (bh_6_5 call x1 _) ?_
    refine xc_if (it := 12) (ie := 5) (ls' := [some (vR 32), some (vI x1)]) (st' := []) (bh_6_6 call x1 144 _ _) (fun q2 => ?_) (fun q2 => ?_)
    · have H := H.1 (cI3t q2 rfl rfl)
      refine xc_b (i' := 13) (ls' := [some (vR 32), some (vI x1)]) (st' := [vI 0]) (L' := LW W z f) 1 (bh_6_3 call x1 _) ?_
      subst H
      exact xc_ret (bh_6_4 call _ _)
    · have H := H.2 (cI3f q2 rfl rfl)
      refine xc_b (i' := 8) (ls' := [some (vR 32), some (vI x1)]) (st' := [vI x1, vR 34]) (L' := LW W z f) 3 (bh_6_7 call x1 z f) ?_
      obtain ⟨g1, H⟩ := H
      refine xc_g (i' := 9) (ls' := [some (vR 32), some (vI x1)]) (st' := [vI (f 34 (ix x1))]) (L' := LW W z f) (bh_6_8 call x1 _ z f) (pinG g1) ?_
      refine xc_if (it := 12) (ie := 10) (ls' := [some (vR 32), some (vI x1)]) (st' := []) (bh_6_9 call (f 34 (ix x1)) _ _) (fun q3 => ?_) (fun q3 => ?_)
      · have H := H.1 (cI0t q3)
        refine xc_b (i' := 13) (ls' := [some (vR 32), some (vI x1)]) (st' := [vI 0]) (L' := LW W z f) 1 (bh_6_3 call x1 _) ?_
        subst H
        exact xc_ret (bh_6_4 call _ _)
      · have H := H.2 (cI0f q3)
        refine xc_b (i' := 13) (ls' := [some (vR 32), some (vI x1)]) (st' := [vI 1]) (L' := LW W z f) 2 (bh_6_10 call x1 _) ?_
        subst H
        exact xc_ret (bh_6_11 call _ _)
set_option maxRecDepth 100000 in
theorem bh_15_1 (call : QC FA) (x1 : Int32) (L : QH FA) (F : Nat) : xnG call 15 (F + 2) 0 [some (vR 32), some (vI x1)] [] L = xnG call 15 F 2 [some (vR 32), some (vI x1)] [vI x1, vR 32] L := rfl
set_option maxRecDepth 100000 in
theorem bh_15_2 (call : QC FA) (a0 : Int32) (ls : List (Option PV)) (z : Nat → Int32) (f : Nat → FA) (F : Nat) : xnG call 15 (F + 1) 2 ls [vI a0, vR 32] (LW W z f) = cbd (call 8 [vR 32, vI a0] (LW W z f)) (fun r L' => xnG call 15 F 3 ls (r.toList ++ []) L') := pcY (ih := xnG call 15 F) (call := call) (a := 8) (b := 1) (v := 0) (t := 3) (x := 32) (ls := ls) (As := [vI a0]) (st' := []) (L := LW W z f) rfl rfl rfl
set_option maxRecDepth 100000 in
theorem bh_15_3 (call : QC FA) (x : Int32) (ls : List (Option PV)) (L : QH FA) (F : Nat) : xnG call 15 (F + 1) 3 ls [vI x] L = bif pcmp 3 x 0 then xnG call 15 F 4 ls [vI x] L else xnG call 15 F 4 ls [vI (0 - x)] L := pab (xnG call 15 F) 4 x ls [] L rfl
set_option maxRecDepth 100000 in
theorem bh_15_4 (call : QC FA) (x1 : Int32) (s0 : Int32) (L : QH FA) (F : Nat) : xnG call 15 (F + 2) 4 [some (vR 32), some (vI x1)] [vI s0] L = xnG call 15 F 6 [some (vR 32), some (vI x1)] [vI (s0 &&& 15)] L := rfl
set_option maxRecDepth 100000 in
theorem bh_15_5 (call : QC FA) (x : Int32) (ls : List (Option PV)) (L : QH FA) (F : Nat) : xnG call 15 (F + 1) 6 ls [vI x] L = some (some (vI x), L) := rfl
theorem vch_15_0 (call : QC FA) (x1 : Int32) (z : Nat → Int32) (f : Nat → FA) (res : Option PV × QH FA) (H : (∃ (r1 : Int32) (z1 : Nat → Int32) (f1 : Nat → FA), call 8 [vR 32, vI x1] (LW W z f) = some (some (vI r1), LW W z1 f1) ∧ ((0 ≤ I r1 → res = (some (vI (r1 &&& 15)), LW W z1 f1)) ∧ (I r1 < 0 → res = (some (vI ((0 - r1) &&& 15)), LW W z1 f1))))) : XC call (mP 15) 0 [some (vR 32), some (vI x1)] [] (LW W z f) res := by
  refine xc_b (i' := 2) (ls' := [some (vR 32), some (vI x1)]) (st' := [vI x1, vR 32]) (L' := LW W z f) 2 (bh_15_1 call x1 _) ?_
  obtain ⟨r1, z1, f1, hc, H⟩ := H
  refine xc_call (t := 3) (ls' := [some (vR 32), some (vI x1)]) (st' := []) (bh_15_2 call x1 _ z f) hc ?_
  show XC call (mP 15) 3 [some (vR 32), some (vI x1)] [vI r1] (LW W z1 f1) res
  refine xc_if2 (it := 4) (ie := 4) (ls' := [some (vR 32), some (vI x1)]) (st1 := [vI r1]) (st2 := [vI (0 - r1)]) (bh_15_3 call r1 _ _) (fun q1 => ?_) (fun q1 => ?_)
  · have H := H.1 (cI3t q1 rfl rfl)
    refine xc_b (i' := 6) (ls' := [some (vR 32), some (vI x1)]) (st' := [vI (r1 &&& 15)]) (L' := LW W z1 f1) 2 (bh_15_4 call x1 r1 _) ?_
    subst H
    exact xc_ret (bh_15_5 call _ _ _)
  · have H := H.2 (cI3f q1 rfl rfl)
    refine xc_b (i' := 6) (ls' := [some (vR 32), some (vI x1)]) (st' := [vI ((0 - r1) &&& 15)]) (L' := LW W z1 f1) 2 (bh_15_4 call x1 (0 - r1) _) ?_
    subst H
    exact xc_ret (bh_15_5 call _ _ _)
set_option maxRecDepth 100000 in
theorem bh_7_1 (call : QC FA) (x1 : Int32) (L : QH FA) (F : Nat) : xnG call 7 (F + 2) 0 [some (vR 32), some (vI x1)] [] L = xnG call 7 F 2 [some (vR 32), some (vI x1)] [vI x1, vR 32] L := rfl
set_option maxRecDepth 100000 in
theorem bh_7_2 (call : QC FA) (a0 : Int32) (ls : List (Option PV)) (z : Nat → Int32) (f : Nat → FA) (F : Nat) : xnG call 7 (F + 1) 2 ls [vI a0, vR 32] (LW W z f) = cbd (call 8 [vR 32, vI a0] (LW W z f)) (fun r L' => xnG call 7 F 3 ls (r.toList ++ []) L') := pcY (ih := xnG call 7 F) (call := call) (a := 8) (b := 1) (v := 0) (t := 3) (x := 32) (ls := ls) (As := [vI a0]) (st' := []) (L := LW W z f) rfl rfl rfl
set_option maxRecDepth 100000 in
theorem bh_7_3 (call : QC FA) (x1 : Int32) (s0 : Int32) (L : QH FA) (F : Nat) : xnG call 7 (F + 1) 3 [some (vR 32), some (vI x1)] [vI s0] L = xnG call 7 F 4 [some (vR 32), some (vI x1)] [vI 0, vI s0] L := rfl
set_option maxRecDepth 100000 in
theorem bh_7_4 (call : QC FA) (a0 : Int32) (a1 : Int32) (ls : List (Option PV)) (z : Nat → Int32) (f : Nat → FA) (F : Nat) : xnG call 7 (F + 1) 4 ls [vI a1, vI a0] (LW W z f) = cbd (call 9 [vI a0, vI a1] (LW W z f)) (fun r L' => xnG call 7 F 5 ls (r.toList ++ []) L') := pcZ (ih := xnG call 7 F) (call := call) (a := 9) (b := 2) (t := 5) (ls := ls) (As := [vI a0, vI a1]) (st' := []) (L := LW W z f) rfl rfl
set_option maxRecDepth 100000 in
theorem bh_7_5 (call : QC FA) (x : Int32) (ls : List (Option PV)) (L : QH FA) (F : Nat) : xnG call 7 (F + 1) 5 ls [vI x] L = some (some (vI x), L) := rfl
theorem vch_7_0 (call : QC FA) (x1 : Int32) (z : Nat → Int32) (f : Nat → FA) (res : Option PV × QH FA) (H : (∃ (r1 : Int32) (z1 : Nat → Int32) (f1 : Nat → FA), call 8 [vR 32, vI x1] (LW W z f) = some (some (vI r1), LW W z1 f1) ∧ (∃ (r2 : Int32) (z2 : Nat → Int32) (f2 : Nat → FA), call 9 [vI r1, vI 0] (LW W z1 f1) = some (some (vI r2), LW W z2 f2) ∧ res = (some (vI r2), LW W z2 f2)))) : XC call (mP 7) 0 [some (vR 32), some (vI x1)] [] (LW W z f) res := by
  refine xc_b (i' := 2) (ls' := [some (vR 32), some (vI x1)]) (st' := [vI x1, vR 32]) (L' := LW W z f) 2 (bh_7_1 call x1 _) ?_
  obtain ⟨r1, z1, f1, hc, H⟩ := H
  refine xc_call (t := 3) (ls' := [some (vR 32), some (vI x1)]) (st' := []) (bh_7_2 call x1 _ z f) hc ?_
  show XC call (mP 7) 3 [some (vR 32), some (vI x1)] [vI r1] (LW W z1 f1) res
  refine xc_b (i' := 4) (ls' := [some (vR 32), some (vI x1)]) (st' := [vI 0, vI r1]) (L' := LW W z1 f1) 1 (bh_7_3 call x1 r1 _) ?_
  obtain ⟨r2, z2, f2, hc, H⟩ := H
  refine xc_call (t := 5) (ls' := [some (vR 32), some (vI x1)]) (st' := []) (bh_7_4 call r1 0 _ z1 f1) hc ?_
  show XC call (mP 7) 5 [some (vR 32), some (vI x1)] [vI r2] (LW W z2 f2) res
  subst H
  exact xc_ret (bh_7_5 call _ _ _)
set_option maxRecDepth 100000 in
theorem bh_11_1 (call : QC FA) (x1 : Int32) (o2 : Option PV) (L : QH FA) (F : Nat) : xnG call 11 (F + 2) 0 [some (vR 32), some (vI x1), o2] [] L = xnG call 11 F 2 [some (vR 32), some (vI x1), o2] [vI x1, vR 32] L := rfl
set_option maxRecDepth 100000 in
theorem bh_11_2 (call : QC FA) (a0 : Int32) (ls : List (Option PV)) (z : Nat → Int32) (f : Nat → FA) (F : Nat) : xnG call 11 (F + 1) 2 ls [vI a0, vR 32] (LW W z f) = cbd (call 8 [vR 32, vI a0] (LW W z f)) (fun r L' => xnG call 11 F 3 ls (r.toList ++ []) L') := pcY (ih := xnG call 11 F) (call := call) (a := 8) (b := 1) (v := 0) (t := 3) (x := 32) (ls := ls) (As := [vI a0]) (st' := []) (L := LW W z f) rfl rfl rfl
set_option maxRecDepth 100000 in
theorem bh_11_3 (call : QC FA) (x1 : Int32) (o2 : Option PV) (s0 : Int32) (L : QH FA) (F : Nat) : xnG call 11 (F + 2) 3 [some (vR 32), some (vI x1), o2] [vI s0] L = xnG call 11 F 5 [some (vR 32), some (vI x1), some (vI s0)] [vI s0] L := rfl
set_option maxRecDepth 100000 in
theorem bh_11_4 (call : QC FA) (x : Int32) (ls : List (Option PV)) (L : QH FA) (F : Nat) : xnG call 11 (F + 1) 5 ls [vI x] L = bif pcmp 1 x 0 then xnG call 11 F 8 ls [] L else xnG call 11 F 6 ls [] L := rfl
set_option maxRecDepth 100000 in
theorem bh_11_5 (call : QC FA) (x1 : Int32) (x2 : Int32) (L : QH FA) (F : Nat) : xnG call 11 (F + 1) 8 [some (vR 32), some (vI x1), some (vI x2)] [] L = xnG call 11 F 9 [some (vR 32), some (vI x1), some (vI x2)] [vI x2] L := rfl
set_option maxRecDepth 100000 in
theorem bh_11_6 (call : QC FA) (x : Int32) (ls : List (Option PV)) (L : QH FA) (F : Nat) : xnG call 11 (F + 1) 9 ls [vI x] L = bif pcmp 3 x 0 then xnG call 11 F 10 ls [vI x] L else xnG call 11 F 10 ls [vI (0 - x)] L := pab (xnG call 11 F) 10 x ls [] L rfl
set_option maxRecDepth 100000 in
theorem bh_11_7 (call : QC FA) (x1 : Int32) (x2 : Int32) (s0 : Int32) (L : QH FA) (F : Nat) : xnG call 11 (F + 2) 10 [some (vR 32), some (vI x1), some (vI x2)] [vI s0] L = xnG call 11 F 12 [some (vR 32), some (vI x1), some (vI x2)] [vI (s0 >>> (4 &&& 31))] L := rfl
set_option maxRecDepth 100000 in
theorem bh_11_8 (call : QC FA) (x : Int32) (ls : List (Option PV)) (L : QH FA) (F : Nat) : xnG call 11 (F + 1) 12 ls [vI x] L = some (some (vI x), L) := rfl
set_option maxRecDepth 100000 in
theorem bh_11_9 (call : QC FA) (x1 : Int32) (x2 : Int32) (L : QH FA) (F : Nat) : xnG call 11 (F + 2) 6 [some (vR 32), some (vI x1), some (vI x2)] [] L = xnG call 11 F 12 [some (vR 32), some (vI x1), some (vI x2)] [vI ((-1))] L := rfl
theorem vch_11_0 (call : QC FA) (x1 : Int32) (o2 : Option PV) (z : Nat → Int32) (f : Nat → FA) (res : Option PV × QH FA) (H : (∃ (r1 : Int32) (z1 : Nat → Int32) (f1 : Nat → FA), call 8 [vR 32, vI x1] (LW W z f) = some (some (vI r1), LW W z1 f1) ∧ ((¬ r1 = 0 → ((0 ≤ I r1 → res = (some (vI (r1 >>> (4 &&& 31))), LW W z1 f1)) ∧ (I r1 < 0 → res = (some (vI ((0 - r1) >>> (4 &&& 31))), LW W z1 f1)))) ∧ (r1 = 0 → res = (some (vI ((-1))), LW W z1 f1))))) : XC call (mP 11) 0 [some (vR 32), some (vI x1), o2] [] (LW W z f) res := by
  refine xc_b (i' := 2) (ls' := [some (vR 32), some (vI x1), o2]) (st' := [vI x1, vR 32]) (L' := LW W z f) 2 (bh_11_1 call x1 o2 _) ?_
  obtain ⟨r1, z1, f1, hc, H⟩ := H
  refine xc_call (t := 3) (ls' := [some (vR 32), some (vI x1), o2]) (st' := []) (bh_11_2 call x1 _ z f) hc ?_
  show XC call (mP 11) 3 [some (vR 32), some (vI x1), o2] [vI r1] (LW W z1 f1) res
  refine xc_b (i' := 5) (ls' := [some (vR 32), some (vI x1), some (vI r1)]) (st' := [vI r1]) (L' := LW W z1 f1) 2 (bh_11_3 call x1 o2 r1 _) ?_
  refine xc_if (it := 8) (ie := 6) (ls' := [some (vR 32), some (vI x1), some (vI r1)]) (st' := []) (bh_11_4 call r1 _ _) (fun q1 => ?_) (fun q1 => ?_)
  · have H := H.1 (cI1t q1)
    refine xc_b (i' := 9) (ls' := [some (vR 32), some (vI x1), some (vI r1)]) (st' := [vI r1]) (L' := LW W z1 f1) 1 (bh_11_5 call x1 r1 _) ?_
    refine xc_if2 (it := 10) (ie := 10) (ls' := [some (vR 32), some (vI x1), some (vI r1)]) (st1 := [vI r1]) (st2 := [vI (0 - r1)]) (bh_11_6 call r1 _ _) (fun q2 => ?_) (fun q2 => ?_)
    · have H := H.1 (cI3t q2 rfl rfl)
      refine xc_b (i' := 12) (ls' := [some (vR 32), some (vI x1), some (vI r1)]) (st' := [vI (r1 >>> (4 &&& 31))]) (L' := LW W z1 f1) 2 (bh_11_7 call x1 r1 r1 _) ?_
      subst H
      exact xc_ret (bh_11_8 call _ _ _)
    · have H := H.2 (cI3f q2 rfl rfl)
      refine xc_b (i' := 12) (ls' := [some (vR 32), some (vI x1), some (vI r1)]) (st' := [vI ((0 - r1) >>> (4 &&& 31))]) (L' := LW W z1 f1) 2 (bh_11_7 call x1 r1 (0 - r1) _) ?_
      subst H
      exact xc_ret (bh_11_8 call _ _ _)
  · have H := H.2 (cI1f q1)
    refine xc_b (i' := 12) (ls' := [some (vR 32), some (vI x1), some (vI r1)]) (st' := [vI ((-1))]) (L' := LW W z1 f1) 2 (bh_11_9 call x1 r1 _) ?_
    subst H
    exact xc_ret (bh_11_8 call _ _ _)
set_option maxRecDepth 100000 in
theorem bh_86_1 (call : QC FA) (x1 : Int32) (x2 : Int32) (x3 : Int32) (x4 : Int32) (L : QH FA) (F : Nat) : xnG call 86 (F + 1) 0 [some (vR 32), some (vI x1), some (vI x2), some (vI x3), some (vI x4)] [] L = xnG call 86 F 1 [some (vR 32), some (vI x1), some (vI x2), some (vI x3), some (vI x4)] [vI x1] L := rfl
set_option maxRecDepth 100000 in
theorem bh_86_2 (call : QC FA) (x : Int32) (ls : List (Option PV)) (L : QH FA) (F : Nat) : xnG call 86 (F + 1) 1 ls [vI x] L = bif pcmp 2 x 0 then xnG call 86 F 16 ls [] L else xnG call 86 F 2 ls [] L := rfl
set_option maxRecDepth 100000 in
theorem bh_86_3 (call : QC FA) (ls : List (Option PV)) (L : QH FA) (F : Nat) : xnG call 86 (F + 1) 16 ls [] L = some (none, L) := rfl
set_option maxRecDepth 100000 in
theorem bh_86_4 (call : QC FA) (x1 : Int32) (x2 : Int32) (x3 : Int32) (x4 : Int32) (L : QH FA) (F : Nat) : xnG call 86 (F + 2) 2 [some (vR 32), some (vI x1), some (vI x2), some (vI x3), some (vI x4)] [] L = xnG call 86 F 4 [some (vR 32), some (vI x1), some (vI x2), some (vI x3), some (vI x4)] [vI 144, vI x1] L := rfl
set_option maxRecDepth 100000 in
theorem bh_86_5 (call : QC FA) (x y : Int32) (ls : List (Option PV)) (L : QH FA) (F : Nat) : xnG call 86 (F + 1) 4 ls [vI y, vI x] L = bif pcmp 3 x y then xnG call 86 F 16 ls [] L else xnG call 86 F 5 ls [] L := rfl
set_option maxRecDepth 100000 in
theorem bh_86_6 (call : QC FA) (x1 : Int32) (x2 : Int32) (x3 : Int32) (x4 : Int32) (z : Nat → Int32) (f : Nat → FA) (F : Nat) : xnG call 86 (F + 10) 5 [some (vR 32), some (vI x1), some (vI x2), some (vI x3), some (vI x4)] [] (LW W z f) = xnG call 86 F 15 [some (vR 32), some (vI x1), some (vI x2), some (vI x3), some (vI x4)] [vI (x3 * ((x2 * 16) + x4)), vI x1, vR 34] (LW W z f) := rfl
set_option maxRecDepth 100000 in
theorem bh_86_7 (call : QC FA) (x y : Int32) (ls : List (Option PV)) (z : Nat → Int32) (f : Nat → FA) (F : Nat) : xnG call 86 (F + 1) 15 ls [vI y, vI x, vR 34] (LW W z f) = bif (Nat.beq 0 0 && pin x 144) then xnG call 86 F 16 ls [] (LW W z (uA f 34 (upd (f 34) (ix x) y))) else none := rfl
theorem vch_86_0 (call : QC FA) (x1 : Int32) (x2 : Int32) (x3 : Int32) (x4 : Int32) (z : Nat → Int32) (f : Nat → FA) (res : Option PV × QH FA) (H : ((I x1 < 0 → res = (none, LW W z f)) ∧ (0 ≤ I x1 → ((144 ≤ I x1 → res = (none, LW W z f)) ∧ (I x1 < 144 → (pin x1 144 = true ∧ res = (none, LW W z (uA f 34 (upd (f 34) (ix x1) (x3 * ((x2 * 16) + x4))))))))))) : XC call (mP 86) 0 [some (vR 32), some (vI x1), some (vI x2), some (vI x3), some (vI x4)] [] (LW W z f) res := by
  refine xc_b (i' := 1) (ls' := [some (vR 32), some (vI x1), some (vI x2), some (vI x3), some (vI x4)]) (st' := [vI x1]) (L' := LW W z f) 1 (bh_86_1 call x1 x2 x3 x4 _) ?_
  refine xc_if (it := 16) (ie := 2) (ls' := [some (vR 32), some (vI x1), some (vI x2), some (vI x3), some (vI x4)]) (st' := []) (bh_86_2 call x1 _ _) (fun q1 => ?_) (fun q1 => ?_)
  · have H := H.1 (cI2t q1 rfl rfl)
    subst H
    exact xc_ret (bh_86_3 call _ _)
  · have H := H.2 (cI2f q1 rfl rfl)
    refine xc_b (i' := 4) (ls' := [some (vR 32), some (vI x1), some (vI x2), some (vI x3), some (vI x4)]) (st' := [vI 144, vI x1]) (L' := LW W z f) 2 (bh_86_4 call x1 x2 x3 x4 _) ?_
    refine xc_if (it := 16) (ie := 5) (ls' := [some (vR 32), some (vI x1), some (vI x2), some (vI x3), some (vI x4)]) (st' := []) (bh_86_5 call x1 144 _ _) (fun q2 => ?_) (fun q2 => ?_)
    · have H := H.1 (cI3t q2 rfl rfl)
      subst H
      exact xc_ret (bh_86_3 call _ _)
    · have H := H.2 (cI3f q2 rfl rfl)
      refine xc_b (i' := 15) (ls' := [some (vR 32), some (vI x1), some (vI x2), some (vI x3), some (vI x4)]) (st' := [vI (x3 * ((x2 * 16) + x4)), vI x1, vR 34]) (L' := LW W z f) 10 (bh_86_6 call x1 x2 x3 x4 z f) ?_
      obtain ⟨g1, H⟩ := H
      refine xc_g (i' := 16) (ls' := [some (vR 32), some (vI x1), some (vI x2), some (vI x3), some (vI x4)]) (st' := []) (L' := LW W z (uA f 34 (upd (f 34) (ix x1) (x3 * ((x2 * 16) + x4))))) (bh_86_7 call x1 (x3 * ((x2 * 16) + x4)) _ z f) (pinG g1) ?_
      subst H
      exact xc_ret (bh_86_3 call _ _)
set_option maxRecDepth 100000 in
theorem bh_89_1 (call : QC FA) (x1 : Int32) (L : QH FA) (F : Nat) : xnG call 89 (F + 1) 0 [some (vR 32), some (vI x1)] [] L = xnG call 89 F 1 [some (vR 32), some (vI x1)] [vI x1] L := rfl
set_option maxRecDepth 100000 in
theorem bh_89_2 (call : QC FA) (x : Int32) (ls : List (Option PV)) (L : QH FA) (F : Nat) : xnG call 89 (F + 1) 1 ls [vI x] L = bif pcmp 2 x 0 then xnG call 89 F 10 ls [] L else xnG call 89 F 2 ls [] L := rfl
set_option maxRecDepth 100000 in
theorem bh_89_3 (call : QC FA) (ls : List (Option PV)) (L : QH FA) (F : Nat) : xnG call 89 (F + 1) 10 ls [] L = some (none, L) := rfl
set_option maxRecDepth 100000 in
theorem bh_89_4 (call : QC FA) (x1 : Int32) (L : QH FA) (F : Nat) : xnG call 89 (F + 2) 2 [some (vR 32), some (vI x1)] [] L = xnG call 89 F 4 [some (vR 32), some (vI x1)] [vI 144, vI x1] L := rfl
set_option maxRecDepth 100000 in
theorem bh_89_5 (call : QC FA) (x y : Int32) (ls : List (Option PV)) (L : QH FA) (F : Nat) : xnG call 89 (F + 1) 4 ls [vI y, vI x] L = bif pcmp 3 x y then xnG call 89 F 10 ls [] L else xnG call 89 F 5 ls [] L := rfl
set_option maxRecDepth 100000 in
theorem bh_89_6 (call : QC FA) (x1 : Int32) (z : Nat → Int32) (f : Nat → FA) (F : Nat) : xnG call 89 (F + 4) 5 [some (vR 32), some (vI x1)] [] (LW W z f) = xnG call 89 F 9 [some (vR 32), some (vI x1)] [vI 0, vI x1, vR 34] (LW W z f) := rfl
set_option maxRecDepth 100000 in
theorem bh_89_7 (call : QC FA) (x y : Int32) (ls : List (Option PV)) (z : Nat → Int32) (f : Nat → FA) (F : Nat) : xnG call 89 (F + 1) 9 ls [vI y, vI x, vR 34] (LW W z f) = bif (Nat.beq 0 0 && pin x 144) then xnG call 89 F 10 ls [] (LW W z (uA f 34 (upd (f 34) (ix x) y))) else none := rfl
theorem vch_89_0 (call : QC FA) (x1 : Int32) (z : Nat → Int32) (f : Nat → FA) (res : Option PV × QH FA) (H : ((I x1 < 0 → res = (none, LW W z f)) ∧ (0 ≤ I x1 → ((144 ≤ I x1 → res = (none, LW W z f)) ∧ (I x1 < 144 → (pin x1 144 = true ∧ res = (none, LW W z (uA f 34 (upd (f 34) (ix x1) 0))))))))) : XC call (mP 89) 0 [some (vR 32), some (vI x1)] [] (LW W z f) res := by
  refine xc_b (i' := 1) (ls' := [some (vR 32), some (vI x1)]) (st' := [vI x1]) (L' := LW W z f) 1 (bh_89_1 call x1 _) ?_
  refine xc_if (it := 10) (ie := 2) (ls' := [some (vR 32), some (vI x1)]) (st' := []) (bh_89_2 call x1 _ _) (fun q1 => ?_) (fun q1 => ?_)
  · have H := H.1 (cI2t q1 rfl rfl)
    subst H
    exact xc_ret (bh_89_3 call _ _)
  · have H := H.2 (cI2f q1 rfl rfl)
    refine xc_b (i' := 4) (ls' := [some (vR 32), some (vI x1)]) (st' := [vI 144, vI x1]) (L' := LW W z f) 2 (bh_89_4 call x1 _) ?_
    refine xc_if (it := 10) (ie := 5) (ls' := [some (vR 32), some (vI x1)]) (st' := []) (bh_89_5 call x1 144 _ _) (fun q2 => ?_) (fun q2 => ?_)
    · have H := H.1 (cI3t q2 rfl rfl)
      subst H
      exact xc_ret (bh_89_3 call _ _)
    · have H := H.2 (cI3f q2 rfl rfl)
      refine xc_b (i' := 9) (ls' := [some (vR 32), some (vI x1)]) (st' := [vI 0, vI x1, vR 34]) (L' := LW W z f) 4 (bh_89_6 call x1 z f) ?_
      obtain ⟨g1, H⟩ := H
      refine xc_g (i' := 10) (ls' := [some (vR 32), some (vI x1)]) (st' := []) (L' := LW W z (uA f 34 (upd (f 34) (ix x1) 0))) (bh_89_7 call x1 0 _ z f) (pinG g1) ?_
      subst H
      exact xc_ret (bh_89_3 call _ _)
set_option maxRecDepth 100000 in
theorem bh_91_1 (call : QC FA) (x1 : Int32) (L : QH FA) (F : Nat) : xnG call 91 (F + 2) 0 [some (vR 32), some (vI x1)] [] L = xnG call 91 F 2 [some (vR 32), some (vI x1)] [vI x1, vR 32] L := rfl
set_option maxRecDepth 100000 in
theorem bh_91_2 (call : QC FA) (a0 : Int32) (ls : List (Option PV)) (z : Nat → Int32) (f : Nat → FA) (F : Nat) : xnG call 91 (F + 1) 2 ls [vI a0, vR 32] (LW W z f) = cbd (call 6 [vR 32, vI a0] (LW W z f)) (fun r L' => xnG call 91 F 3 ls (r.toList ++ []) L') := pcY (ih := xnG call 91 F) (call := call) (a := 6) (b := 1) (v := 0) (t := 3) (x := 32) (ls := ls) (As := [vI a0]) (st' := []) (L := LW W z f) rfl rfl rfl
set_option maxRecDepth 100000 in
theorem bh_91_3 (call : QC FA) (x : Int32) (ls : List (Option PV)) (L : QH FA) (F : Nat) : xnG call 91 (F + 1) 3 ls [vI x] L = bif pcmp 0 x 0 then xnG call 91 F 19 ls [] L else xnG call 91 F 4 ls [] L := rfl
set_option maxRecDepth 100000 in
theorem bh_91_4 (call : QC FA) (ls : List (Option PV)) (L : QH FA) (F : Nat) : xnG call 91 (F + 1) 19 ls [] L = some (none, L) := rfl
set_option maxRecDepth 100000 in
theorem bh_91_5 (call : QC FA) (x1 : Int32) (L : QH FA) (F : Nat) : xnG call 91 (F + 2) 4 [some (vR 32), some (vI x1)] [] L = xnG call 91 F 6 [some (vR 32), some (vI x1)] [vI x1, vR 32] L := rfl
set_option maxRecDepth 100000 in
theorem bh_91_6 (call : QC FA) (a0 : Int32) (ls : List (Option PV)) (z : Nat → Int32) (f : Nat → FA) (F : Nat) : xnG call 91 (F + 1) 6 ls [vI a0, vR 32] (LW W z f) = cbd (call 15 [vR 32, vI a0] (LW W z f)) (fun r L' => xnG call 91 F 7 ls (r.toList ++ []) L') := pcY (ih := xnG call 91 F) (call := call) (a := 15) (b := 1) (v := 0) (t := 7) (x := 32) (ls := ls) (As := [vI a0]) (st' := []) (L := LW W z f) rfl rfl rfl
set_option maxRecDepth 100000 in
theorem bh_91_7 (call : QC FA) (x1 : Int32) (s0 : Int32) (L : QH FA) (F : Nat) : xnG call 91 (F + 1) 7 [some (vR 32), some (vI x1)] [vI s0] L = xnG call 91 F 8 [some (vR 32), some (vI x1)] [vI 1, vI s0] L := rfl
set_option maxRecDepth 100000 in
theorem bh_91_8 (call : QC FA) (x y : Int32) (ls : List (Option PV)) (L : QH FA) (F : Nat) : xnG call 91 (F + 1) 8 ls [vI y, vI x] L = bif pcmp 5 x y then xnG call 91 F 19 ls [] L else xnG call 91 F 9 ls [] L := rfl
set_option maxRecDepth 100000 in
theorem bh_91_9 (call : QC FA) (x1 : Int32) (z : Nat → Int32) (f : Nat → FA) (F : Nat) : xnG call 91 (F + 4) 9 [some (vR 32), some (vI x1)] [] (LW W z f) = xnG call 91 F 13 [some (vR 32), some (vI x1)] [vI x1, vR 34, vI x1, vR 34] (LW W z f) := rfl
set_option maxRecDepth 100000 in
theorem bh_91_10 (call : QC FA) (x : Int32) (s0 : Int32) (ls : List (Option PV)) (z : Nat → Int32) (f : Nat → FA) (F : Nat) : xnG call 91 (F + 1) 13 ls [vI x, vR 34, vI s0, vR 34] (LW W z f) = bif (Nat.beq 0 0 && pin x 144) then xnG call 91 F 14 ls [vI (f 34 (ix x)), vI s0, vR 34] (LW W z f) else none := rfl
set_option maxRecDepth 100000 in
theorem bh_91_11 (call : QC FA) (x1 : Int32) (s0 : Int32) (s1 : Int32) (L : QH FA) (F : Nat) : xnG call 91 (F + 2) 14 [some (vR 32), some (vI x1)] [vI s0, vI s1, vR 34] L = xnG call 91 F 16 [some (vR 32), some (vI x1)] [vI x1, vR 32, vI s0, vI s1, vR 34] L := rfl
set_option maxRecDepth 100000 in
theorem bh_91_12 (call : QC FA) (a0 : Int32) (s0 : Int32) (s1 : Int32) (ls : List (Option PV)) (z : Nat → Int32) (f : Nat → FA) (F : Nat) : xnG call 91 (F + 1) 16 ls [vI a0, vR 32, vI s0, vI s1, vR 34] (LW W z f) = cbd (call 7 [vR 32, vI a0] (LW W z f)) (fun r L' => xnG call 91 F 17 ls (r.toList ++ [vI s0, vI s1, vR 34]) L') := pcY (ih := xnG call 91 F) (call := call) (a := 7) (b := 1) (v := 0) (t := 17) (x := 32) (ls := ls) (As := [vI a0]) (st' := [vI s0, vI s1, vR 34]) (L := LW W z f) rfl rfl rfl
set_option maxRecDepth 100000 in
theorem bh_91_13 (call : QC FA) (x1 : Int32) (s0 : Int32) (s1 : Int32) (s2 : Int32) (L : QH FA) (F : Nat) : xnG call 91 (F + 1) 17 [some (vR 32), some (vI x1)] [vI s0, vI s1, vI s2, vR 34] L = xnG call 91 F 18 [some (vR 32), some (vI x1)] [vI (s1 - s0), vI s2, vR 34] L := rfl
set_option maxRecDepth 100000 in
theorem bh_91_14 (call : QC FA) (x y : Int32) (ls : List (Option PV)) (z : Nat → Int32) (f : Nat → FA) (F : Nat) : xnG call 91 (F + 1) 18 ls [vI y, vI x, vR 34] (LW W z f) = bif (Nat.beq 0 0 && pin x 144) then xnG call 91 F 19 ls [] (LW W z (uA f 34 (upd (f 34) (ix x) y))) else none := rfl
theorem vch_91_0 (call : QC FA) (x1 : Int32) (z : Nat → Int32) (f : Nat → FA) (res : Option PV × QH FA) (H : (∃ (r1 : Int32) (z1 : Nat → Int32) (f1 : Nat → FA), call 6 [vR 32, vI x1] (LW W z f) = some (some (vI r1), LW W z1 f1) ∧ ((r1 = 0 → res = (none, LW W z1 f1)) ∧ (¬ r1 = 0 → (∃ (r2 : Int32) (z2 : Nat → Int32) (f2 : Nat → FA), call 15 [vR 32, vI x1] (LW W z1 f1) = some (some (vI r2), LW W z2 f2) ∧ ((I r2 ≤ 1 → res = (none, LW W z2 f2)) ∧ (1 < I r2 → (pin x1 144 = true ∧ (∃ (r3 : Int32) (z3 : Nat → Int32) (f3 : Nat → FA), call 7 [vR 32, vI x1] (LW W z2 f2) = some (some (vI r3), LW W z3 f3) ∧ (pin x1 144 = true ∧ res = (none, LW W z3 (uA f3 34 (upd (f3 34) (ix x1) ((f2 34 (ix x1)) - r3)))))))))))))) : XC call (mP 91) 0 [some (vR 32), some (vI x1)] [] (LW W z f) res := by
  refine xc_b (i' := 2) (ls' := [some (vR 32), some (vI x1)]) (st' := [vI x1, vR 32]) (L' := LW W z f) 2 (bh_91_1 call x1 _) ?_
  obtain ⟨r1, z1, f1, hc, H⟩ := H
  refine xc_call (t := 3) (ls' := [some (vR 32), some (vI x1)]) (st' := []) (bh_91_2 call x1 _ z f) hc ?_
  show XC call (mP 91) 3 [some (vR 32), some (vI x1)] [vI r1] (LW W z1 f1) res
  refine xc_if (it := 19) (ie := 4) (ls' := [some (vR 32), some (vI x1)]) (st' := []) (bh_91_3 call r1 _ _) (fun q1 => ?_) (fun q1 => ?_)
  · have H := H.1 (cI0t q1)
    subst H
    exact xc_ret (bh_91_4 call _ _)
  · have H := H.2 (cI0f q1)
    refine xc_b (i' := 6) (ls' := [some (vR 32), some (vI x1)]) (st' := [vI x1, vR 32]) (L' := LW W z1 f1) 2 (bh_91_5 call x1 _) ?_
    obtain ⟨r2, z2, f2, hc, H⟩ := H
    refine xc_call (t := 7) (ls' := [some (vR 32), some (vI x1)]) (st' := []) (bh_91_6 call x1 _ z1 f1) hc ?_
    show XC call (mP 91) 7 [some (vR 32), some (vI x1)] [vI r2] (LW W z2 f2) res
    refine xc_b (i' := 8) (ls' := [some (vR 32), some (vI x1)]) (st' := [vI 1, vI r2]) (L' := LW W z2 f2) 1 (bh_91_7 call x1 r2 _) ?_
    refine xc_if (it := 19) (ie := 9) (ls' := [some (vR 32), some (vI x1)]) (st' := []) (bh_91_8 call r2 1 _ _) (fun q2 => ?_) (fun q2 => ?_)
    · have H := H.1 (cI5t q2 rfl rfl)
      subst H
      exact xc_ret (bh_91_4 call _ _)
    · have H := H.2 (cI5f q2 rfl rfl)
      refine xc_b (i' := 13) (ls' := [some (vR 32), some (vI x1)]) (st' := [vI x1, vR 34, vI x1, vR 34]) (L' := LW W z2 f2) 4 (bh_91_9 call x1 z2 f2) ?_
      obtain ⟨g1, H⟩ := H
      refine xc_g (i' := 14) (ls' := [some (vR 32), some (vI x1)]) (st' := [vI (f2 34 (ix x1)), vI x1, vR 34]) (L' := LW W z2 f2) (bh_91_10 call x1 x1 _ z2 f2) (pinG g1) ?_
      refine xc_b (i' := 16) (ls' := [some (vR 32), some (vI x1)]) (st' := [vI x1, vR 32, vI (f2 34 (ix x1)), vI x1, vR 34]) (L' := LW W z2 f2) 2 (bh_91_11 call x1 (f2 34 (ix x1)) x1 _) ?_
      obtain ⟨r3, z3, f3, hc, H⟩ := H
      refine xc_call (t := 17) (ls' := [some (vR 32), some (vI x1)]) (st' := [vI (f2 34 (ix x1)), vI x1, vR 34]) (bh_91_12 call x1 (f2 34 (ix x1)) x1 _ z2 f2) hc ?_
      show XC call (mP 91) 17 [some (vR 32), some (vI x1)] [vI r3, vI (f2 34 (ix x1)), vI x1, vR 34] (LW W z3 f3) res
      refine xc_b (i' := 18) (ls' := [some (vR 32), some (vI x1)]) (st' := [vI ((f2 34 (ix x1)) - r3), vI x1, vR 34]) (L' := LW W z3 f3) 1 (bh_91_13 call x1 r3 (f2 34 (ix x1)) x1 _) ?_
      obtain ⟨g1, H⟩ := H
      refine xc_g (i' := 19) (ls' := [some (vR 32), some (vI x1)]) (st' := []) (L' := LW W z3 (uA f3 34 (upd (f3 34) (ix x1) ((f2 34 (ix x1)) - r3)))) (bh_91_14 call x1 ((f2 34 (ix x1)) - r3) _ z3 f3) (pinG g1) ?_
      subst H
      exact xc_ret (bh_91_4 call _ _)
set_option maxRecDepth 100000 in
theorem bh_16_1 (call : QC FA) (x1 : Int32) (o2 : Option PV) (o3 : Option PV) (L : QH FA) (F : Nat) : xnG call 16 (F + 2) 0 [some (vR 32), some (vI x1), o2, o3] [] L = xnG call 16 F 2 [some (vR 32), some (vI x1), o2, o3] [vI 12, vI x1] L := rfl
set_option maxRecDepth 100000 in
theorem bh_16_2 (call : QC FA) (x y : Int32) (ls : List (Option PV)) (L : QH FA) (F : Nat) : xnG call 16 (F + 1) 2 ls [vI y, vI x] L = bif pcmp 1 y 0 then xnG call 16 F 3 ls [vI (x - x / y * y)] L else none := rfl
set_option maxRecDepth 100000 in
theorem bh_16_3 (call : QC FA) (x1 : Int32) (o2 : Option PV) (o3 : Option PV) (s0 : Int32) (L : QH FA) (F : Nat) : xnG call 16 (F + 5) 3 [some (vR 32), some (vI x1), o2, o3] [vI s0] L = xnG call 16 F 8 [some (vR 32), some (vI x1), some (vI s0), o3] [vI (x1 + 12), vR 32] L := rfl
set_option maxRecDepth 100000 in
theorem bh_16_4 (call : QC FA) (a0 : Int32) (ls : List (Option PV)) (z : Nat → Int32) (f : Nat → FA) (F : Nat) : xnG call 16 (F + 1) 8 ls [vI a0, vR 32] (LW W z f) = cbd (call 6 [vR 32, vI a0] (LW W z f)) (fun r L' => xnG call 16 F 9 ls (r.toList ++ []) L') := pcY (ih := xnG call 16 F) (call := call) (a := 6) (b := 1) (v := 0) (t := 9) (x := 32) (ls := ls) (As := [vI a0]) (st' := []) (L := LW W z f) rfl rfl rfl
set_option maxRecDepth 100000 in
theorem bh_16_5 (call : QC FA) (x : Int32) (ls : List (Option PV)) (L : QH FA) (F : Nat) : xnG call 16 (F + 1) 9 ls [vI x] L = bif pcmp 0 x 0 then xnG call 16 F 12 ls [] L else xnG call 16 F 10 ls [] L := rfl
set_option maxRecDepth 100000 in
theorem bh_16_6 (call : QC FA) (x1 : Int32) (x2 : Int32) (o3 : Option PV) (L : QH FA) (F : Nat) : xnG call 16 (F + 7) 12 [some (vR 32), some (vI x1), some (vI x2), o3] [] L = xnG call 16 F 19 [some (vR 32), some (vI x1), some (vI x2), some (vI 0)] [vI (x1 - 12), vR 32, vI 0] L := rfl
set_option maxRecDepth 100000 in
theorem bh_16_7 (call : QC FA) (a0 : Int32) (s0 : Int32) (ls : List (Option PV)) (z : Nat → Int32) (f : Nat → FA) (F : Nat) : xnG call 16 (F + 1) 19 ls [vI a0, vR 32, vI s0] (LW W z f) = cbd (call 6 [vR 32, vI a0] (LW W z f)) (fun r L' => xnG call 16 F 20 ls (r.toList ++ [vI s0]) L') := pcY (ih := xnG call 16 F) (call := call) (a := 6) (b := 1) (v := 0) (t := 20) (x := 32) (ls := ls) (As := [vI a0]) (st' := [vI s0]) (L := LW W z f) rfl rfl rfl
set_option maxRecDepth 100000 in
theorem bh_16_8 (call : QC FA) (x : Int32) (s0 : Int32) (ls : List (Option PV)) (L : QH FA) (F : Nat) : xnG call 16 (F + 1) 20 ls [vI x, vI s0] L = bif pcmp 0 x 0 then xnG call 16 F 23 ls [vI s0] L else xnG call 16 F 21 ls [vI s0] L := rfl
set_option maxRecDepth 100000 in
theorem bh_16_9 (call : QC FA) (x1 : Int32) (x2 : Int32) (x3 : Int32) (s0 : Int32) (L : QH FA) (F : Nat) : xnG call 16 (F + 5) 23 [some (vR 32), some (vI x1), some (vI x2), some (vI x3)] [vI s0] L = xnG call 16 F 28 [some (vR 32), some (vI x1), some (vI x2), some (vI (s0 + 0))] [vI x2, vI (s0 + 0)] L := rfl
set_option maxRecDepth 100000 in
theorem bh_16_10 (call : QC FA) (x : Int32) (s0 : Int32) (ls : List (Option PV)) (L : QH FA) (F : Nat) : xnG call 16 (F + 1) 28 ls [vI x, vI s0] L = bif pcmp 5 x 0 then xnG call 16 F 37 ls [vI s0] L else xnG call 16 F 29 ls [vI s0] L := rfl
set_option maxRecDepth 100000 in
theorem bh_16_11 (call : QC FA) (x1 : Int32) (x2 : Int32) (x3 : Int32) (s0 : Int32) (L : QH FA) (F : Nat) : xnG call 16 (F + 6) 37 [some (vR 32), some (vI x1), some (vI x2), some (vI x3)] [vI s0] L = xnG call 16 F 43 [some (vR 32), some (vI x1), some (vI x2), some (vI (s0 + 0))] [vI 11, vI x2, vI (s0 + 0)] L := rfl
set_option maxRecDepth 100000 in
theorem bh_16_12 (call : QC FA) (x y : Int32) (s0 : Int32) (ls : List (Option PV)) (L : QH FA) (F : Nat) : xnG call 16 (F + 1) 43 ls [vI y, vI x, vI s0] L = bif pcmp 3 x y then xnG call 16 F 52 ls [vI s0] L else xnG call 16 F 44 ls [vI s0] L := rfl
set_option maxRecDepth 100000 in
theorem bh_16_13 (call : QC FA) (x1 : Int32) (x2 : Int32) (x3 : Int32) (s0 : Int32) (L : QH FA) (F : Nat) : xnG call 16 (F + 4) 52 [some (vR 32), some (vI x1), some (vI x2), some (vI x3)] [vI s0] L = xnG call 16 F 56 [some (vR 32), some (vI x1), some (vI x2), some (vI (s0 + 0))] [vI (s0 + 0)] L := rfl
set_option maxRecDepth 100000 in
theorem bh_16_14 (call : QC FA) (x : Int32) (ls : List (Option PV)) (L : QH FA) (F : Nat) : xnG call 16 (F + 1) 56 ls [vI x] L = some (some (vI x), L) := rfl
set_option maxRecDepth 100000 in
theorem bh_16_15 (call : QC FA) (x1 : Int32) (x2 : Int32) (x3 : Int32) (s0 : Int32) (L : QH FA) (F : Nat) : xnG call 16 (F + 4) 44 [some (vR 32), some (vI x1), some (vI x2), some (vI x3)] [vI s0] L = xnG call 16 F 48 [some (vR 32), some (vI x1), some (vI x2), some (vI x3)] [vI (x1 + 1), vR 32, vI s0] L := rfl
set_option maxRecDepth 100000 in
theorem bh_16_16 (call : QC FA) (a0 : Int32) (s0 : Int32) (ls : List (Option PV)) (z : Nat → Int32) (f : Nat → FA) (F : Nat) : xnG call 16 (F + 1) 48 ls [vI a0, vR 32, vI s0] (LW W z f) = cbd (call 6 [vR 32, vI a0] (LW W z f)) (fun r L' => xnG call 16 F 49 ls (r.toList ++ [vI s0]) L') := pcY (ih := xnG call 16 F) (call := call) (a := 6) (b := 1) (v := 0) (t := 49) (x := 32) (ls := ls) (As := [vI a0]) (st' := [vI s0]) (L := LW W z f) rfl rfl rfl
set_option maxRecDepth 100000 in
theorem bh_16_17 (call : QC FA) (x : Int32) (s0 : Int32) (ls : List (Option PV)) (L : QH FA) (F : Nat) : xnG call 16 (F + 1) 49 ls [vI x, vI s0] L = bif pcmp 0 x 0 then xnG call 16 F 52 ls [vI s0] L else xnG call 16 F 50 ls [vI s0] L := rfl
set_option maxRecDepth 100000 in
theorem bh_16_18 (call : QC FA) (x1 : Int32) (x2 : Int32) (x3 : Int32) (s0 : Int32) (L : QH FA) (F : Nat) : xnG call 16 (F + 5) 50 [some (vR 32), some (vI x1), some (vI x2), some (vI x3)] [vI s0] L = xnG call 16 F 56 [some (vR 32), some (vI x1), some (vI x2), some (vI (s0 + 1))] [vI (s0 + 1)] L := rfl
set_option maxRecDepth 100000 in
theorem bh_16_19 (call : QC FA) (x1 : Int32) (x2 : Int32) (x3 : Int32) (s0 : Int32) (L : QH FA) (F : Nat) : xnG call 16 (F + 4) 29 [some (vR 32), some (vI x1), some (vI x2), some (vI x3)] [vI s0] L = xnG call 16 F 33 [some (vR 32), some (vI x1), some (vI x2), some (vI x3)] [vI (x1 - 1), vR 32, vI s0] L := rfl
set_option maxRecDepth 100000 in
theorem bh_16_20 (call : QC FA) (a0 : Int32) (s0 : Int32) (ls : List (Option PV)) (z : Nat → Int32) (f : Nat → FA) (F : Nat) : xnG call 16 (F + 1) 33 ls [vI a0, vR 32, vI s0] (LW W z f) = cbd (call 6 [vR 32, vI a0] (LW W z f)) (fun r L' => xnG call 16 F 34 ls (r.toList ++ [vI s0]) L') := pcY (ih := xnG call 16 F) (call := call) (a := 6) (b := 1) (v := 0) (t := 34) (x := 32) (ls := ls) (As := [vI a0]) (st' := [vI s0]) (L := LW W z f) rfl rfl rfl
set_option maxRecDepth 100000 in
theorem bh_16_21 (call : QC FA) (x : Int32) (s0 : Int32) (ls : List (Option PV)) (L : QH FA) (F : Nat) : xnG call 16 (F + 1) 34 ls [vI x, vI s0] L = bif pcmp 0 x 0 then xnG call 16 F 37 ls [vI s0] L else xnG call 16 F 35 ls [vI s0] L := rfl
set_option maxRecDepth 100000 in
theorem bh_16_22 (call : QC FA) (x1 : Int32) (x2 : Int32) (x3 : Int32) (s0 : Int32) (L : QH FA) (F : Nat) : xnG call 16 (F + 7) 35 [some (vR 32), some (vI x1), some (vI x2), some (vI x3)] [vI s0] L = xnG call 16 F 43 [some (vR 32), some (vI x1), some (vI x2), some (vI (s0 + 1))] [vI 11, vI x2, vI (s0 + 1)] L := rfl
set_option maxRecDepth 100000 in
theorem bh_16_23 (call : QC FA) (x1 : Int32) (x2 : Int32) (x3 : Int32) (s0 : Int32) (L : QH FA) (F : Nat) : xnG call 16 (F + 6) 21 [some (vR 32), some (vI x1), some (vI x2), some (vI x3)] [vI s0] L = xnG call 16 F 28 [some (vR 32), some (vI x1), some (vI x2), some (vI (s0 + 1))] [vI x2, vI (s0 + 1)] L := rfl
set_option maxRecDepth 100000 in
theorem bh_16_24 (call : QC FA) (x1 : Int32) (x2 : Int32) (o3 : Option PV) (L : QH FA) (F : Nat) : xnG call 16 (F + 8) 10 [some (vR 32), some (vI x1), some (vI x2), o3] [] L = xnG call 16 F 19 [some (vR 32), some (vI x1), some (vI x2), some (vI 1)] [vI (x1 - 12), vR 32, vI 1] L := rfl
theorem vch_16_0 (call : QC FA) (x1 : Int32) (o2 : Option PV) (o3 : Option PV) (z : Nat → Int32) (f : Nat → FA) (res : Option PV × QH FA) (H : (¬ (12 : Int32) = 0 ∧ (∃ (r1 : Int32) (z1 : Nat → Int32) (f1 : Nat → FA), call 6 [vR 32, vI (x1 + 12)] (LW W z f) = some (some (vI r1), LW W z1 f1) ∧ ((r1 = 0 → (∃ (r2 : Int32) (z2 : Nat → Int32) (f2 : Nat → FA), call 6 [vR 32, vI (x1 - 12)] (LW W z1 f1) = some (some (vI r2), LW W z2 f2) ∧ ((r2 = 0 → ((I (x1 - x1 / 12 * 12) ≤ 0 → ((11 ≤ I (x1 - x1 / 12 * 12) → res = (some (vI (((0 + 0) + 0) + 0)), LW W z2 f2)) ∧ (I (x1 - x1 / 12 * 12) < 11 → (∃ (r3 : Int32) (z3 : Nat → Int32) (f3 : Nat → FA), call 6 [vR 32, vI (x1 + 1)] (LW W z2 f2) = some (some (vI r3), LW W z3 f3) ∧ ((r3 = 0 → res = (some (vI (((0 + 0) + 0) + 0)), LW W z3 f3)) ∧ (¬ r3 = 0 → res = (some (vI (((0 + 0) + 0) + 1)), LW W z3 f3))))))) ∧ (0 < I (x1 - x1 / 12 * 12) → (∃ (r4 : Int32) (z4 : Nat → Int32) (f4 : Nat → FA), call 6 [vR 32, vI (x1 - 1)] (LW W z2 f2) = some (some (vI r4), LW W z4 f4) ∧ ((r4 = 0 → ((11 ≤ I (x1 - x1 / 12 * 12) → res = (some (vI (((0 + 0) + 0) + 0)), LW W z4 f4)) ∧ (I (x1 - x1 / 12 * 12) < 11 → (∃ (r5 : Int32) (z5 : Nat → Int32) (f5 : Nat → FA), call 6 [vR 32, vI (x1 + 1)] (LW W z4 f4) = some (some (vI r5), LW W z5 f5) ∧ ((r5 = 0 → res = (some (vI (((0 + 0) + 0) + 0)), LW W z5 f5)) ∧ (¬ r5 = 0 → res = (some (vI (((0 + 0) + 0) + 1)), LW W z5 f5))))))) ∧ (¬ r4 = 0 → ((11 ≤ I (x1 - x1 / 12 * 12) → res = (some (vI (((0 + 0) + 1) + 0)), LW W z4 f4)) ∧ (I (x1 - x1 / 12 * 12) < 11 → (∃ (r6 : Int32) (z6 : Nat → Int32) (f6 : Nat → FA), call 6 [vR 32, vI (x1 + 1)] (LW W z4 f4) = some (some (vI r6), LW W z6 f6) ∧ ((r6 = 0 → res = (some (vI (((0 + 0) + 1) + 0)), LW W z6 f6)) ∧ (¬ r6 = 0 → res = (some (vI (((0 + 0) + 1) + 1)), LW W z6 f6)))))))))))) ∧ (¬ r2 = 0 → ((I (x1 - x1 / 12 * 12) ≤ 0 → ((11 ≤ I (x1 - x1 / 12 * 12) → res = (some (vI (((0 + 1) + 0) + 0)), LW W z2 f2)) ∧ (I (x1 - x1 / 12 * 12) < 11 → (∃ (r7 : Int32) (z7 : Nat → Int32) (f7 : Nat → FA), call 6 [vR 32, vI (x1 + 1)] (LW W z2 f2) = some (some (vI r7), LW W z7 f7) ∧ ((r7 = 0 → res = (some (vI (((0 + 1) + 0) + 0)), LW W z7 f7)) ∧ (¬ r7 = 0 → res = (some (vI (((0 + 1) + 0) + 1)), LW W z7 f7))))))) ∧ (0 < I (x1 - x1 / 12 * 12) → (∃ (r8 : Int32) (z8 : Nat → Int32) (f8 : Nat → FA), call 6 [vR 32, vI (x1 - 1)] (LW W z2 f2) = some (some (vI r8), LW W z8 f8) ∧ ((r8 = 0 → ((11 ≤ I (x1 - x1 / 12 * 12) → res = (some (vI (((0 + 1) + 0) + 0)), LW W z8 f8)) ∧ (I (x1 - x1 / 12 * 12) < 11 → (∃ (r9 : Int32) (z9 : Nat → Int32) (f9 : Nat → FA), call 6 [vR 32, vI (x1 + 1)] (LW W z8 f8) = some (some (vI r9), LW W z9 f9) ∧ ((r9 = 0 → res = (some (vI (((0 + 1) + 0) + 0)), LW W z9 f9)) ∧ (¬ r9 = 0 → res = (some (vI (((0 + 1) + 0) + 1)), LW W z9 f9))))))) ∧ (¬ r8 = 0 → ((11 ≤ I (x1 - x1 / 12 * 12) → res = (some (vI (((0 + 1) + 1) + 0)), LW W z8 f8)) ∧ (I (x1 - x1 / 12 * 12) < 11 → (∃ (r10 : Int32) (z10 : Nat → Int32) (f10 : Nat → FA), call 6 [vR 32, vI (x1 + 1)] (LW W z8 f8) = some (some (vI r10), LW W z10 f10) ∧ ((r10 = 0 → res = (some (vI (((0 + 1) + 1) + 0)), LW W z10 f10)) ∧ (¬ r10 = 0 → res = (some (vI (((0 + 1) + 1) + 1)), LW W z10 f10))))))))))))))) ∧ (¬ r1 = 0 → (∃ (r11 : Int32) (z11 : Nat → Int32) (f11 : Nat → FA), call 6 [vR 32, vI (x1 - 12)] (LW W z1 f1) = some (some (vI r11), LW W z11 f11) ∧ ((r11 = 0 → ((I (x1 - x1 / 12 * 12) ≤ 0 → ((11 ≤ I (x1 - x1 / 12 * 12) → res = (some (vI (((1 + 0) + 0) + 0)), LW W z11 f11)) ∧ (I (x1 - x1 / 12 * 12) < 11 → (∃ (r12 : Int32) (z12 : Nat → Int32) (f12 : Nat → FA), call 6 [vR 32, vI (x1 + 1)] (LW W z11 f11) = some (some (vI r12), LW W z12 f12) ∧ ((r12 = 0 → res = (some (vI (((1 + 0) + 0) + 0)), LW W z12 f12)) ∧ (¬ r12 = 0 → res = (some (vI (((1 + 0) + 0) + 1)), LW W z12 f12))))))) ∧ (0 < I (x1 - x1 / 12 * 12) → (∃ (r13 : Int32) (z13 : Nat → Int32) (f13 : Nat → FA), call 6 [vR 32, vI (x1 - 1)] (LW W z11 f11) = some (some (vI r13), LW W z13 f13) ∧ ((r13 = 0 → ((11 ≤ I (x1 - x1 / 12 * 12) → res = (some (vI (((1 + 0) + 0) + 0)), LW W z13 f13)) ∧ (I (x1 - x1 / 12 * 12) < 11 → (∃ (r14 : Int32) (z14 : Nat → Int32) (f14 : Nat → FA), call 6 [vR 32, vI (x1 + 1)] (LW W z13 f13) = some (some (vI r14), LW W z14 f14) ∧ ((r14 = 0 → res = (some (vI (((1 + 0) + 0) + 0)), LW W z14 f14)) ∧ (¬ r14 = 0 → res = (some (vI (((1 + 0) + 0) + 1)), LW W z14 f14))))))) ∧ (¬ r13 = 0 → ((11 ≤ I (x1 - x1 / 12 * 12) → res = (some (vI (((1 + 0) + 1) + 0)), LW W z13 f13)) ∧ (I (x1 - x1 / 12 * 12) < 11 → (∃ (r15 : Int32) (z15 : Nat → Int32) (f15 : Nat → FA), call 6 [vR 32, vI (x1 + 1)] (LW W z13 f13) = some (some (vI r15), LW W z15 f15) ∧ ((r15 = 0 → res = (some (vI (((1 + 0) + 1) + 0)), LW W z15 f15)) ∧ (¬ r15 = 0 → res = (some (vI (((1 + 0) + 1) + 1)), LW W z15 f15)))))))))))) ∧ (¬ r11 = 0 → ((I (x1 - x1 / 12 * 12) ≤ 0 → ((11 ≤ I (x1 - x1 / 12 * 12) → res = (some (vI (((1 + 1) + 0) + 0)), LW W z11 f11)) ∧ (I (x1 - x1 / 12 * 12) < 11 → (∃ (r16 : Int32) (z16 : Nat → Int32) (f16 : Nat → FA), call 6 [vR 32, vI (x1 + 1)] (LW W z11 f11) = some (some (vI r16), LW W z16 f16) ∧ ((r16 = 0 → res = (some (vI (((1 + 1) + 0) + 0)), LW W z16 f16)) ∧ (¬ r16 = 0 → res = (some (vI (((1 + 1) + 0) + 1)), LW W z16 f16))))))) ∧ (0 < I (x1 - x1 / 12 * 12) → (∃ (r17 : Int32) (z17 : Nat → Int32) (f17 : Nat → FA), call 6 [vR 32, vI (x1 - 1)] (LW W z11 f11) = some (some (vI r17), LW W z17 f17) ∧ ((r17 = 0 → ((11 ≤ I (x1 - x1 / 12 * 12) → res = (some (vI (((1 + 1) + 0) + 0)), LW W z17 f17)) ∧ (I (x1 - x1 / 12 * 12) < 11 → (∃ (r18 : Int32) (z18 : Nat → Int32) (f18 : Nat → FA), call 6 [vR 32, vI (x1 + 1)] (LW W z17 f17) = some (some (vI r18), LW W z18 f18) ∧ ((r18 = 0 → res = (some (vI (((1 + 1) + 0) + 0)), LW W z18 f18)) ∧ (¬ r18 = 0 → res = (some (vI (((1 + 1) + 0) + 1)), LW W z18 f18))))))) ∧ (¬ r17 = 0 → ((11 ≤ I (x1 - x1 / 12 * 12) → res = (some (vI (((1 + 1) + 1) + 0)), LW W z17 f17)) ∧ (I (x1 - x1 / 12 * 12) < 11 → (∃ (r19 : Int32) (z19 : Nat → Int32) (f19 : Nat → FA), call 6 [vR 32, vI (x1 + 1)] (LW W z17 f17) = some (some (vI r19), LW W z19 f19) ∧ ((r19 = 0 → res = (some (vI (((1 + 1) + 1) + 0)), LW W z19 f19)) ∧ (¬ r19 = 0 → res = (some (vI (((1 + 1) + 1) + 1)), LW W z19 f19))))))))))))))))))) : XC call (mP 16) 0 [some (vR 32), some (vI x1), o2, o3] [] (LW W z f) res := by
  refine xc_b (i' := 2) (ls' := [some (vR 32), some (vI x1), o2, o3]) (st' := [vI 12, vI x1]) (L' := LW W z f) 2 (bh_16_1 call x1 o2 o3 _) ?_
  obtain ⟨g1, H⟩ := H
  refine xc_g (i' := 3) (ls' := [some (vR 32), some (vI x1), o2, o3]) (st' := [vI (x1 - x1 / 12 * 12)]) (L' := LW W z f) (bh_16_2 call x1 12 _ _) (cmp_ne.trans (decide_eq_true g1)) ?_
  refine xc_b (i' := 8) (ls' := [some (vR 32), some (vI x1), some (vI (x1 - x1 / 12 * 12)), o3]) (st' := [vI (x1 + 12), vR 32]) (L' := LW W z f) 5 (bh_16_3 call x1 o2 o3 (x1 - x1 / 12 * 12) _) ?_
  obtain ⟨r1, z1, f1, hc, H⟩ := H
  refine xc_call (t := 9) (ls' := [some (vR 32), some (vI x1), some (vI (x1 - x1 / 12 * 12)), o3]) (st' := []) (bh_16_4 call (x1 + 12) _ z f) hc ?_
  show XC call (mP 16) 9 [some (vR 32), some (vI x1), some (vI (x1 - x1 / 12 * 12)), o3] [vI r1] (LW W z1 f1) res
  refine xc_if (it := 12) (ie := 10) (ls' := [some (vR 32), some (vI x1), some (vI (x1 - x1 / 12 * 12)), o3]) (st' := []) (bh_16_5 call r1 _ _) (fun q1 => ?_) (fun q1 => ?_)
  · have H := H.1 (cI0t q1)
    refine xc_b (i' := 19) (ls' := [some (vR 32), some (vI x1), some (vI (x1 - x1 / 12 * 12)), some (vI 0)]) (st' := [vI (x1 - 12), vR 32, vI 0]) (L' := LW W z1 f1) 7 (bh_16_6 call x1 (x1 - x1 / 12 * 12) o3 _) ?_
    obtain ⟨r2, z2, f2, hc, H⟩ := H
    refine xc_call (t := 20) (ls' := [some (vR 32), some (vI x1), some (vI (x1 - x1 / 12 * 12)), some (vI 0)]) (st' := [vI 0]) (bh_16_7 call (x1 - 12) 0 _ z1 f1) hc ?_
    show XC call (mP 16) 20 [some (vR 32), some (vI x1), some (vI (x1 - x1 / 12 * 12)), some (vI 0)] [vI r2, vI 0] (LW W z2 f2) res
    refine xc_if (it := 23) (ie := 21) (ls' := [some (vR 32), some (vI x1), some (vI (x1 - x1 / 12 * 12)), some (vI 0)]) (st' := [vI 0]) (bh_16_8 call r2 0 _ _) (fun q2 => ?_) (fun q2 => ?_)
    · have H := H.1 (cI0t q2)
      refine xc_b (i' := 28) (ls' := [some (vR 32), some (vI x1), some (vI (x1 - x1 / 12 * 12)), some (vI (0 + 0))]) (st' := [vI (x1 - x1 / 12 * 12), vI (0 + 0)]) (L' := LW W z2 f2) 5 (bh_16_9 call x1 (x1 - x1 / 12 * 12) 0 0 _) ?_
      refine xc_if (it := 37) (ie := 29) (ls' := [some (vR 32), some (vI x1), some (vI (x1 - x1 / 12 * 12)), some (vI (0 + 0))]) (st' := [vI (0 + 0)]) (bh_16_10 call (x1 - x1 / 12 * 12) (0 + 0) _ _) (fun q3 => ?_) (fun q3 => ?_)
      · have H := H.1 (cI5t q3 rfl rfl)
        refine xc_b (i' := 43) (ls' := [some (vR 32), some (vI x1), some (vI (x1 - x1 / 12 * 12)), some (vI ((0 + 0) + 0))]) (st' := [vI 11, vI (x1 - x1 / 12 * 12), vI ((0 + 0) + 0)]) (L' := LW W z2 f2) 6 (bh_16_11 call x1 (x1 - x1 / 12 * 12) (0 + 0) (0 + 0) _) ?_
        refine xc_if (it := 52) (ie := 44) (ls' := [some (vR 32), some (vI x1), some (vI (x1 - x1 / 12 * 12)), some (vI ((0 + 0) + 0))]) (st' := [vI ((0 + 0) + 0)]) (bh_16_12 call (x1 - x1 / 12 * 12) 11 ((0 + 0) + 0) _ _) (fun q4 => ?_) (fun q4 => ?_)
        · have H := H.1 (cI3t q4 rfl rfl)
          refine xc_b (i' := 56) (ls' := [some (vR 32), some (vI x1), some (vI (x1 - x1 / 12 * 12)), some (vI (((0 + 0) + 0) + 0))]) (st' := [vI (((0 + 0) + 0) + 0)]) (L' := LW W z2 f2) 4 (bh_16_13 call x1 (x1 - x1 / 12 * 12) ((0 + 0) + 0) ((0 + 0) + 0) _) ?_
          subst H
          exact xc_ret (bh_16_14 call _ _ _)
        · have H := H.2 (cI3f q4 rfl rfl)
          refine xc_b (i' := 48) (ls' := [some (vR 32), some (vI x1), some (vI (x1 - x1 / 12 * 12)), some (vI ((0 + 0) + 0))]) (st' := [vI (x1 + 1), vR 32, vI ((0 + 0) + 0)]) (L' := LW W z2 f2) 4 (bh_16_15 call x1 (x1 - x1 / 12 * 12) ((0 + 0) + 0) ((0 + 0) + 0) _) ?_
          obtain ⟨r3, z3, f3, hc, H⟩ := H
          refine xc_call (t := 49) (ls' := [some (vR 32), some (vI x1), some (vI (x1 - x1 / 12 * 12)), some (vI ((0 + 0) + 0))]) (st' := [vI ((0 + 0) + 0)]) (bh_16_16 call (x1 + 1) ((0 + 0) + 0) _ z2 f2) hc ?_
          show XC call (mP 16) 49 [some (vR 32), some (vI x1), some (vI (x1 - x1 / 12 * 12)), some (vI ((0 + 0) + 0))] [vI r3, vI ((0 + 0) + 0)] (LW W z3 f3) res
          refine xc_if (it := 52) (ie := 50) (ls' := [some (vR 32), some (vI x1), some (vI (x1 - x1 / 12 * 12)), some (vI ((0 + 0) + 0))]) (st' := [vI ((0 + 0) + 0)]) (bh_16_17 call r3 ((0 + 0) + 0) _ _) (fun q5 => ?_) (fun q5 => ?_)
          · have H := H.1 (cI0t q5)
            refine xc_b (i' := 56) (ls' := [some (vR 32), some (vI x1), some (vI (x1 - x1 / 12 * 12)), some (vI (((0 + 0) + 0) + 0))]) (st' := [vI (((0 + 0) + 0) + 0)]) (L' := LW W z3 f3) 4 (bh_16_13 call x1 (x1 - x1 / 12 * 12) ((0 + 0) + 0) ((0 + 0) + 0) _) ?_
            subst H
            exact xc_ret (bh_16_14 call _ _ _)
          · have H := H.2 (cI0f q5)
            refine xc_b (i' := 56) (ls' := [some (vR 32), some (vI x1), some (vI (x1 - x1 / 12 * 12)), some (vI (((0 + 0) + 0) + 1))]) (st' := [vI (((0 + 0) + 0) + 1)]) (L' := LW W z3 f3) 5 (bh_16_18 call x1 (x1 - x1 / 12 * 12) ((0 + 0) + 0) ((0 + 0) + 0) _) ?_
            subst H
            exact xc_ret (bh_16_14 call _ _ _)
      · have H := H.2 (cI5f q3 rfl rfl)
        refine xc_b (i' := 33) (ls' := [some (vR 32), some (vI x1), some (vI (x1 - x1 / 12 * 12)), some (vI (0 + 0))]) (st' := [vI (x1 - 1), vR 32, vI (0 + 0)]) (L' := LW W z2 f2) 4 (bh_16_19 call x1 (x1 - x1 / 12 * 12) (0 + 0) (0 + 0) _) ?_
        obtain ⟨r4, z4, f4, hc, H⟩ := H
        refine xc_call (t := 34) (ls' := [some (vR 32), some (vI x1), some (vI (x1 - x1 / 12 * 12)), some (vI (0 + 0))]) (st' := [vI (0 + 0)]) (bh_16_20 call (x1 - 1) (0 + 0) _ z2 f2) hc ?_
        show XC call (mP 16) 34 [some (vR 32), some (vI x1), some (vI (x1 - x1 / 12 * 12)), some (vI (0 + 0))] [vI r4, vI (0 + 0)] (LW W z4 f4) res
        refine xc_if (it := 37) (ie := 35) (ls' := [some (vR 32), some (vI x1), some (vI (x1 - x1 / 12 * 12)), some (vI (0 + 0))]) (st' := [vI (0 + 0)]) (bh_16_21 call r4 (0 + 0) _ _) (fun q6 => ?_) (fun q6 => ?_)
        · have H := H.1 (cI0t q6)
          refine xc_b (i' := 43) (ls' := [some (vR 32), some (vI x1), some (vI (x1 - x1 / 12 * 12)), some (vI ((0 + 0) + 0))]) (st' := [vI 11, vI (x1 - x1 / 12 * 12), vI ((0 + 0) + 0)]) (L' := LW W z4 f4) 6 (bh_16_11 call x1 (x1 - x1 / 12 * 12) (0 + 0) (0 + 0) _) ?_
          refine xc_if (it := 52) (ie := 44) (ls' := [some (vR 32), some (vI x1), some (vI (x1 - x1 / 12 * 12)), some (vI ((0 + 0) + 0))]) (st' := [vI ((0 + 0) + 0)]) (bh_16_12 call (x1 - x1 / 12 * 12) 11 ((0 + 0) + 0) _ _) (fun q7 => ?_) (fun q7 => ?_)
          · have H := H.1 (cI3t q7 rfl rfl)
            refine xc_b (i' := 56) (ls' := [some (vR 32), some (vI x1), some (vI (x1 - x1 / 12 * 12)), some (vI (((0 + 0) + 0) + 0))]) (st' := [vI (((0 + 0) + 0) + 0)]) (L' := LW W z4 f4) 4 (bh_16_13 call x1 (x1 - x1 / 12 * 12) ((0 + 0) + 0) ((0 + 0) + 0) _) ?_
            subst H
            exact xc_ret (bh_16_14 call _ _ _)
          · have H := H.2 (cI3f q7 rfl rfl)
            refine xc_b (i' := 48) (ls' := [some (vR 32), some (vI x1), some (vI (x1 - x1 / 12 * 12)), some (vI ((0 + 0) + 0))]) (st' := [vI (x1 + 1), vR 32, vI ((0 + 0) + 0)]) (L' := LW W z4 f4) 4 (bh_16_15 call x1 (x1 - x1 / 12 * 12) ((0 + 0) + 0) ((0 + 0) + 0) _) ?_
            obtain ⟨r5, z5, f5, hc, H⟩ := H
            refine xc_call (t := 49) (ls' := [some (vR 32), some (vI x1), some (vI (x1 - x1 / 12 * 12)), some (vI ((0 + 0) + 0))]) (st' := [vI ((0 + 0) + 0)]) (bh_16_16 call (x1 + 1) ((0 + 0) + 0) _ z4 f4) hc ?_
            show XC call (mP 16) 49 [some (vR 32), some (vI x1), some (vI (x1 - x1 / 12 * 12)), some (vI ((0 + 0) + 0))] [vI r5, vI ((0 + 0) + 0)] (LW W z5 f5) res
            refine xc_if (it := 52) (ie := 50) (ls' := [some (vR 32), some (vI x1), some (vI (x1 - x1 / 12 * 12)), some (vI ((0 + 0) + 0))]) (st' := [vI ((0 + 0) + 0)]) (bh_16_17 call r5 ((0 + 0) + 0) _ _) (fun q8 => ?_) (fun q8 => ?_)
            · have H := H.1 (cI0t q8)
              refine xc_b (i' := 56) (ls' := [some (vR 32), some (vI x1), some (vI (x1 - x1 / 12 * 12)), some (vI (((0 + 0) + 0) + 0))]) (st' := [vI (((0 + 0) + 0) + 0)]) (L' := LW W z5 f5) 4 (bh_16_13 call x1 (x1 - x1 / 12 * 12) ((0 + 0) + 0) ((0 + 0) + 0) _) ?_
              subst H
              exact xc_ret (bh_16_14 call _ _ _)
            · have H := H.2 (cI0f q8)
              refine xc_b (i' := 56) (ls' := [some (vR 32), some (vI x1), some (vI (x1 - x1 / 12 * 12)), some (vI (((0 + 0) + 0) + 1))]) (st' := [vI (((0 + 0) + 0) + 1)]) (L' := LW W z5 f5) 5 (bh_16_18 call x1 (x1 - x1 / 12 * 12) ((0 + 0) + 0) ((0 + 0) + 0) _) ?_
              subst H
              exact xc_ret (bh_16_14 call _ _ _)
        · have H := H.2 (cI0f q6)
          refine xc_b (i' := 43) (ls' := [some (vR 32), some (vI x1), some (vI (x1 - x1 / 12 * 12)), some (vI ((0 + 0) + 1))]) (st' := [vI 11, vI (x1 - x1 / 12 * 12), vI ((0 + 0) + 1)]) (L' := LW W z4 f4) 7 (bh_16_22 call x1 (x1 - x1 / 12 * 12) (0 + 0) (0 + 0) _) ?_
          refine xc_if (it := 52) (ie := 44) (ls' := [some (vR 32), some (vI x1), some (vI (x1 - x1 / 12 * 12)), some (vI ((0 + 0) + 1))]) (st' := [vI ((0 + 0) + 1)]) (bh_16_12 call (x1 - x1 / 12 * 12) 11 ((0 + 0) + 1) _ _) (fun q9 => ?_) (fun q9 => ?_)
          · have H := H.1 (cI3t q9 rfl rfl)
            refine xc_b (i' := 56) (ls' := [some (vR 32), some (vI x1), some (vI (x1 - x1 / 12 * 12)), some (vI (((0 + 0) + 1) + 0))]) (st' := [vI (((0 + 0) + 1) + 0)]) (L' := LW W z4 f4) 4 (bh_16_13 call x1 (x1 - x1 / 12 * 12) ((0 + 0) + 1) ((0 + 0) + 1) _) ?_
            subst H
            exact xc_ret (bh_16_14 call _ _ _)
          · have H := H.2 (cI3f q9 rfl rfl)
            refine xc_b (i' := 48) (ls' := [some (vR 32), some (vI x1), some (vI (x1 - x1 / 12 * 12)), some (vI ((0 + 0) + 1))]) (st' := [vI (x1 + 1), vR 32, vI ((0 + 0) + 1)]) (L' := LW W z4 f4) 4 (bh_16_15 call x1 (x1 - x1 / 12 * 12) ((0 + 0) + 1) ((0 + 0) + 1) _) ?_
            obtain ⟨r6, z6, f6, hc, H⟩ := H
            refine xc_call (t := 49) (ls' := [some (vR 32), some (vI x1), some (vI (x1 - x1 / 12 * 12)), some (vI ((0 + 0) + 1))]) (st' := [vI ((0 + 0) + 1)]) (bh_16_16 call (x1 + 1) ((0 + 0) + 1) _ z4 f4) hc ?_
            show XC call (mP 16) 49 [some (vR 32), some (vI x1), some (vI (x1 - x1 / 12 * 12)), some (vI ((0 + 0) + 1))] [vI r6, vI ((0 + 0) + 1)] (LW W z6 f6) res
            refine xc_if (it := 52) (ie := 50) (ls' := [some (vR 32), some (vI x1), some (vI (x1 - x1 / 12 * 12)), some (vI ((0 + 0) + 1))]) (st' := [vI ((0 + 0) + 1)]) (bh_16_17 call r6 ((0 + 0) + 1) _ _) (fun q10 => ?_) (fun q10 => ?_)
            · have H := H.1 (cI0t q10)
              refine xc_b (i' := 56) (ls' := [some (vR 32), some (vI x1), some (vI (x1 - x1 / 12 * 12)), some (vI (((0 + 0) + 1) + 0))]) (st' := [vI (((0 + 0) + 1) + 0)]) (L' := LW W z6 f6) 4 (bh_16_13 call x1 (x1 - x1 / 12 * 12) ((0 + 0) + 1) ((0 + 0) + 1) _) ?_
              subst H
              exact xc_ret (bh_16_14 call _ _ _)
            · have H := H.2 (cI0f q10)
              refine xc_b (i' := 56) (ls' := [some (vR 32), some (vI x1), some (vI (x1 - x1 / 12 * 12)), some (vI (((0 + 0) + 1) + 1))]) (st' := [vI (((0 + 0) + 1) + 1)]) (L' := LW W z6 f6) 5 (bh_16_18 call x1 (x1 - x1 / 12 * 12) ((0 + 0) + 1) ((0 + 0) + 1) _) ?_
              subst H
              exact xc_ret (bh_16_14 call _ _ _)
    · have H := H.2 (cI0f q2)
      refine xc_b (i' := 28) (ls' := [some (vR 32), some (vI x1), some (vI (x1 - x1 / 12 * 12)), some (vI (0 + 1))]) (st' := [vI (x1 - x1 / 12 * 12), vI (0 + 1)]) (L' := LW W z2 f2) 6 (bh_16_23 call x1 (x1 - x1 / 12 * 12) 0 0 _) ?_
      refine xc_if (it := 37) (ie := 29) (ls' := [some (vR 32), some (vI x1), some (vI (x1 - x1 / 12 * 12)), some (vI (0 + 1))]) (st' := [vI (0 + 1)]) (bh_16_10 call (x1 - x1 / 12 * 12) (0 + 1) _ _) (fun q11 => ?_) (fun q11 => ?_)
      · have H := H.1 (cI5t q11 rfl rfl)
        refine xc_b (i' := 43) (ls' := [some (vR 32), some (vI x1), some (vI (x1 - x1 / 12 * 12)), some (vI ((0 + 1) + 0))]) (st' := [vI 11, vI (x1 - x1 / 12 * 12), vI ((0 + 1) + 0)]) (L' := LW W z2 f2) 6 (bh_16_11 call x1 (x1 - x1 / 12 * 12) (0 + 1) (0 + 1) _) ?_
        refine xc_if (it := 52) (ie := 44) (ls' := [some (vR 32), some (vI x1), some (vI (x1 - x1 / 12 * 12)), some (vI ((0 + 1) + 0))]) (st' := [vI ((0 + 1) + 0)]) (bh_16_12 call (x1 - x1 / 12 * 12) 11 ((0 + 1) + 0) _ _) (fun q12 => ?_) (fun q12 => ?_)
        · have H := H.1 (cI3t q12 rfl rfl)
          refine xc_b (i' := 56) (ls' := [some (vR 32), some (vI x1), some (vI (x1 - x1 / 12 * 12)), some (vI (((0 + 1) + 0) + 0))]) (st' := [vI (((0 + 1) + 0) + 0)]) (L' := LW W z2 f2) 4 (bh_16_13 call x1 (x1 - x1 / 12 * 12) ((0 + 1) + 0) ((0 + 1) + 0) _) ?_
          subst H
          exact xc_ret (bh_16_14 call _ _ _)
        · have H := H.2 (cI3f q12 rfl rfl)
          refine xc_b (i' := 48) (ls' := [some (vR 32), some (vI x1), some (vI (x1 - x1 / 12 * 12)), some (vI ((0 + 1) + 0))]) (st' := [vI (x1 + 1), vR 32, vI ((0 + 1) + 0)]) (L' := LW W z2 f2) 4 (bh_16_15 call x1 (x1 - x1 / 12 * 12) ((0 + 1) + 0) ((0 + 1) + 0) _) ?_
          obtain ⟨r7, z7, f7, hc, H⟩ := H
          refine xc_call (t := 49) (ls' := [some (vR 32), some (vI x1), some (vI (x1 - x1 / 12 * 12)), some (vI ((0 + 1) + 0))]) (st' := [vI ((0 + 1) + 0)]) (bh_16_16 call (x1 + 1) ((0 + 1) + 0) _ z2 f2) hc ?_
          show XC call (mP 16) 49 [some (vR 32), some (vI x1), some (vI (x1 - x1 / 12 * 12)), some (vI ((0 + 1) + 0))] [vI r7, vI ((0 + 1) + 0)] (LW W z7 f7) res
          refine xc_if (it := 52) (ie := 50) (ls' := [some (vR 32), some (vI x1), some (vI (x1 - x1 / 12 * 12)), some (vI ((0 + 1) + 0))]) (st' := [vI ((0 + 1) + 0)]) (bh_16_17 call r7 ((0 + 1) + 0) _ _) (fun q13 => ?_) (fun q13 => ?_)
          · have H := H.1 (cI0t q13)
            refine xc_b (i' := 56) (ls' := [some (vR 32), some (vI x1), some (vI (x1 - x1 / 12 * 12)), some (vI (((0 + 1) + 0) + 0))]) (st' := [vI (((0 + 1) + 0) + 0)]) (L' := LW W z7 f7) 4 (bh_16_13 call x1 (x1 - x1 / 12 * 12) ((0 + 1) + 0) ((0 + 1) + 0) _) ?_
            subst H
            exact xc_ret (bh_16_14 call _ _ _)
          · have H := H.2 (cI0f q13)
            refine xc_b (i' := 56) (ls' := [some (vR 32), some (vI x1), some (vI (x1 - x1 / 12 * 12)), some (vI (((0 + 1) + 0) + 1))]) (st' := [vI (((0 + 1) + 0) + 1)]) (L' := LW W z7 f7) 5 (bh_16_18 call x1 (x1 - x1 / 12 * 12) ((0 + 1) + 0) ((0 + 1) + 0) _) ?_
            subst H
            exact xc_ret (bh_16_14 call _ _ _)
      · have H := H.2 (cI5f q11 rfl rfl)
        refine xc_b (i' := 33) (ls' := [some (vR 32), some (vI x1), some (vI (x1 - x1 / 12 * 12)), some (vI (0 + 1))]) (st' := [vI (x1 - 1), vR 32, vI (0 + 1)]) (L' := LW W z2 f2) 4 (bh_16_19 call x1 (x1 - x1 / 12 * 12) (0 + 1) (0 + 1) _) ?_
        obtain ⟨r8, z8, f8, hc, H⟩ := H
        refine xc_call (t := 34) (ls' := [some (vR 32), some (vI x1), some (vI (x1 - x1 / 12 * 12)), some (vI (0 + 1))]) (st' := [vI (0 + 1)]) (bh_16_20 call (x1 - 1) (0 + 1) _ z2 f2) hc ?_
        show XC call (mP 16) 34 [some (vR 32), some (vI x1), some (vI (x1 - x1 / 12 * 12)), some (vI (0 + 1))] [vI r8, vI (0 + 1)] (LW W z8 f8) res
        refine xc_if (it := 37) (ie := 35) (ls' := [some (vR 32), some (vI x1), some (vI (x1 - x1 / 12 * 12)), some (vI (0 + 1))]) (st' := [vI (0 + 1)]) (bh_16_21 call r8 (0 + 1) _ _) (fun q14 => ?_) (fun q14 => ?_)
        · have H := H.1 (cI0t q14)
          refine xc_b (i' := 43) (ls' := [some (vR 32), some (vI x1), some (vI (x1 - x1 / 12 * 12)), some (vI ((0 + 1) + 0))]) (st' := [vI 11, vI (x1 - x1 / 12 * 12), vI ((0 + 1) + 0)]) (L' := LW W z8 f8) 6 (bh_16_11 call x1 (x1 - x1 / 12 * 12) (0 + 1) (0 + 1) _) ?_
          refine xc_if (it := 52) (ie := 44) (ls' := [some (vR 32), some (vI x1), some (vI (x1 - x1 / 12 * 12)), some (vI ((0 + 1) + 0))]) (st' := [vI ((0 + 1) + 0)]) (bh_16_12 call (x1 - x1 / 12 * 12) 11 ((0 + 1) + 0) _ _) (fun q15 => ?_) (fun q15 => ?_)
          · have H := H.1 (cI3t q15 rfl rfl)
            refine xc_b (i' := 56) (ls' := [some (vR 32), some (vI x1), some (vI (x1 - x1 / 12 * 12)), some (vI (((0 + 1) + 0) + 0))]) (st' := [vI (((0 + 1) + 0) + 0)]) (L' := LW W z8 f8) 4 (bh_16_13 call x1 (x1 - x1 / 12 * 12) ((0 + 1) + 0) ((0 + 1) + 0) _) ?_
            subst H
            exact xc_ret (bh_16_14 call _ _ _)
          · have H := H.2 (cI3f q15 rfl rfl)
            refine xc_b (i' := 48) (ls' := [some (vR 32), some (vI x1), some (vI (x1 - x1 / 12 * 12)), some (vI ((0 + 1) + 0))]) (st' := [vI (x1 + 1), vR 32, vI ((0 + 1) + 0)]) (L' := LW W z8 f8) 4 (bh_16_15 call x1 (x1 - x1 / 12 * 12) ((0 + 1) + 0) ((0 + 1) + 0) _) ?_
            obtain ⟨r9, z9, f9, hc, H⟩ := H
            refine xc_call (t := 49) (ls' := [some (vR 32), some (vI x1), some (vI (x1 - x1 / 12 * 12)), some (vI ((0 + 1) + 0))]) (st' := [vI ((0 + 1) + 0)]) (bh_16_16 call (x1 + 1) ((0 + 1) + 0) _ z8 f8) hc ?_
            show XC call (mP 16) 49 [some (vR 32), some (vI x1), some (vI (x1 - x1 / 12 * 12)), some (vI ((0 + 1) + 0))] [vI r9, vI ((0 + 1) + 0)] (LW W z9 f9) res
            refine xc_if (it := 52) (ie := 50) (ls' := [some (vR 32), some (vI x1), some (vI (x1 - x1 / 12 * 12)), some (vI ((0 + 1) + 0))]) (st' := [vI ((0 + 1) + 0)]) (bh_16_17 call r9 ((0 + 1) + 0) _ _) (fun q16 => ?_) (fun q16 => ?_)
            · have H := H.1 (cI0t q16)
              refine xc_b (i' := 56) (ls' := [some (vR 32), some (vI x1), some (vI (x1 - x1 / 12 * 12)), some (vI (((0 + 1) + 0) + 0))]) (st' := [vI (((0 + 1) + 0) + 0)]) (L' := LW W z9 f9) 4 (bh_16_13 call x1 (x1 - x1 / 12 * 12) ((0 + 1) + 0) ((0 + 1) + 0) _) ?_
              subst H
              exact xc_ret (bh_16_14 call _ _ _)
            · have H := H.2 (cI0f q16)
              refine xc_b (i' := 56) (ls' := [some (vR 32), some (vI x1), some (vI (x1 - x1 / 12 * 12)), some (vI (((0 + 1) + 0) + 1))]) (st' := [vI (((0 + 1) + 0) + 1)]) (L' := LW W z9 f9) 5 (bh_16_18 call x1 (x1 - x1 / 12 * 12) ((0 + 1) + 0) ((0 + 1) + 0) _) ?_
              subst H
              exact xc_ret (bh_16_14 call _ _ _)
        · have H := H.2 (cI0f q14)
          refine xc_b (i' := 43) (ls' := [some (vR 32), some (vI x1), some (vI (x1 - x1 / 12 * 12)), some (vI ((0 + 1) + 1))]) (st' := [vI 11, vI (x1 - x1 / 12 * 12), vI ((0 + 1) + 1)]) (L' := LW W z8 f8) 7 (bh_16_22 call x1 (x1 - x1 / 12 * 12) (0 + 1) (0 + 1) _) ?_
          refine xc_if (it := 52) (ie := 44) (ls' := [some (vR 32), some (vI x1), some (vI (x1 - x1 / 12 * 12)), some (vI ((0 + 1) + 1))]) (st' := [vI ((0 + 1) + 1)]) (bh_16_12 call (x1 - x1 / 12 * 12) 11 ((0 + 1) + 1) _ _) (fun q17 => ?_) (fun q17 => ?_)
          · have H := H.1 (cI3t q17 rfl rfl)
            refine xc_b (i' := 56) (ls' := [some (vR 32), some (vI x1), some (vI (x1 - x1 / 12 * 12)), some (vI (((0 + 1) + 1) + 0))]) (st' := [vI (((0 + 1) + 1) + 0)]) (L' := LW W z8 f8) 4 (bh_16_13 call x1 (x1 - x1 / 12 * 12) ((0 + 1) + 1) ((0 + 1) + 1) _) ?_
            subst H
            exact xc_ret (bh_16_14 call _ _ _)
          · have H := H.2 (cI3f q17 rfl rfl)
            refine xc_b (i' := 48) (ls' := [some (vR 32), some (vI x1), some (vI (x1 - x1 / 12 * 12)), some (vI ((0 + 1) + 1))]) (st' := [vI (x1 + 1), vR 32, vI ((0 + 1) + 1)]) (L' := LW W z8 f8) 4 (bh_16_15 call x1 (x1 - x1 / 12 * 12) ((0 + 1) + 1) ((0 + 1) + 1) _) ?_
            obtain ⟨r10, z10, f10, hc, H⟩ := H
            refine xc_call (t := 49) (ls' := [some (vR 32), some (vI x1), some (vI (x1 - x1 / 12 * 12)), some (vI ((0 + 1) + 1))]) (st' := [vI ((0 + 1) + 1)]) (bh_16_16 call (x1 + 1) ((0 + 1) + 1) _ z8 f8) hc ?_
            show XC call (mP 16) 49 [some (vR 32), some (vI x1), some (vI (x1 - x1 / 12 * 12)), some (vI ((0 + 1) + 1))] [vI r10, vI ((0 + 1) + 1)] (LW W z10 f10) res
            refine xc_if (it := 52) (ie := 50) (ls' := [some (vR 32), some (vI x1), some (vI (x1 - x1 / 12 * 12)), some (vI ((0 + 1) + 1))]) (st' := [vI ((0 + 1) + 1)]) (bh_16_17 call r10 ((0 + 1) + 1) _ _) (fun q18 => ?_) (fun q18 => ?_)
            · have H := H.1 (cI0t q18)
              refine xc_b (i' := 56) (ls' := [some (vR 32), some (vI x1), some (vI (x1 - x1 / 12 * 12)), some (vI (((0 + 1) + 1) + 0))]) (st' := [vI (((0 + 1) + 1) + 0)]) (L' := LW W z10 f10) 4 (bh_16_13 call x1 (x1 - x1 / 12 * 12) ((0 + 1) + 1) ((0 + 1) + 1) _) ?_
              subst H
              exact xc_ret (bh_16_14 call _ _ _)
            · have H := H.2 (cI0f q18)
              refine xc_b (i' := 56) (ls' := [some (vR 32), some (vI x1), some (vI (x1 - x1 / 12 * 12)), some (vI (((0 + 1) + 1) + 1))]) (st' := [vI (((0 + 1) + 1) + 1)]) (L' := LW W z10 f10) 5 (bh_16_18 call x1 (x1 - x1 / 12 * 12) ((0 + 1) + 1) ((0 + 1) + 1) _) ?_
              subst H
              exact xc_ret (bh_16_14 call _ _ _)
  · have H := H.2 (cI0f q1)
    refine xc_b (i' := 19) (ls' := [some (vR 32), some (vI x1), some (vI (x1 - x1 / 12 * 12)), some (vI 1)]) (st' := [vI (x1 - 12), vR 32, vI 1]) (L' := LW W z1 f1) 8 (bh_16_24 call x1 (x1 - x1 / 12 * 12) o3 _) ?_
    obtain ⟨r11, z11, f11, hc, H⟩ := H
    refine xc_call (t := 20) (ls' := [some (vR 32), some (vI x1), some (vI (x1 - x1 / 12 * 12)), some (vI 1)]) (st' := [vI 1]) (bh_16_7 call (x1 - 12) 1 _ z1 f1) hc ?_
    show XC call (mP 16) 20 [some (vR 32), some (vI x1), some (vI (x1 - x1 / 12 * 12)), some (vI 1)] [vI r11, vI 1] (LW W z11 f11) res
    refine xc_if (it := 23) (ie := 21) (ls' := [some (vR 32), some (vI x1), some (vI (x1 - x1 / 12 * 12)), some (vI 1)]) (st' := [vI 1]) (bh_16_8 call r11 1 _ _) (fun q19 => ?_) (fun q19 => ?_)
    · have H := H.1 (cI0t q19)
      refine xc_b (i' := 28) (ls' := [some (vR 32), some (vI x1), some (vI (x1 - x1 / 12 * 12)), some (vI (1 + 0))]) (st' := [vI (x1 - x1 / 12 * 12), vI (1 + 0)]) (L' := LW W z11 f11) 5 (bh_16_9 call x1 (x1 - x1 / 12 * 12) 1 1 _) ?_
      refine xc_if (it := 37) (ie := 29) (ls' := [some (vR 32), some (vI x1), some (vI (x1 - x1 / 12 * 12)), some (vI (1 + 0))]) (st' := [vI (1 + 0)]) (bh_16_10 call (x1 - x1 / 12 * 12) (1 + 0) _ _) (fun q20 => ?_) (fun q20 => ?_)
      · have H := H.1 (cI5t q20 rfl rfl)
        refine xc_b (i' := 43) (ls' := [some (vR 32), some (vI x1), some (vI (x1 - x1 / 12 * 12)), some (vI ((1 + 0) + 0))]) (st' := [vI 11, vI (x1 - x1 / 12 * 12), vI ((1 + 0) + 0)]) (L' := LW W z11 f11) 6 (bh_16_11 call x1 (x1 - x1 / 12 * 12) (1 + 0) (1 + 0) _) ?_
        refine xc_if (it := 52) (ie := 44) (ls' := [some (vR 32), some (vI x1), some (vI (x1 - x1 / 12 * 12)), some (vI ((1 + 0) + 0))]) (st' := [vI ((1 + 0) + 0)]) (bh_16_12 call (x1 - x1 / 12 * 12) 11 ((1 + 0) + 0) _ _) (fun q21 => ?_) (fun q21 => ?_)
        · have H := H.1 (cI3t q21 rfl rfl)
          refine xc_b (i' := 56) (ls' := [some (vR 32), some (vI x1), some (vI (x1 - x1 / 12 * 12)), some (vI (((1 + 0) + 0) + 0))]) (st' := [vI (((1 + 0) + 0) + 0)]) (L' := LW W z11 f11) 4 (bh_16_13 call x1 (x1 - x1 / 12 * 12) ((1 + 0) + 0) ((1 + 0) + 0) _) ?_
          subst H
          exact xc_ret (bh_16_14 call _ _ _)
        · have H := H.2 (cI3f q21 rfl rfl)
          refine xc_b (i' := 48) (ls' := [some (vR 32), some (vI x1), some (vI (x1 - x1 / 12 * 12)), some (vI ((1 + 0) + 0))]) (st' := [vI (x1 + 1), vR 32, vI ((1 + 0) + 0)]) (L' := LW W z11 f11) 4 (bh_16_15 call x1 (x1 - x1 / 12 * 12) ((1 + 0) + 0) ((1 + 0) + 0) _) ?_
          obtain ⟨r12, z12, f12, hc, H⟩ := H
          refine xc_call (t := 49) (ls' := [some (vR 32), some (vI x1), some (vI (x1 - x1 / 12 * 12)), some (vI ((1 + 0) + 0))]) (st' := [vI ((1 + 0) + 0)]) (bh_16_16 call (x1 + 1) ((1 + 0) + 0) _ z11 f11) hc ?_
          show XC call (mP 16) 49 [some (vR 32), some (vI x1), some (vI (x1 - x1 / 12 * 12)), some (vI ((1 + 0) + 0))] [vI r12, vI ((1 + 0) + 0)] (LW W z12 f12) res
          refine xc_if (it := 52) (ie := 50) (ls' := [some (vR 32), some (vI x1), some (vI (x1 - x1 / 12 * 12)), some (vI ((1 + 0) + 0))]) (st' := [vI ((1 + 0) + 0)]) (bh_16_17 call r12 ((1 + 0) + 0) _ _) (fun q22 => ?_) (fun q22 => ?_)
          · have H := H.1 (cI0t q22)
            refine xc_b (i' := 56) (ls' := [some (vR 32), some (vI x1), some (vI (x1 - x1 / 12 * 12)), some (vI (((1 + 0) + 0) + 0))]) (st' := [vI (((1 + 0) + 0) + 0)]) (L' := LW W z12 f12) 4 (bh_16_13 call x1 (x1 - x1 / 12 * 12) ((1 + 0) + 0) ((1 + 0) + 0) _) ?_
            subst H
            exact xc_ret (bh_16_14 call _ _ _)
          · have H := H.2 (cI0f q22)
            refine xc_b (i' := 56) (ls' := [some (vR 32), some (vI x1), some (vI (x1 - x1 / 12 * 12)), some (vI (((1 + 0) + 0) + 1))]) (st' := [vI (((1 + 0) + 0) + 1)]) (L' := LW W z12 f12) 5 (bh_16_18 call x1 (x1 - x1 / 12 * 12) ((1 + 0) + 0) ((1 + 0) + 0) _) ?_
            subst H
            exact xc_ret (bh_16_14 call _ _ _)
      · have H := H.2 (cI5f q20 rfl rfl)
        refine xc_b (i' := 33) (ls' := [some (vR 32), some (vI x1), some (vI (x1 - x1 / 12 * 12)), some (vI (1 + 0))]) (st' := [vI (x1 - 1), vR 32, vI (1 + 0)]) (L' := LW W z11 f11) 4 (bh_16_19 call x1 (x1 - x1 / 12 * 12) (1 + 0) (1 + 0) _) ?_
        obtain ⟨r13, z13, f13, hc, H⟩ := H
        refine xc_call (t := 34) (ls' := [some (vR 32), some (vI x1), some (vI (x1 - x1 / 12 * 12)), some (vI (1 + 0))]) (st' := [vI (1 + 0)]) (bh_16_20 call (x1 - 1) (1 + 0) _ z11 f11) hc ?_
        show XC call (mP 16) 34 [some (vR 32), some (vI x1), some (vI (x1 - x1 / 12 * 12)), some (vI (1 + 0))] [vI r13, vI (1 + 0)] (LW W z13 f13) res
        refine xc_if (it := 37) (ie := 35) (ls' := [some (vR 32), some (vI x1), some (vI (x1 - x1 / 12 * 12)), some (vI (1 + 0))]) (st' := [vI (1 + 0)]) (bh_16_21 call r13 (1 + 0) _ _) (fun q23 => ?_) (fun q23 => ?_)
        · have H := H.1 (cI0t q23)
          refine xc_b (i' := 43) (ls' := [some (vR 32), some (vI x1), some (vI (x1 - x1 / 12 * 12)), some (vI ((1 + 0) + 0))]) (st' := [vI 11, vI (x1 - x1 / 12 * 12), vI ((1 + 0) + 0)]) (L' := LW W z13 f13) 6 (bh_16_11 call x1 (x1 - x1 / 12 * 12) (1 + 0) (1 + 0) _) ?_
          refine xc_if (it := 52) (ie := 44) (ls' := [some (vR 32), some (vI x1), some (vI (x1 - x1 / 12 * 12)), some (vI ((1 + 0) + 0))]) (st' := [vI ((1 + 0) + 0)]) (bh_16_12 call (x1 - x1 / 12 * 12) 11 ((1 + 0) + 0) _ _) (fun q24 => ?_) (fun q24 => ?_)
          · have H := H.1 (cI3t q24 rfl rfl)
            refine xc_b (i' := 56) (ls' := [some (vR 32), some (vI x1), some (vI (x1 - x1 / 12 * 12)), some (vI (((1 + 0) + 0) + 0))]) (st' := [vI (((1 + 0) + 0) + 0)]) (L' := LW W z13 f13) 4 (bh_16_13 call x1 (x1 - x1 / 12 * 12) ((1 + 0) + 0) ((1 + 0) + 0) _) ?_
            subst H
            exact xc_ret (bh_16_14 call _ _ _)
          · have H := H.2 (cI3f q24 rfl rfl)
            refine xc_b (i' := 48) (ls' := [some (vR 32), some (vI x1), some (vI (x1 - x1 / 12 * 12)), some (vI ((1 + 0) + 0))]) (st' := [vI (x1 + 1), vR 32, vI ((1 + 0) + 0)]) (L' := LW W z13 f13) 4 (bh_16_15 call x1 (x1 - x1 / 12 * 12) ((1 + 0) + 0) ((1 + 0) + 0) _) ?_
            obtain ⟨r14, z14, f14, hc, H⟩ := H
            refine xc_call (t := 49) (ls' := [some (vR 32), some (vI x1), some (vI (x1 - x1 / 12 * 12)), some (vI ((1 + 0) + 0))]) (st' := [vI ((1 + 0) + 0)]) (bh_16_16 call (x1 + 1) ((1 + 0) + 0) _ z13 f13) hc ?_
            show XC call (mP 16) 49 [some (vR 32), some (vI x1), some (vI (x1 - x1 / 12 * 12)), some (vI ((1 + 0) + 0))] [vI r14, vI ((1 + 0) + 0)] (LW W z14 f14) res
            refine xc_if (it := 52) (ie := 50) (ls' := [some (vR 32), some (vI x1), some (vI (x1 - x1 / 12 * 12)), some (vI ((1 + 0) + 0))]) (st' := [vI ((1 + 0) + 0)]) (bh_16_17 call r14 ((1 + 0) + 0) _ _) (fun q25 => ?_) (fun q25 => ?_)
            · have H := H.1 (cI0t q25)
              refine xc_b (i' := 56) (ls' := [some (vR 32), some (vI x1), some (vI (x1 - x1 / 12 * 12)), some (vI (((1 + 0) + 0) + 0))]) (st' := [vI (((1 + 0) + 0) + 0)]) (L' := LW W z14 f14) 4 (bh_16_13 call x1 (x1 - x1 / 12 * 12) ((1 + 0) + 0) ((1 + 0) + 0) _) ?_
              subst H
              exact xc_ret (bh_16_14 call _ _ _)
            · have H := H.2 (cI0f q25)
              refine xc_b (i' := 56) (ls' := [some (vR 32), some (vI x1), some (vI (x1 - x1 / 12 * 12)), some (vI (((1 + 0) + 0) + 1))]) (st' := [vI (((1 + 0) + 0) + 1)]) (L' := LW W z14 f14) 5 (bh_16_18 call x1 (x1 - x1 / 12 * 12) ((1 + 0) + 0) ((1 + 0) + 0) _) ?_
              subst H
              exact xc_ret (bh_16_14 call _ _ _)
        · have H := H.2 (cI0f q23)
          refine xc_b (i' := 43) (ls' := [some (vR 32), some (vI x1), some (vI (x1 - x1 / 12 * 12)), some (vI ((1 + 0) + 1))]) (st' := [vI 11, vI (x1 - x1 / 12 * 12), vI ((1 + 0) + 1)]) (L' := LW W z13 f13) 7 (bh_16_22 call x1 (x1 - x1 / 12 * 12) (1 + 0) (1 + 0) _) ?_
          refine xc_if (it := 52) (ie := 44) (ls' := [some (vR 32), some (vI x1), some (vI (x1 - x1 / 12 * 12)), some (vI ((1 + 0) + 1))]) (st' := [vI ((1 + 0) + 1)]) (bh_16_12 call (x1 - x1 / 12 * 12) 11 ((1 + 0) + 1) _ _) (fun q26 => ?_) (fun q26 => ?_)
          · have H := H.1 (cI3t q26 rfl rfl)
            refine xc_b (i' := 56) (ls' := [some (vR 32), some (vI x1), some (vI (x1 - x1 / 12 * 12)), some (vI (((1 + 0) + 1) + 0))]) (st' := [vI (((1 + 0) + 1) + 0)]) (L' := LW W z13 f13) 4 (bh_16_13 call x1 (x1 - x1 / 12 * 12) ((1 + 0) + 1) ((1 + 0) + 1) _) ?_
            subst H
            exact xc_ret (bh_16_14 call _ _ _)
          · have H := H.2 (cI3f q26 rfl rfl)
            refine xc_b (i' := 48) (ls' := [some (vR 32), some (vI x1), some (vI (x1 - x1 / 12 * 12)), some (vI ((1 + 0) + 1))]) (st' := [vI (x1 + 1), vR 32, vI ((1 + 0) + 1)]) (L' := LW W z13 f13) 4 (bh_16_15 call x1 (x1 - x1 / 12 * 12) ((1 + 0) + 1) ((1 + 0) + 1) _) ?_
            obtain ⟨r15, z15, f15, hc, H⟩ := H
            refine xc_call (t := 49) (ls' := [some (vR 32), some (vI x1), some (vI (x1 - x1 / 12 * 12)), some (vI ((1 + 0) + 1))]) (st' := [vI ((1 + 0) + 1)]) (bh_16_16 call (x1 + 1) ((1 + 0) + 1) _ z13 f13) hc ?_
            show XC call (mP 16) 49 [some (vR 32), some (vI x1), some (vI (x1 - x1 / 12 * 12)), some (vI ((1 + 0) + 1))] [vI r15, vI ((1 + 0) + 1)] (LW W z15 f15) res
            refine xc_if (it := 52) (ie := 50) (ls' := [some (vR 32), some (vI x1), some (vI (x1 - x1 / 12 * 12)), some (vI ((1 + 0) + 1))]) (st' := [vI ((1 + 0) + 1)]) (bh_16_17 call r15 ((1 + 0) + 1) _ _) (fun q27 => ?_) (fun q27 => ?_)
            · have H := H.1 (cI0t q27)
              refine xc_b (i' := 56) (ls' := [some (vR 32), some (vI x1), some (vI (x1 - x1 / 12 * 12)), some (vI (((1 + 0) + 1) + 0))]) (st' := [vI (((1 + 0) + 1) + 0)]) (L' := LW W z15 f15) 4 (bh_16_13 call x1 (x1 - x1 / 12 * 12) ((1 + 0) + 1) ((1 + 0) + 1) _) ?_
              subst H
              exact xc_ret (bh_16_14 call _ _ _)
            · have H := H.2 (cI0f q27)
              refine xc_b (i' := 56) (ls' := [some (vR 32), some (vI x1), some (vI (x1 - x1 / 12 * 12)), some (vI (((1 + 0) + 1) + 1))]) (st' := [vI (((1 + 0) + 1) + 1)]) (L' := LW W z15 f15) 5 (bh_16_18 call x1 (x1 - x1 / 12 * 12) ((1 + 0) + 1) ((1 + 0) + 1) _) ?_
              subst H
              exact xc_ret (bh_16_14 call _ _ _)
    · have H := H.2 (cI0f q19)
      refine xc_b (i' := 28) (ls' := [some (vR 32), some (vI x1), some (vI (x1 - x1 / 12 * 12)), some (vI (1 + 1))]) (st' := [vI (x1 - x1 / 12 * 12), vI (1 + 1)]) (L' := LW W z11 f11) 6 (bh_16_23 call x1 (x1 - x1 / 12 * 12) 1 1 _) ?_
      refine xc_if (it := 37) (ie := 29) (ls' := [some (vR 32), some (vI x1), some (vI (x1 - x1 / 12 * 12)), some (vI (1 + 1))]) (st' := [vI (1 + 1)]) (bh_16_10 call (x1 - x1 / 12 * 12) (1 + 1) _ _) (fun q28 => ?_) (fun q28 => ?_)
      · have H := H.1 (cI5t q28 rfl rfl)
        refine xc_b (i' := 43) (ls' := [some (vR 32), some (vI x1), some (vI (x1 - x1 / 12 * 12)), some (vI ((1 + 1) + 0))]) (st' := [vI 11, vI (x1 - x1 / 12 * 12), vI ((1 + 1) + 0)]) (L' := LW W z11 f11) 6 (bh_16_11 call x1 (x1 - x1 / 12 * 12) (1 + 1) (1 + 1) _) ?_
        refine xc_if (it := 52) (ie := 44) (ls' := [some (vR 32), some (vI x1), some (vI (x1 - x1 / 12 * 12)), some (vI ((1 + 1) + 0))]) (st' := [vI ((1 + 1) + 0)]) (bh_16_12 call (x1 - x1 / 12 * 12) 11 ((1 + 1) + 0) _ _) (fun q29 => ?_) (fun q29 => ?_)
        · have H := H.1 (cI3t q29 rfl rfl)
          refine xc_b (i' := 56) (ls' := [some (vR 32), some (vI x1), some (vI (x1 - x1 / 12 * 12)), some (vI (((1 + 1) + 0) + 0))]) (st' := [vI (((1 + 1) + 0) + 0)]) (L' := LW W z11 f11) 4 (bh_16_13 call x1 (x1 - x1 / 12 * 12) ((1 + 1) + 0) ((1 + 1) + 0) _) ?_
          subst H
          exact xc_ret (bh_16_14 call _ _ _)
        · have H := H.2 (cI3f q29 rfl rfl)
          refine xc_b (i' := 48) (ls' := [some (vR 32), some (vI x1), some (vI (x1 - x1 / 12 * 12)), some (vI ((1 + 1) + 0))]) (st' := [vI (x1 + 1), vR 32, vI ((1 + 1) + 0)]) (L' := LW W z11 f11) 4 (bh_16_15 call x1 (x1 - x1 / 12 * 12) ((1 + 1) + 0) ((1 + 1) + 0) _) ?_
          obtain ⟨r16, z16, f16, hc, H⟩ := H
          refine xc_call (t := 49) (ls' := [some (vR 32), some (vI x1), some (vI (x1 - x1 / 12 * 12)), some (vI ((1 + 1) + 0))]) (st' := [vI ((1 + 1) + 0)]) (bh_16_16 call (x1 + 1) ((1 + 1) + 0) _ z11 f11) hc ?_
          show XC call (mP 16) 49 [some (vR 32), some (vI x1), some (vI (x1 - x1 / 12 * 12)), some (vI ((1 + 1) + 0))] [vI r16, vI ((1 + 1) + 0)] (LW W z16 f16) res
          refine xc_if (it := 52) (ie := 50) (ls' := [some (vR 32), some (vI x1), some (vI (x1 - x1 / 12 * 12)), some (vI ((1 + 1) + 0))]) (st' := [vI ((1 + 1) + 0)]) (bh_16_17 call r16 ((1 + 1) + 0) _ _) (fun q30 => ?_) (fun q30 => ?_)
          · have H := H.1 (cI0t q30)
            refine xc_b (i' := 56) (ls' := [some (vR 32), some (vI x1), some (vI (x1 - x1 / 12 * 12)), some (vI (((1 + 1) + 0) + 0))]) (st' := [vI (((1 + 1) + 0) + 0)]) (L' := LW W z16 f16) 4 (bh_16_13 call x1 (x1 - x1 / 12 * 12) ((1 + 1) + 0) ((1 + 1) + 0) _) ?_
            subst H
            exact xc_ret (bh_16_14 call _ _ _)
          · have H := H.2 (cI0f q30)
            refine xc_b (i' := 56) (ls' := [some (vR 32), some (vI x1), some (vI (x1 - x1 / 12 * 12)), some (vI (((1 + 1) + 0) + 1))]) (st' := [vI (((1 + 1) + 0) + 1)]) (L' := LW W z16 f16) 5 (bh_16_18 call x1 (x1 - x1 / 12 * 12) ((1 + 1) + 0) ((1 + 1) + 0) _) ?_
            subst H
            exact xc_ret (bh_16_14 call _ _ _)
      · have H := H.2 (cI5f q28 rfl rfl)
        refine xc_b (i' := 33) (ls' := [some (vR 32), some (vI x1), some (vI (x1 - x1 / 12 * 12)), some (vI (1 + 1))]) (st' := [vI (x1 - 1), vR 32, vI (1 + 1)]) (L' := LW W z11 f11) 4 (bh_16_19 call x1 (x1 - x1 / 12 * 12) (1 + 1) (1 + 1) _) ?_
        obtain ⟨r17, z17, f17, hc, H⟩ := H
        refine xc_call (t := 34) (ls' := [some (vR 32), some (vI x1), some (vI (x1 - x1 / 12 * 12)), some (vI (1 + 1))]) (st' := [vI (1 + 1)]) (bh_16_20 call (x1 - 1) (1 + 1) _ z11 f11) hc ?_
        show XC call (mP 16) 34 [some (vR 32), some (vI x1), some (vI (x1 - x1 / 12 * 12)), some (vI (1 + 1))] [vI r17, vI (1 + 1)] (LW W z17 f17) res
        refine xc_if (it := 37) (ie := 35) (ls' := [some (vR 32), some (vI x1), some (vI (x1 - x1 / 12 * 12)), some (vI (1 + 1))]) (st' := [vI (1 + 1)]) (bh_16_21 call r17 (1 + 1) _ _) (fun q31 => ?_) (fun q31 => ?_)
        · have H := H.1 (cI0t q31)
          refine xc_b (i' := 43) (ls' := [some (vR 32), some (vI x1), some (vI (x1 - x1 / 12 * 12)), some (vI ((1 + 1) + 0))]) (st' := [vI 11, vI (x1 - x1 / 12 * 12), vI ((1 + 1) + 0)]) (L' := LW W z17 f17) 6 (bh_16_11 call x1 (x1 - x1 / 12 * 12) (1 + 1) (1 + 1) _) ?_
          refine xc_if (it := 52) (ie := 44) (ls' := [some (vR 32), some (vI x1), some (vI (x1 - x1 / 12 * 12)), some (vI ((1 + 1) + 0))]) (st' := [vI ((1 + 1) + 0)]) (bh_16_12 call (x1 - x1 / 12 * 12) 11 ((1 + 1) + 0) _ _) (fun q32 => ?_) (fun q32 => ?_)
          · have H := H.1 (cI3t q32 rfl rfl)
            refine xc_b (i' := 56) (ls' := [some (vR 32), some (vI x1), some (vI (x1 - x1 / 12 * 12)), some (vI (((1 + 1) + 0) + 0))]) (st' := [vI (((1 + 1) + 0) + 0)]) (L' := LW W z17 f17) 4 (bh_16_13 call x1 (x1 - x1 / 12 * 12) ((1 + 1) + 0) ((1 + 1) + 0) _) ?_
            subst H
            exact xc_ret (bh_16_14 call _ _ _)
          · have H := H.2 (cI3f q32 rfl rfl)
            refine xc_b (i' := 48) (ls' := [some (vR 32), some (vI x1), some (vI (x1 - x1 / 12 * 12)), some (vI ((1 + 1) + 0))]) (st' := [vI (x1 + 1), vR 32, vI ((1 + 1) + 0)]) (L' := LW W z17 f17) 4 (bh_16_15 call x1 (x1 - x1 / 12 * 12) ((1 + 1) + 0) ((1 + 1) + 0) _) ?_
            obtain ⟨r18, z18, f18, hc, H⟩ := H
            refine xc_call (t := 49) (ls' := [some (vR 32), some (vI x1), some (vI (x1 - x1 / 12 * 12)), some (vI ((1 + 1) + 0))]) (st' := [vI ((1 + 1) + 0)]) (bh_16_16 call (x1 + 1) ((1 + 1) + 0) _ z17 f17) hc ?_
            show XC call (mP 16) 49 [some (vR 32), some (vI x1), some (vI (x1 - x1 / 12 * 12)), some (vI ((1 + 1) + 0))] [vI r18, vI ((1 + 1) + 0)] (LW W z18 f18) res
            refine xc_if (it := 52) (ie := 50) (ls' := [some (vR 32), some (vI x1), some (vI (x1 - x1 / 12 * 12)), some (vI ((1 + 1) + 0))]) (st' := [vI ((1 + 1) + 0)]) (bh_16_17 call r18 ((1 + 1) + 0) _ _) (fun q33 => ?_) (fun q33 => ?_)
            · have H := H.1 (cI0t q33)
              refine xc_b (i' := 56) (ls' := [some (vR 32), some (vI x1), some (vI (x1 - x1 / 12 * 12)), some (vI (((1 + 1) + 0) + 0))]) (st' := [vI (((1 + 1) + 0) + 0)]) (L' := LW W z18 f18) 4 (bh_16_13 call x1 (x1 - x1 / 12 * 12) ((1 + 1) + 0) ((1 + 1) + 0) _) ?_
              subst H
              exact xc_ret (bh_16_14 call _ _ _)
            · have H := H.2 (cI0f q33)
              refine xc_b (i' := 56) (ls' := [some (vR 32), some (vI x1), some (vI (x1 - x1 / 12 * 12)), some (vI (((1 + 1) + 0) + 1))]) (st' := [vI (((1 + 1) + 0) + 1)]) (L' := LW W z18 f18) 5 (bh_16_18 call x1 (x1 - x1 / 12 * 12) ((1 + 1) + 0) ((1 + 1) + 0) _) ?_
              subst H
              exact xc_ret (bh_16_14 call _ _ _)
        · have H := H.2 (cI0f q31)
          refine xc_b (i' := 43) (ls' := [some (vR 32), some (vI x1), some (vI (x1 - x1 / 12 * 12)), some (vI ((1 + 1) + 1))]) (st' := [vI 11, vI (x1 - x1 / 12 * 12), vI ((1 + 1) + 1)]) (L' := LW W z17 f17) 7 (bh_16_22 call x1 (x1 - x1 / 12 * 12) (1 + 1) (1 + 1) _) ?_
          refine xc_if (it := 52) (ie := 44) (ls' := [some (vR 32), some (vI x1), some (vI (x1 - x1 / 12 * 12)), some (vI ((1 + 1) + 1))]) (st' := [vI ((1 + 1) + 1)]) (bh_16_12 call (x1 - x1 / 12 * 12) 11 ((1 + 1) + 1) _ _) (fun q34 => ?_) (fun q34 => ?_)
          · have H := H.1 (cI3t q34 rfl rfl)
            refine xc_b (i' := 56) (ls' := [some (vR 32), some (vI x1), some (vI (x1 - x1 / 12 * 12)), some (vI (((1 + 1) + 1) + 0))]) (st' := [vI (((1 + 1) + 1) + 0)]) (L' := LW W z17 f17) 4 (bh_16_13 call x1 (x1 - x1 / 12 * 12) ((1 + 1) + 1) ((1 + 1) + 1) _) ?_
            subst H
            exact xc_ret (bh_16_14 call _ _ _)
          · have H := H.2 (cI3f q34 rfl rfl)
            refine xc_b (i' := 48) (ls' := [some (vR 32), some (vI x1), some (vI (x1 - x1 / 12 * 12)), some (vI ((1 + 1) + 1))]) (st' := [vI (x1 + 1), vR 32, vI ((1 + 1) + 1)]) (L' := LW W z17 f17) 4 (bh_16_15 call x1 (x1 - x1 / 12 * 12) ((1 + 1) + 1) ((1 + 1) + 1) _) ?_
            obtain ⟨r19, z19, f19, hc, H⟩ := H
            refine xc_call (t := 49) (ls' := [some (vR 32), some (vI x1), some (vI (x1 - x1 / 12 * 12)), some (vI ((1 + 1) + 1))]) (st' := [vI ((1 + 1) + 1)]) (bh_16_16 call (x1 + 1) ((1 + 1) + 1) _ z17 f17) hc ?_
            show XC call (mP 16) 49 [some (vR 32), some (vI x1), some (vI (x1 - x1 / 12 * 12)), some (vI ((1 + 1) + 1))] [vI r19, vI ((1 + 1) + 1)] (LW W z19 f19) res
            refine xc_if (it := 52) (ie := 50) (ls' := [some (vR 32), some (vI x1), some (vI (x1 - x1 / 12 * 12)), some (vI ((1 + 1) + 1))]) (st' := [vI ((1 + 1) + 1)]) (bh_16_17 call r19 ((1 + 1) + 1) _ _) (fun q35 => ?_) (fun q35 => ?_)
            · have H := H.1 (cI0t q35)
              refine xc_b (i' := 56) (ls' := [some (vR 32), some (vI x1), some (vI (x1 - x1 / 12 * 12)), some (vI (((1 + 1) + 1) + 0))]) (st' := [vI (((1 + 1) + 1) + 0)]) (L' := LW W z19 f19) 4 (bh_16_13 call x1 (x1 - x1 / 12 * 12) ((1 + 1) + 1) ((1 + 1) + 1) _) ?_
              subst H
              exact xc_ret (bh_16_14 call _ _ _)
            · have H := H.2 (cI0f q35)
              refine xc_b (i' := 56) (ls' := [some (vR 32), some (vI x1), some (vI (x1 - x1 / 12 * 12)), some (vI (((1 + 1) + 1) + 1))]) (st' := [vI (((1 + 1) + 1) + 1)]) (L' := LW W z19 f19) 5 (bh_16_18 call x1 (x1 - x1 / 12 * 12) ((1 + 1) + 1) ((1 + 1) + 1) _) ?_
              subst H
              exact xc_ret (bh_16_14 call _ _ _)
theorem wHash (d : Nat) (x : Int32) {z : Nat → Int32} {f : Nat → FA} {nv : Nat} (hz : z 322 = nI nv) (hn : nv ≤ 20) : xcall (d + 1) 14 [vR 32, vI x] (LW W z f) = some (some (vI (mk1 (0 ≤ I x ∧ I x < nv))), LW W z f) := by
  have go : ∀ res, _ → xcall (d + 1) 14 [vR 32, vI x] (LW W z f) = some res := fun res H => xcall_i (mq14 (cu := [])).2.2 rfl (vch_14_0 (xcall d) x z f res H)
  have iz : I (z 322) = nv := by rw [hz]; exact I_nI (by omega)
  refine go _ ⟨fun q => ?_, fun q => ⟨fun q2 => ?_, fun q2 => ⟨fun q3 => ?_, fun q3 => ?_⟩⟩⟩
  · rw [mk1_f (by omega)]
  · rw [mk1_f (by omega)]
  · rw [mk1_f (by omega)]
  · rw [mk1_t (by omega)]
theorem wTraith (d : Nat) {z : Nat → Int32} {f : Nat → FA} {nv v w : Nat} (hz : z 322 = nI nv) (hn : nv ≤ 20) (hv : v < nv) (hw : w < 6) : xcall (d + 2) 13 [vR 32, vI (nI v), vI (nI w)] (LW W z f) = some (some (vI (f 33 (20 * w + v))), LW W z f) := by
  have h1 := wHash (W := W) d (nI v) (f := f) hz hn
  have iv : I (nI v) = v := I_nI (by omega)
  have iw : I (nI w) = w := I_nI (by omega)
  rw [mk1_t (by omega)] at h1
  have e : nI w * 20 + nI v = nI (20 * w + v) := by rw [show (20 : Int32) = nI 20 from rfl, mul_nI, nI_add, Nat.mul_comm]
  refine xcall_i (mq13 (cu := [])).2.2 rfl (vch_13_0 (xcall (d + 1)) (nI v) (nI w) none z f _ ⟨_, _, _, h1, fun q => absurd q (by decide), fun _ => ⟨fun q => by omega, fun _ => ⟨fun q => by omega, fun _ => ?_⟩⟩⟩)
  rw [e, ix_nI (j := 20 * w + v) (by omega)]
  exact ⟨pin_nI (by omega) (by omega), rfl⟩
theorem wSetTh (d : Nat) (x : Int32) {z : Nat → Int32} {f : Nat → FA} {nv v w : Nat} (hz : z 322 = nI nv) (hn : nv ≤ 20) (hv : v < nv) (hw : w < 6) : xcall (d + 2) 87 [vR 32, vI (nI v), vI (nI w), vI x] (LW W z f) = some (none, LW W z (uA f 33 (upd (f 33) (20 * w + v) x))) := by
  have h1 := wHash (W := W) d (nI v) (f := f) hz hn
  have iv : I (nI v) = v := I_nI (by omega)
  have iw : I (nI w) = w := I_nI (by omega)
  rw [mk1_t (by omega)] at h1
  have e : nI w * 20 + nI v = nI (20 * w + v) := by rw [show (20 : Int32) = nI 20 from rfl, mul_nI, nI_add, Nat.mul_comm]
  refine xcall_i (mq87 (cu := [])).2.2 rfl (vch_87_0 (xcall (d + 1)) (nI v) (nI w) x z f _ ⟨_, _, _, h1, fun q => absurd q (by decide), fun _ => ⟨fun q => by omega, fun _ => ⟨fun q => by omega, fun _ => ?_⟩⟩⟩)
  rw [e, ix_nI (j := 20 * w + v) (by omega)]
  exact ⟨pin_nI (by omega) (by omega), rfl⟩
theorem wMayh (d : Nat) {z : Nat → Int32} {f : Nat → FA} {nv v : Nat} (hz : z 322 = nI nv) (hn : nv ≤ 20) (hv : v < nv) : xcall (d + 3) 84 [vR 32, vI (nI v)] (LW W z f) = some (some (vI (mk1 (f 33 (80 + v) = 0 ∧ ¬ f 33 (20 + v) = 0))), LW W z f) := by
  have h1 := wHash (W := W) (d + 1) (nI v) (f := f) hz hn
  have iv : I (nI v) = v := I_nI (by omega)
  rw [mk1_t (by omega)] at h1
  have h2 := wTraith (W := W) d (f := f) (w := 4) hz hn hv (by omega)
  have h3 := wTraith (W := W) d (f := f) (w := 1) hz hn hv (by omega)
  refine xcall_i (mq84 (cu := [])).2.2 rfl (vch_84_0 (xcall (d + 2)) (nI v) z f _ ⟨_, _, _, h1, fun q => absurd q (by decide), fun _ => ⟨_, _, _, h2, fun q => ?_, fun q => ⟨_, _, _, h3, fun q2 => ?_, fun q2 => ?_⟩⟩⟩)
  · rw [mk1_f (fun c => q c.1)]
  · rw [mk1_f (fun c => c.2 q2)]
  · rw [mk1_t ⟨q, q2⟩]
theorem wMarkh (d : Nat) {z : Nat → Int32} {f : Nat → FA} {i : Nat} (hi : i < 144) : xcall (d + 1) 8 [vR 32, vI (nI i)] (LW W z f) = some (some (vI (f 34 i)), LW W z f) := by
  have ii : I (nI i) = i := I_nI (by omega)
  refine xcall_i (mq8 (cu := [])).2.2 rfl (vch_8_0 (xcall d) (nI i) z f _ ⟨fun q => by omega, fun _ => ⟨fun q => by omega, fun _ => ⟨pin_nI (by omega) (by omega), ?_⟩⟩⟩)
  rw [ix_nI (j := i) (by omega)]
theorem wMkdXh (d : Nat) (x : Int32) {z : Nat → Int32} {f : Nat → FA} : xcall (d + 1) 6 [vR 32, vI x] (LW W z f) = some (some (vI (mkB (f 34) x)), LW W z f) := by
  have go : ∀ res, _ → xcall (d + 1) 6 [vR 32, vI x] (LW W z f) = some res := fun res H => xcall_i (mq6 (cu := [])).2.2 rfl (vch_6_0 (xcall d) x z f res H)
  refine go _ ⟨fun q => ?_, fun q => ⟨fun q2 => ?_, fun q2 => ⟨?_, fun q3 => ?_, fun q3 => ?_⟩⟩⟩
  · rw [mkB_f (fun c => by have := c.1; omega)]
  · rw [mkB_f (fun c => by have := c.1; omega)]
  · obtain ⟨n, rfl, n1, n2⟩ := nI_ofI q
    exact pin_nI (by omega) (by omega)
  · rw [mkB_f (fun c => c.2 q3)]
  · rw [mkB_t ⟨⟨q, q2⟩, q3⟩]
theorem wMkdh (d : Nat) {z : Nat → Int32} {f : Nat → FA} {i : Nat} (hi : i < 144) : xcall (d + 1) 6 [vR 32, vI (nI i)] (LW W z f) = some (some (vI (mk1 (¬ f 34 i = 0))), LW W z f) := by
  have ii : I (nI i) = i := I_nI (by omega)
  have h := wMkdXh (W := W) d (nI i) (z := z) (f := f)
  by_cases c : f 34 i = 0
  · rw [mkB_f (fun q => q.2 (by rw [ix_nI (j := i) (by omega)]; exact c))] at h
    rw [mk1_f (fun q => q c)]
    exact h
  · rw [mkB_t ⟨⟨by omega, by omega⟩, by rw [ix_nI (j := i) (by omega)]; exact c⟩] at h
    rw [mk1_t c]
    exact h
theorem wDeph (d : Nat) {z : Nat → Int32} {f : Nat → FA} {i : Nat} (hi : i < 144) : xcall (d + 2) 15 [vR 32, vI (nI i)] (LW W z f) = some (some (vI (mkD (f 34 i))), LW W z f) := by
  unfold mkD
  refine xcall_i (mq15 (cu := [])).2.2 rfl (vch_15_0 (xcall (d + 1)) (nI i) z f _ ⟨_, _, _, wMarkh d hi, fun q => ?_, fun q => ?_⟩)
  · rw [if_pos q]
  · rw [if_neg (by omega)]
theorem wWayh (d : Nat) {z : Nat → Int32} {f : Nat → FA} {i : Nat} (hi : i < 144) : xcall (d + 2) 7 [vR 32, vI (nI i)] (LW W z f) = some (some (vI (mkW (f 34 i))), LW W z f) := xcall_i (mq7 (cu := [])).2.2 rfl (vch_7_0 (xcall (d + 1)) (nI i) z f _ ⟨_, _, _, wMarkh d hi, _, _, _, wCmp d _ _, rfl⟩)
theorem wOwnh (d : Nat) {z : Nat → Int32} {f : Nat → FA} {i : Nat} (hi : i < 144) : xcall (d + 2) 11 [vR 32, vI (nI i)] (LW W z f) = some (some (vI (mkO (f 34 i))), LW W z f) := by
  unfold mkO
  refine xcall_i (mq11 (cu := [])).2.2 rfl (vch_11_0 (xcall (d + 1)) (nI i) none z f _ ⟨_, _, _, wMarkh d hi, fun q => ⟨fun q2 => ?_, fun q2 => ?_⟩, fun q => ?_⟩)
  · rw [if_neg q, if_pos q2]
  · rw [if_neg q, if_neg (by omega)]
  · rw [if_pos q]
theorem wPuth (d : Nat) (a b e : Int32) {z : Nat → Int32} {f : Nat → FA} {i : Nat} (hi : i < 144) : xcall (d + 1) 86 [vR 32, vI (nI i), vI a, vI b, vI e] (LW W z f) = some (none, LW W z (uA f 34 (upd (f 34) i (b * (a * 16 + e))))) := by
  have ii : I (nI i) = i := I_nI (by omega)
  refine xcall_i (mq86 (cu := [])).2.2 rfl (vch_86_0 (xcall d) (nI i) a b e z f _ ⟨fun q => by omega, fun _ => ⟨fun q => by omega, fun _ => ⟨pin_nI (by omega) (by omega), ?_⟩⟩⟩)
  rw [ix_nI (j := i) (by omega)]
theorem wTkMh (d : Nat) {z : Nat → Int32} {f : Nat → FA} {i : Nat} (hi : i < 144) : xcall (d + 1) 89 [vR 32, vI (nI i)] (LW W z f) = some (none, LW W z (uA f 34 (upd (f 34) i 0))) := by
  have ii : I (nI i) = i := I_nI (by omega)
  refine xcall_i (mq89 (cu := [])).2.2 rfl (vch_89_0 (xcall d) (nI i) z f _ ⟨fun q => by omega, fun _ => ⟨fun q => by omega, fun _ => ⟨pin_nI (by omega) (by omega), ?_⟩⟩⟩)
  rw [ix_nI (j := i) (by omega)]
theorem wThinh (d : Nat) {z : Nat → Int32} {f : Nat → FA} {i : Nat} (hi : i < 144) (hm : ¬ f 34 i = 0) (hd : 1 < I (mkD (f 34 i))) : xcall (d + 3) 91 [vR 32, vI (nI i)] (LW W z f) = some (none, LW W z (uA f 34 (upd (f 34) i (f 34 i - mkW (f 34 i))))) := by
  have h1 := wMkdh (W := W) (d + 1) (z := z) (f := f) hi
  rw [mk1_t hm] at h1
  have pi : pin (nI i) 144 = true := pin_nI (by omega) (by omega)
  refine xcall_i (mq91 (cu := [])).2.2 rfl (vch_91_0 (xcall (d + 2)) (nI i) z f _ ⟨_, _, _, h1, fun q => absurd q (by decide), fun _ => ⟨_, _, _, wDeph d hi, fun q => by omega, fun _ => ⟨pi, _, _, _, wWayh d hi, pi, ?_⟩⟩⟩)
  rw [ix_nI (j := i) (by omega)]
theorem wBesh (d : Nat) (x : Int32) {z : Nat → Int32} {f : Nat → FA} : xcall (d + 2) 16 [vR 32, vI x] (LW W z f) = some (some (vI (bsd (f 34) x)), LW W z f) := by
  have go : ∀ res, _ → xcall (d + 2) 16 [vR 32, vI x] (LW W z f) = some res := fun res H => xcall_i (mq16 (cu := [])).2.2 rfl (vch_16_0 (xcall (d + 1)) x none none z f res H)
  have h1 := wMkdXh (W := W) d (x + 12) (z := z) (f := f)
  have h2 := wMkdXh (W := W) d (x - 12) (z := z) (f := f)
  have h3 := wMkdXh (W := W) d (x - 1) (z := z) (f := f)
  have h4 := wMkdXh (W := W) d (x + 1) (z := z) (f := f)
  unfold bsd
  rcases Classical.em (mkdX (f 34) (x + 12)) with b1 | b1 <;> rcases Classical.em (mkdX (f 34) (x - 12)) with b2 | b2 <;> rcases Classical.em (mkdX (f 34) (x - 1)) with b3 | b3 <;> rcases Classical.em (mkdX (f 34) (x + 1)) with b4 | b4 <;> rcases Classical.em (0 < I (x - x / 12 * 12)) with c1 | c1 <;> rcases Classical.em (I (x - x / 12 * 12) < 11) with c2 | c2
  · rw [mkB_t b1] at h1
    rw [mkB_t b2] at h2
    rw [mkB_t b3] at h3
    rw [mkB_t b4] at h4
    rw [mkB_t b1, mkB_t b2, if_pos c1, mkB_t b3, if_pos c2, mkB_t b4]
    exact go _ ⟨by decide, _, _, _, h1, fun q => absurd q (by decide), fun _ => ⟨_, _, _, h2, fun q => absurd q (by decide), fun _ => ⟨fun q => by omega, fun _ => ⟨_, _, _, h3, fun q => absurd q (by decide), fun _ => ⟨fun q => by omega, fun _ => ⟨_, _, _, h4, fun q => absurd q (by decide), fun _ => rfl⟩⟩⟩⟩⟩⟩
  · rw [mkB_t b1] at h1
    rw [mkB_t b2] at h2
    rw [mkB_t b3] at h3
    rw [mkB_t b4] at h4
    rw [mkB_t b1, mkB_t b2, if_pos c1, mkB_t b3, if_neg c2]
    exact go _ ⟨by decide, _, _, _, h1, fun q => absurd q (by decide), fun _ => ⟨_, _, _, h2, fun q => absurd q (by decide), fun _ => ⟨fun q => by omega, fun _ => ⟨_, _, _, h3, fun q => absurd q (by decide), fun _ => ⟨fun _ => rfl, fun q => absurd q c2⟩⟩⟩⟩⟩
  · rw [mkB_t b1] at h1
    rw [mkB_t b2] at h2
    rw [mkB_t b3] at h3
    rw [mkB_t b4] at h4
    rw [mkB_t b1, mkB_t b2, if_neg c1, if_pos c2, mkB_t b4]
    exact go _ ⟨by decide, _, _, _, h1, fun q => absurd q (by decide), fun _ => ⟨_, _, _, h2, fun q => absurd q (by decide), fun _ => ⟨fun _ => ⟨fun q => by omega, fun _ => ⟨_, _, _, h4, fun q => absurd q (by decide), fun _ => rfl⟩⟩, fun q => absurd q c1⟩⟩⟩
  · rw [mkB_t b1] at h1
    rw [mkB_t b2] at h2
    rw [mkB_t b3] at h3
    rw [mkB_t b4] at h4
    rw [mkB_t b1, mkB_t b2, if_neg c1, if_neg c2]
    exact go _ ⟨by decide, _, _, _, h1, fun q => absurd q (by decide), fun _ => ⟨_, _, _, h2, fun q => absurd q (by decide), fun _ => ⟨fun _ => ⟨fun _ => rfl, fun q => absurd q c2⟩, fun q => absurd q c1⟩⟩⟩
  · rw [mkB_t b1] at h1
    rw [mkB_t b2] at h2
    rw [mkB_t b3] at h3
    rw [mkB_f b4] at h4
    rw [mkB_t b1, mkB_t b2, if_pos c1, mkB_t b3, if_pos c2, mkB_f b4]
    exact go _ ⟨by decide, _, _, _, h1, fun q => absurd q (by decide), fun _ => ⟨_, _, _, h2, fun q => absurd q (by decide), fun _ => ⟨fun q => by omega, fun _ => ⟨_, _, _, h3, fun q => absurd q (by decide), fun _ => ⟨fun q => by omega, fun _ => ⟨_, _, _, h4, fun _ => rfl, fun q => absurd rfl q⟩⟩⟩⟩⟩⟩
  · rw [mkB_t b1] at h1
    rw [mkB_t b2] at h2
    rw [mkB_t b3] at h3
    rw [mkB_f b4] at h4
    rw [mkB_t b1, mkB_t b2, if_pos c1, mkB_t b3, if_neg c2]
    exact go _ ⟨by decide, _, _, _, h1, fun q => absurd q (by decide), fun _ => ⟨_, _, _, h2, fun q => absurd q (by decide), fun _ => ⟨fun q => by omega, fun _ => ⟨_, _, _, h3, fun q => absurd q (by decide), fun _ => ⟨fun _ => rfl, fun q => absurd q c2⟩⟩⟩⟩⟩
  · rw [mkB_t b1] at h1
    rw [mkB_t b2] at h2
    rw [mkB_t b3] at h3
    rw [mkB_f b4] at h4
    rw [mkB_t b1, mkB_t b2, if_neg c1, if_pos c2, mkB_f b4]
    exact go _ ⟨by decide, _, _, _, h1, fun q => absurd q (by decide), fun _ => ⟨_, _, _, h2, fun q => absurd q (by decide), fun _ => ⟨fun _ => ⟨fun q => by omega, fun _ => ⟨_, _, _, h4, fun _ => rfl, fun q => absurd rfl q⟩⟩, fun q => absurd q c1⟩⟩⟩
  · rw [mkB_t b1] at h1
    rw [mkB_t b2] at h2
    rw [mkB_t b3] at h3
    rw [mkB_f b4] at h4
    rw [mkB_t b1, mkB_t b2, if_neg c1, if_neg c2]
    exact go _ ⟨by decide, _, _, _, h1, fun q => absurd q (by decide), fun _ => ⟨_, _, _, h2, fun q => absurd q (by decide), fun _ => ⟨fun _ => ⟨fun _ => rfl, fun q => absurd q c2⟩, fun q => absurd q c1⟩⟩⟩
  · rw [mkB_t b1] at h1
    rw [mkB_t b2] at h2
    rw [mkB_f b3] at h3
    rw [mkB_t b4] at h4
    rw [mkB_t b1, mkB_t b2, if_pos c1, mkB_f b3, if_pos c2, mkB_t b4]
    exact go _ ⟨by decide, _, _, _, h1, fun q => absurd q (by decide), fun _ => ⟨_, _, _, h2, fun q => absurd q (by decide), fun _ => ⟨fun q => by omega, fun _ => ⟨_, _, _, h3, fun _ => ⟨fun q => by omega, fun _ => ⟨_, _, _, h4, fun q => absurd q (by decide), fun _ => rfl⟩⟩, fun q => absurd rfl q⟩⟩⟩⟩
  · rw [mkB_t b1] at h1
    rw [mkB_t b2] at h2
    rw [mkB_f b3] at h3
    rw [mkB_t b4] at h4
    rw [mkB_t b1, mkB_t b2, if_pos c1, mkB_f b3, if_neg c2]
    exact go _ ⟨by decide, _, _, _, h1, fun q => absurd q (by decide), fun _ => ⟨_, _, _, h2, fun q => absurd q (by decide), fun _ => ⟨fun q => by omega, fun _ => ⟨_, _, _, h3, fun _ => ⟨fun _ => rfl, fun q => absurd q c2⟩, fun q => absurd rfl q⟩⟩⟩⟩
  · rw [mkB_t b1] at h1
    rw [mkB_t b2] at h2
    rw [mkB_f b3] at h3
    rw [mkB_t b4] at h4
    rw [mkB_t b1, mkB_t b2, if_neg c1, if_pos c2, mkB_t b4]
    exact go _ ⟨by decide, _, _, _, h1, fun q => absurd q (by decide), fun _ => ⟨_, _, _, h2, fun q => absurd q (by decide), fun _ => ⟨fun _ => ⟨fun q => by omega, fun _ => ⟨_, _, _, h4, fun q => absurd q (by decide), fun _ => rfl⟩⟩, fun q => absurd q c1⟩⟩⟩
  · rw [mkB_t b1] at h1
    rw [mkB_t b2] at h2
    rw [mkB_f b3] at h3
    rw [mkB_t b4] at h4
    rw [mkB_t b1, mkB_t b2, if_neg c1, if_neg c2]
    exact go _ ⟨by decide, _, _, _, h1, fun q => absurd q (by decide), fun _ => ⟨_, _, _, h2, fun q => absurd q (by decide), fun _ => ⟨fun _ => ⟨fun _ => rfl, fun q => absurd q c2⟩, fun q => absurd q c1⟩⟩⟩
  · rw [mkB_t b1] at h1
    rw [mkB_t b2] at h2
    rw [mkB_f b3] at h3
    rw [mkB_f b4] at h4
    rw [mkB_t b1, mkB_t b2, if_pos c1, mkB_f b3, if_pos c2, mkB_f b4]
    exact go _ ⟨by decide, _, _, _, h1, fun q => absurd q (by decide), fun _ => ⟨_, _, _, h2, fun q => absurd q (by decide), fun _ => ⟨fun q => by omega, fun _ => ⟨_, _, _, h3, fun _ => ⟨fun q => by omega, fun _ => ⟨_, _, _, h4, fun _ => rfl, fun q => absurd rfl q⟩⟩, fun q => absurd rfl q⟩⟩⟩⟩
  · rw [mkB_t b1] at h1
    rw [mkB_t b2] at h2
    rw [mkB_f b3] at h3
    rw [mkB_f b4] at h4
    rw [mkB_t b1, mkB_t b2, if_pos c1, mkB_f b3, if_neg c2]
    exact go _ ⟨by decide, _, _, _, h1, fun q => absurd q (by decide), fun _ => ⟨_, _, _, h2, fun q => absurd q (by decide), fun _ => ⟨fun q => by omega, fun _ => ⟨_, _, _, h3, fun _ => ⟨fun _ => rfl, fun q => absurd q c2⟩, fun q => absurd rfl q⟩⟩⟩⟩
  · rw [mkB_t b1] at h1
    rw [mkB_t b2] at h2
    rw [mkB_f b3] at h3
    rw [mkB_f b4] at h4
    rw [mkB_t b1, mkB_t b2, if_neg c1, if_pos c2, mkB_f b4]
    exact go _ ⟨by decide, _, _, _, h1, fun q => absurd q (by decide), fun _ => ⟨_, _, _, h2, fun q => absurd q (by decide), fun _ => ⟨fun _ => ⟨fun q => by omega, fun _ => ⟨_, _, _, h4, fun _ => rfl, fun q => absurd rfl q⟩⟩, fun q => absurd q c1⟩⟩⟩
  · rw [mkB_t b1] at h1
    rw [mkB_t b2] at h2
    rw [mkB_f b3] at h3
    rw [mkB_f b4] at h4
    rw [mkB_t b1, mkB_t b2, if_neg c1, if_neg c2]
    exact go _ ⟨by decide, _, _, _, h1, fun q => absurd q (by decide), fun _ => ⟨_, _, _, h2, fun q => absurd q (by decide), fun _ => ⟨fun _ => ⟨fun _ => rfl, fun q => absurd q c2⟩, fun q => absurd q c1⟩⟩⟩
  · rw [mkB_t b1] at h1
    rw [mkB_f b2] at h2
    rw [mkB_t b3] at h3
    rw [mkB_t b4] at h4
    rw [mkB_t b1, mkB_f b2, if_pos c1, mkB_t b3, if_pos c2, mkB_t b4]
    exact go _ ⟨by decide, _, _, _, h1, fun q => absurd q (by decide), fun _ => ⟨_, _, _, h2, fun _ => ⟨fun q => by omega, fun _ => ⟨_, _, _, h3, fun q => absurd q (by decide), fun _ => ⟨fun q => by omega, fun _ => ⟨_, _, _, h4, fun q => absurd q (by decide), fun _ => rfl⟩⟩⟩⟩, fun q => absurd rfl q⟩⟩
  · rw [mkB_t b1] at h1
    rw [mkB_f b2] at h2
    rw [mkB_t b3] at h3
    rw [mkB_t b4] at h4
    rw [mkB_t b1, mkB_f b2, if_pos c1, mkB_t b3, if_neg c2]
    exact go _ ⟨by decide, _, _, _, h1, fun q => absurd q (by decide), fun _ => ⟨_, _, _, h2, fun _ => ⟨fun q => by omega, fun _ => ⟨_, _, _, h3, fun q => absurd q (by decide), fun _ => ⟨fun _ => rfl, fun q => absurd q c2⟩⟩⟩, fun q => absurd rfl q⟩⟩
  · rw [mkB_t b1] at h1
    rw [mkB_f b2] at h2
    rw [mkB_t b3] at h3
    rw [mkB_t b4] at h4
    rw [mkB_t b1, mkB_f b2, if_neg c1, if_pos c2, mkB_t b4]
    exact go _ ⟨by decide, _, _, _, h1, fun q => absurd q (by decide), fun _ => ⟨_, _, _, h2, fun _ => ⟨fun _ => ⟨fun q => by omega, fun _ => ⟨_, _, _, h4, fun q => absurd q (by decide), fun _ => rfl⟩⟩, fun q => absurd q c1⟩, fun q => absurd rfl q⟩⟩
  · rw [mkB_t b1] at h1
    rw [mkB_f b2] at h2
    rw [mkB_t b3] at h3
    rw [mkB_t b4] at h4
    rw [mkB_t b1, mkB_f b2, if_neg c1, if_neg c2]
    exact go _ ⟨by decide, _, _, _, h1, fun q => absurd q (by decide), fun _ => ⟨_, _, _, h2, fun _ => ⟨fun _ => ⟨fun _ => rfl, fun q => absurd q c2⟩, fun q => absurd q c1⟩, fun q => absurd rfl q⟩⟩
  · rw [mkB_t b1] at h1
    rw [mkB_f b2] at h2
    rw [mkB_t b3] at h3
    rw [mkB_f b4] at h4
    rw [mkB_t b1, mkB_f b2, if_pos c1, mkB_t b3, if_pos c2, mkB_f b4]
    exact go _ ⟨by decide, _, _, _, h1, fun q => absurd q (by decide), fun _ => ⟨_, _, _, h2, fun _ => ⟨fun q => by omega, fun _ => ⟨_, _, _, h3, fun q => absurd q (by decide), fun _ => ⟨fun q => by omega, fun _ => ⟨_, _, _, h4, fun _ => rfl, fun q => absurd rfl q⟩⟩⟩⟩, fun q => absurd rfl q⟩⟩
  · rw [mkB_t b1] at h1
    rw [mkB_f b2] at h2
    rw [mkB_t b3] at h3
    rw [mkB_f b4] at h4
    rw [mkB_t b1, mkB_f b2, if_pos c1, mkB_t b3, if_neg c2]
    exact go _ ⟨by decide, _, _, _, h1, fun q => absurd q (by decide), fun _ => ⟨_, _, _, h2, fun _ => ⟨fun q => by omega, fun _ => ⟨_, _, _, h3, fun q => absurd q (by decide), fun _ => ⟨fun _ => rfl, fun q => absurd q c2⟩⟩⟩, fun q => absurd rfl q⟩⟩
  · rw [mkB_t b1] at h1
    rw [mkB_f b2] at h2
    rw [mkB_t b3] at h3
    rw [mkB_f b4] at h4
    rw [mkB_t b1, mkB_f b2, if_neg c1, if_pos c2, mkB_f b4]
    exact go _ ⟨by decide, _, _, _, h1, fun q => absurd q (by decide), fun _ => ⟨_, _, _, h2, fun _ => ⟨fun _ => ⟨fun q => by omega, fun _ => ⟨_, _, _, h4, fun _ => rfl, fun q => absurd rfl q⟩⟩, fun q => absurd q c1⟩, fun q => absurd rfl q⟩⟩
  · rw [mkB_t b1] at h1
    rw [mkB_f b2] at h2
    rw [mkB_t b3] at h3
    rw [mkB_f b4] at h4
    rw [mkB_t b1, mkB_f b2, if_neg c1, if_neg c2]
    exact go _ ⟨by decide, _, _, _, h1, fun q => absurd q (by decide), fun _ => ⟨_, _, _, h2, fun _ => ⟨fun _ => ⟨fun _ => rfl, fun q => absurd q c2⟩, fun q => absurd q c1⟩, fun q => absurd rfl q⟩⟩
  · rw [mkB_t b1] at h1
    rw [mkB_f b2] at h2
    rw [mkB_f b3] at h3
    rw [mkB_t b4] at h4
    rw [mkB_t b1, mkB_f b2, if_pos c1, mkB_f b3, if_pos c2, mkB_t b4]
    exact go _ ⟨by decide, _, _, _, h1, fun q => absurd q (by decide), fun _ => ⟨_, _, _, h2, fun _ => ⟨fun q => by omega, fun _ => ⟨_, _, _, h3, fun _ => ⟨fun q => by omega, fun _ => ⟨_, _, _, h4, fun q => absurd q (by decide), fun _ => rfl⟩⟩, fun q => absurd rfl q⟩⟩, fun q => absurd rfl q⟩⟩
  · rw [mkB_t b1] at h1
    rw [mkB_f b2] at h2
    rw [mkB_f b3] at h3
    rw [mkB_t b4] at h4
    rw [mkB_t b1, mkB_f b2, if_pos c1, mkB_f b3, if_neg c2]
    exact go _ ⟨by decide, _, _, _, h1, fun q => absurd q (by decide), fun _ => ⟨_, _, _, h2, fun _ => ⟨fun q => by omega, fun _ => ⟨_, _, _, h3, fun _ => ⟨fun _ => rfl, fun q => absurd q c2⟩, fun q => absurd rfl q⟩⟩, fun q => absurd rfl q⟩⟩
  · rw [mkB_t b1] at h1
    rw [mkB_f b2] at h2
    rw [mkB_f b3] at h3
    rw [mkB_t b4] at h4
    rw [mkB_t b1, mkB_f b2, if_neg c1, if_pos c2, mkB_t b4]
    exact go _ ⟨by decide, _, _, _, h1, fun q => absurd q (by decide), fun _ => ⟨_, _, _, h2, fun _ => ⟨fun _ => ⟨fun q => by omega, fun _ => ⟨_, _, _, h4, fun q => absurd q (by decide), fun _ => rfl⟩⟩, fun q => absurd q c1⟩, fun q => absurd rfl q⟩⟩
  · rw [mkB_t b1] at h1
    rw [mkB_f b2] at h2
    rw [mkB_f b3] at h3
    rw [mkB_t b4] at h4
    rw [mkB_t b1, mkB_f b2, if_neg c1, if_neg c2]
    exact go _ ⟨by decide, _, _, _, h1, fun q => absurd q (by decide), fun _ => ⟨_, _, _, h2, fun _ => ⟨fun _ => ⟨fun _ => rfl, fun q => absurd q c2⟩, fun q => absurd q c1⟩, fun q => absurd rfl q⟩⟩
  · rw [mkB_t b1] at h1
    rw [mkB_f b2] at h2
    rw [mkB_f b3] at h3
    rw [mkB_f b4] at h4
    rw [mkB_t b1, mkB_f b2, if_pos c1, mkB_f b3, if_pos c2, mkB_f b4]
    exact go _ ⟨by decide, _, _, _, h1, fun q => absurd q (by decide), fun _ => ⟨_, _, _, h2, fun _ => ⟨fun q => by omega, fun _ => ⟨_, _, _, h3, fun _ => ⟨fun q => by omega, fun _ => ⟨_, _, _, h4, fun _ => rfl, fun q => absurd rfl q⟩⟩, fun q => absurd rfl q⟩⟩, fun q => absurd rfl q⟩⟩
  · rw [mkB_t b1] at h1
    rw [mkB_f b2] at h2
    rw [mkB_f b3] at h3
    rw [mkB_f b4] at h4
    rw [mkB_t b1, mkB_f b2, if_pos c1, mkB_f b3, if_neg c2]
    exact go _ ⟨by decide, _, _, _, h1, fun q => absurd q (by decide), fun _ => ⟨_, _, _, h2, fun _ => ⟨fun q => by omega, fun _ => ⟨_, _, _, h3, fun _ => ⟨fun _ => rfl, fun q => absurd q c2⟩, fun q => absurd rfl q⟩⟩, fun q => absurd rfl q⟩⟩
  · rw [mkB_t b1] at h1
    rw [mkB_f b2] at h2
    rw [mkB_f b3] at h3
    rw [mkB_f b4] at h4
    rw [mkB_t b1, mkB_f b2, if_neg c1, if_pos c2, mkB_f b4]
    exact go _ ⟨by decide, _, _, _, h1, fun q => absurd q (by decide), fun _ => ⟨_, _, _, h2, fun _ => ⟨fun _ => ⟨fun q => by omega, fun _ => ⟨_, _, _, h4, fun _ => rfl, fun q => absurd rfl q⟩⟩, fun q => absurd q c1⟩, fun q => absurd rfl q⟩⟩
  · rw [mkB_t b1] at h1
    rw [mkB_f b2] at h2
    rw [mkB_f b3] at h3
    rw [mkB_f b4] at h4
    rw [mkB_t b1, mkB_f b2, if_neg c1, if_neg c2]
    exact go _ ⟨by decide, _, _, _, h1, fun q => absurd q (by decide), fun _ => ⟨_, _, _, h2, fun _ => ⟨fun _ => ⟨fun _ => rfl, fun q => absurd q c2⟩, fun q => absurd q c1⟩, fun q => absurd rfl q⟩⟩
  · rw [mkB_f b1] at h1
    rw [mkB_t b2] at h2
    rw [mkB_t b3] at h3
    rw [mkB_t b4] at h4
    rw [mkB_f b1, mkB_t b2, if_pos c1, mkB_t b3, if_pos c2, mkB_t b4]
    exact go _ ⟨by decide, _, _, _, h1, fun _ => ⟨_, _, _, h2, fun q => absurd q (by decide), fun _ => ⟨fun q => by omega, fun _ => ⟨_, _, _, h3, fun q => absurd q (by decide), fun _ => ⟨fun q => by omega, fun _ => ⟨_, _, _, h4, fun q => absurd q (by decide), fun _ => rfl⟩⟩⟩⟩⟩, fun q => absurd rfl q⟩
  · rw [mkB_f b1] at h1
    rw [mkB_t b2] at h2
    rw [mkB_t b3] at h3
    rw [mkB_t b4] at h4
    rw [mkB_f b1, mkB_t b2, if_pos c1, mkB_t b3, if_neg c2]
    exact go _ ⟨by decide, _, _, _, h1, fun _ => ⟨_, _, _, h2, fun q => absurd q (by decide), fun _ => ⟨fun q => by omega, fun _ => ⟨_, _, _, h3, fun q => absurd q (by decide), fun _ => ⟨fun _ => rfl, fun q => absurd q c2⟩⟩⟩⟩, fun q => absurd rfl q⟩
  · rw [mkB_f b1] at h1
    rw [mkB_t b2] at h2
    rw [mkB_t b3] at h3
    rw [mkB_t b4] at h4
    rw [mkB_f b1, mkB_t b2, if_neg c1, if_pos c2, mkB_t b4]
    exact go _ ⟨by decide, _, _, _, h1, fun _ => ⟨_, _, _, h2, fun q => absurd q (by decide), fun _ => ⟨fun _ => ⟨fun q => by omega, fun _ => ⟨_, _, _, h4, fun q => absurd q (by decide), fun _ => rfl⟩⟩, fun q => absurd q c1⟩⟩, fun q => absurd rfl q⟩
  · rw [mkB_f b1] at h1
    rw [mkB_t b2] at h2
    rw [mkB_t b3] at h3
    rw [mkB_t b4] at h4
    rw [mkB_f b1, mkB_t b2, if_neg c1, if_neg c2]
    exact go _ ⟨by decide, _, _, _, h1, fun _ => ⟨_, _, _, h2, fun q => absurd q (by decide), fun _ => ⟨fun _ => ⟨fun _ => rfl, fun q => absurd q c2⟩, fun q => absurd q c1⟩⟩, fun q => absurd rfl q⟩
  · rw [mkB_f b1] at h1
    rw [mkB_t b2] at h2
    rw [mkB_t b3] at h3
    rw [mkB_f b4] at h4
    rw [mkB_f b1, mkB_t b2, if_pos c1, mkB_t b3, if_pos c2, mkB_f b4]
    exact go _ ⟨by decide, _, _, _, h1, fun _ => ⟨_, _, _, h2, fun q => absurd q (by decide), fun _ => ⟨fun q => by omega, fun _ => ⟨_, _, _, h3, fun q => absurd q (by decide), fun _ => ⟨fun q => by omega, fun _ => ⟨_, _, _, h4, fun _ => rfl, fun q => absurd rfl q⟩⟩⟩⟩⟩, fun q => absurd rfl q⟩
  · rw [mkB_f b1] at h1
    rw [mkB_t b2] at h2
    rw [mkB_t b3] at h3
    rw [mkB_f b4] at h4
    rw [mkB_f b1, mkB_t b2, if_pos c1, mkB_t b3, if_neg c2]
    exact go _ ⟨by decide, _, _, _, h1, fun _ => ⟨_, _, _, h2, fun q => absurd q (by decide), fun _ => ⟨fun q => by omega, fun _ => ⟨_, _, _, h3, fun q => absurd q (by decide), fun _ => ⟨fun _ => rfl, fun q => absurd q c2⟩⟩⟩⟩, fun q => absurd rfl q⟩
  · rw [mkB_f b1] at h1
    rw [mkB_t b2] at h2
    rw [mkB_t b3] at h3
    rw [mkB_f b4] at h4
    rw [mkB_f b1, mkB_t b2, if_neg c1, if_pos c2, mkB_f b4]
    exact go _ ⟨by decide, _, _, _, h1, fun _ => ⟨_, _, _, h2, fun q => absurd q (by decide), fun _ => ⟨fun _ => ⟨fun q => by omega, fun _ => ⟨_, _, _, h4, fun _ => rfl, fun q => absurd rfl q⟩⟩, fun q => absurd q c1⟩⟩, fun q => absurd rfl q⟩
  · rw [mkB_f b1] at h1
    rw [mkB_t b2] at h2
    rw [mkB_t b3] at h3
    rw [mkB_f b4] at h4
    rw [mkB_f b1, mkB_t b2, if_neg c1, if_neg c2]
    exact go _ ⟨by decide, _, _, _, h1, fun _ => ⟨_, _, _, h2, fun q => absurd q (by decide), fun _ => ⟨fun _ => ⟨fun _ => rfl, fun q => absurd q c2⟩, fun q => absurd q c1⟩⟩, fun q => absurd rfl q⟩
  · rw [mkB_f b1] at h1
    rw [mkB_t b2] at h2
    rw [mkB_f b3] at h3
    rw [mkB_t b4] at h4
    rw [mkB_f b1, mkB_t b2, if_pos c1, mkB_f b3, if_pos c2, mkB_t b4]
    exact go _ ⟨by decide, _, _, _, h1, fun _ => ⟨_, _, _, h2, fun q => absurd q (by decide), fun _ => ⟨fun q => by omega, fun _ => ⟨_, _, _, h3, fun _ => ⟨fun q => by omega, fun _ => ⟨_, _, _, h4, fun q => absurd q (by decide), fun _ => rfl⟩⟩, fun q => absurd rfl q⟩⟩⟩, fun q => absurd rfl q⟩
  · rw [mkB_f b1] at h1
    rw [mkB_t b2] at h2
    rw [mkB_f b3] at h3
    rw [mkB_t b4] at h4
    rw [mkB_f b1, mkB_t b2, if_pos c1, mkB_f b3, if_neg c2]
    exact go _ ⟨by decide, _, _, _, h1, fun _ => ⟨_, _, _, h2, fun q => absurd q (by decide), fun _ => ⟨fun q => by omega, fun _ => ⟨_, _, _, h3, fun _ => ⟨fun _ => rfl, fun q => absurd q c2⟩, fun q => absurd rfl q⟩⟩⟩, fun q => absurd rfl q⟩
  · rw [mkB_f b1] at h1
    rw [mkB_t b2] at h2
    rw [mkB_f b3] at h3
    rw [mkB_t b4] at h4
    rw [mkB_f b1, mkB_t b2, if_neg c1, if_pos c2, mkB_t b4]
    exact go _ ⟨by decide, _, _, _, h1, fun _ => ⟨_, _, _, h2, fun q => absurd q (by decide), fun _ => ⟨fun _ => ⟨fun q => by omega, fun _ => ⟨_, _, _, h4, fun q => absurd q (by decide), fun _ => rfl⟩⟩, fun q => absurd q c1⟩⟩, fun q => absurd rfl q⟩
  · rw [mkB_f b1] at h1
    rw [mkB_t b2] at h2
    rw [mkB_f b3] at h3
    rw [mkB_t b4] at h4
    rw [mkB_f b1, mkB_t b2, if_neg c1, if_neg c2]
    exact go _ ⟨by decide, _, _, _, h1, fun _ => ⟨_, _, _, h2, fun q => absurd q (by decide), fun _ => ⟨fun _ => ⟨fun _ => rfl, fun q => absurd q c2⟩, fun q => absurd q c1⟩⟩, fun q => absurd rfl q⟩
  · rw [mkB_f b1] at h1
    rw [mkB_t b2] at h2
    rw [mkB_f b3] at h3
    rw [mkB_f b4] at h4
    rw [mkB_f b1, mkB_t b2, if_pos c1, mkB_f b3, if_pos c2, mkB_f b4]
    exact go _ ⟨by decide, _, _, _, h1, fun _ => ⟨_, _, _, h2, fun q => absurd q (by decide), fun _ => ⟨fun q => by omega, fun _ => ⟨_, _, _, h3, fun _ => ⟨fun q => by omega, fun _ => ⟨_, _, _, h4, fun _ => rfl, fun q => absurd rfl q⟩⟩, fun q => absurd rfl q⟩⟩⟩, fun q => absurd rfl q⟩
  · rw [mkB_f b1] at h1
    rw [mkB_t b2] at h2
    rw [mkB_f b3] at h3
    rw [mkB_f b4] at h4
    rw [mkB_f b1, mkB_t b2, if_pos c1, mkB_f b3, if_neg c2]
    exact go _ ⟨by decide, _, _, _, h1, fun _ => ⟨_, _, _, h2, fun q => absurd q (by decide), fun _ => ⟨fun q => by omega, fun _ => ⟨_, _, _, h3, fun _ => ⟨fun _ => rfl, fun q => absurd q c2⟩, fun q => absurd rfl q⟩⟩⟩, fun q => absurd rfl q⟩
  · rw [mkB_f b1] at h1
    rw [mkB_t b2] at h2
    rw [mkB_f b3] at h3
    rw [mkB_f b4] at h4
    rw [mkB_f b1, mkB_t b2, if_neg c1, if_pos c2, mkB_f b4]
    exact go _ ⟨by decide, _, _, _, h1, fun _ => ⟨_, _, _, h2, fun q => absurd q (by decide), fun _ => ⟨fun _ => ⟨fun q => by omega, fun _ => ⟨_, _, _, h4, fun _ => rfl, fun q => absurd rfl q⟩⟩, fun q => absurd q c1⟩⟩, fun q => absurd rfl q⟩
  · rw [mkB_f b1] at h1
    rw [mkB_t b2] at h2
    rw [mkB_f b3] at h3
    rw [mkB_f b4] at h4
    rw [mkB_f b1, mkB_t b2, if_neg c1, if_neg c2]
    exact go _ ⟨by decide, _, _, _, h1, fun _ => ⟨_, _, _, h2, fun q => absurd q (by decide), fun _ => ⟨fun _ => ⟨fun _ => rfl, fun q => absurd q c2⟩, fun q => absurd q c1⟩⟩, fun q => absurd rfl q⟩
  · rw [mkB_f b1] at h1
    rw [mkB_f b2] at h2
    rw [mkB_t b3] at h3
    rw [mkB_t b4] at h4
    rw [mkB_f b1, mkB_f b2, if_pos c1, mkB_t b3, if_pos c2, mkB_t b4]
    exact go _ ⟨by decide, _, _, _, h1, fun _ => ⟨_, _, _, h2, fun _ => ⟨fun q => by omega, fun _ => ⟨_, _, _, h3, fun q => absurd q (by decide), fun _ => ⟨fun q => by omega, fun _ => ⟨_, _, _, h4, fun q => absurd q (by decide), fun _ => rfl⟩⟩⟩⟩, fun q => absurd rfl q⟩, fun q => absurd rfl q⟩
  · rw [mkB_f b1] at h1
    rw [mkB_f b2] at h2
    rw [mkB_t b3] at h3
    rw [mkB_t b4] at h4
    rw [mkB_f b1, mkB_f b2, if_pos c1, mkB_t b3, if_neg c2]
    exact go _ ⟨by decide, _, _, _, h1, fun _ => ⟨_, _, _, h2, fun _ => ⟨fun q => by omega, fun _ => ⟨_, _, _, h3, fun q => absurd q (by decide), fun _ => ⟨fun _ => rfl, fun q => absurd q c2⟩⟩⟩, fun q => absurd rfl q⟩, fun q => absurd rfl q⟩
  · rw [mkB_f b1] at h1
    rw [mkB_f b2] at h2
    rw [mkB_t b3] at h3
    rw [mkB_t b4] at h4
    rw [mkB_f b1, mkB_f b2, if_neg c1, if_pos c2, mkB_t b4]
    exact go _ ⟨by decide, _, _, _, h1, fun _ => ⟨_, _, _, h2, fun _ => ⟨fun _ => ⟨fun q => by omega, fun _ => ⟨_, _, _, h4, fun q => absurd q (by decide), fun _ => rfl⟩⟩, fun q => absurd q c1⟩, fun q => absurd rfl q⟩, fun q => absurd rfl q⟩
  · rw [mkB_f b1] at h1
    rw [mkB_f b2] at h2
    rw [mkB_t b3] at h3
    rw [mkB_t b4] at h4
    rw [mkB_f b1, mkB_f b2, if_neg c1, if_neg c2]
    exact go _ ⟨by decide, _, _, _, h1, fun _ => ⟨_, _, _, h2, fun _ => ⟨fun _ => ⟨fun _ => rfl, fun q => absurd q c2⟩, fun q => absurd q c1⟩, fun q => absurd rfl q⟩, fun q => absurd rfl q⟩
  · rw [mkB_f b1] at h1
    rw [mkB_f b2] at h2
    rw [mkB_t b3] at h3
    rw [mkB_f b4] at h4
    rw [mkB_f b1, mkB_f b2, if_pos c1, mkB_t b3, if_pos c2, mkB_f b4]
    exact go _ ⟨by decide, _, _, _, h1, fun _ => ⟨_, _, _, h2, fun _ => ⟨fun q => by omega, fun _ => ⟨_, _, _, h3, fun q => absurd q (by decide), fun _ => ⟨fun q => by omega, fun _ => ⟨_, _, _, h4, fun _ => rfl, fun q => absurd rfl q⟩⟩⟩⟩, fun q => absurd rfl q⟩, fun q => absurd rfl q⟩
  · rw [mkB_f b1] at h1
    rw [mkB_f b2] at h2
    rw [mkB_t b3] at h3
    rw [mkB_f b4] at h4
    rw [mkB_f b1, mkB_f b2, if_pos c1, mkB_t b3, if_neg c2]
    exact go _ ⟨by decide, _, _, _, h1, fun _ => ⟨_, _, _, h2, fun _ => ⟨fun q => by omega, fun _ => ⟨_, _, _, h3, fun q => absurd q (by decide), fun _ => ⟨fun _ => rfl, fun q => absurd q c2⟩⟩⟩, fun q => absurd rfl q⟩, fun q => absurd rfl q⟩
  · rw [mkB_f b1] at h1
    rw [mkB_f b2] at h2
    rw [mkB_t b3] at h3
    rw [mkB_f b4] at h4
    rw [mkB_f b1, mkB_f b2, if_neg c1, if_pos c2, mkB_f b4]
    exact go _ ⟨by decide, _, _, _, h1, fun _ => ⟨_, _, _, h2, fun _ => ⟨fun _ => ⟨fun q => by omega, fun _ => ⟨_, _, _, h4, fun _ => rfl, fun q => absurd rfl q⟩⟩, fun q => absurd q c1⟩, fun q => absurd rfl q⟩, fun q => absurd rfl q⟩
  · rw [mkB_f b1] at h1
    rw [mkB_f b2] at h2
    rw [mkB_t b3] at h3
    rw [mkB_f b4] at h4
    rw [mkB_f b1, mkB_f b2, if_neg c1, if_neg c2]
    exact go _ ⟨by decide, _, _, _, h1, fun _ => ⟨_, _, _, h2, fun _ => ⟨fun _ => ⟨fun _ => rfl, fun q => absurd q c2⟩, fun q => absurd q c1⟩, fun q => absurd rfl q⟩, fun q => absurd rfl q⟩
  · rw [mkB_f b1] at h1
    rw [mkB_f b2] at h2
    rw [mkB_f b3] at h3
    rw [mkB_t b4] at h4
    rw [mkB_f b1, mkB_f b2, if_pos c1, mkB_f b3, if_pos c2, mkB_t b4]
    exact go _ ⟨by decide, _, _, _, h1, fun _ => ⟨_, _, _, h2, fun _ => ⟨fun q => by omega, fun _ => ⟨_, _, _, h3, fun _ => ⟨fun q => by omega, fun _ => ⟨_, _, _, h4, fun q => absurd q (by decide), fun _ => rfl⟩⟩, fun q => absurd rfl q⟩⟩, fun q => absurd rfl q⟩, fun q => absurd rfl q⟩
  · rw [mkB_f b1] at h1
    rw [mkB_f b2] at h2
    rw [mkB_f b3] at h3
    rw [mkB_t b4] at h4
    rw [mkB_f b1, mkB_f b2, if_pos c1, mkB_f b3, if_neg c2]
    exact go _ ⟨by decide, _, _, _, h1, fun _ => ⟨_, _, _, h2, fun _ => ⟨fun q => by omega, fun _ => ⟨_, _, _, h3, fun _ => ⟨fun _ => rfl, fun q => absurd q c2⟩, fun q => absurd rfl q⟩⟩, fun q => absurd rfl q⟩, fun q => absurd rfl q⟩
  · rw [mkB_f b1] at h1
    rw [mkB_f b2] at h2
    rw [mkB_f b3] at h3
    rw [mkB_t b4] at h4
    rw [mkB_f b1, mkB_f b2, if_neg c1, if_pos c2, mkB_t b4]
    exact go _ ⟨by decide, _, _, _, h1, fun _ => ⟨_, _, _, h2, fun _ => ⟨fun _ => ⟨fun q => by omega, fun _ => ⟨_, _, _, h4, fun q => absurd q (by decide), fun _ => rfl⟩⟩, fun q => absurd q c1⟩, fun q => absurd rfl q⟩, fun q => absurd rfl q⟩
  · rw [mkB_f b1] at h1
    rw [mkB_f b2] at h2
    rw [mkB_f b3] at h3
    rw [mkB_t b4] at h4
    rw [mkB_f b1, mkB_f b2, if_neg c1, if_neg c2]
    exact go _ ⟨by decide, _, _, _, h1, fun _ => ⟨_, _, _, h2, fun _ => ⟨fun _ => ⟨fun _ => rfl, fun q => absurd q c2⟩, fun q => absurd q c1⟩, fun q => absurd rfl q⟩, fun q => absurd rfl q⟩
  · rw [mkB_f b1] at h1
    rw [mkB_f b2] at h2
    rw [mkB_f b3] at h3
    rw [mkB_f b4] at h4
    rw [mkB_f b1, mkB_f b2, if_pos c1, mkB_f b3, if_pos c2, mkB_f b4]
    exact go _ ⟨by decide, _, _, _, h1, fun _ => ⟨_, _, _, h2, fun _ => ⟨fun q => by omega, fun _ => ⟨_, _, _, h3, fun _ => ⟨fun q => by omega, fun _ => ⟨_, _, _, h4, fun _ => rfl, fun q => absurd rfl q⟩⟩, fun q => absurd rfl q⟩⟩, fun q => absurd rfl q⟩, fun q => absurd rfl q⟩
  · rw [mkB_f b1] at h1
    rw [mkB_f b2] at h2
    rw [mkB_f b3] at h3
    rw [mkB_f b4] at h4
    rw [mkB_f b1, mkB_f b2, if_pos c1, mkB_f b3, if_neg c2]
    exact go _ ⟨by decide, _, _, _, h1, fun _ => ⟨_, _, _, h2, fun _ => ⟨fun q => by omega, fun _ => ⟨_, _, _, h3, fun _ => ⟨fun _ => rfl, fun q => absurd q c2⟩, fun q => absurd rfl q⟩⟩, fun q => absurd rfl q⟩, fun q => absurd rfl q⟩
  · rw [mkB_f b1] at h1
    rw [mkB_f b2] at h2
    rw [mkB_f b3] at h3
    rw [mkB_f b4] at h4
    rw [mkB_f b1, mkB_f b2, if_neg c1, if_pos c2, mkB_f b4]
    exact go _ ⟨by decide, _, _, _, h1, fun _ => ⟨_, _, _, h2, fun _ => ⟨fun _ => ⟨fun q => by omega, fun _ => ⟨_, _, _, h4, fun _ => rfl, fun q => absurd rfl q⟩⟩, fun q => absurd q c1⟩, fun q => absurd rfl q⟩, fun q => absurd rfl q⟩
  · rw [mkB_f b1] at h1
    rw [mkB_f b2] at h2
    rw [mkB_f b3] at h3
    rw [mkB_f b4] at h4
    rw [mkB_f b1, mkB_f b2, if_neg c1, if_neg c2]
    exact go _ ⟨by decide, _, _, _, h1, fun _ => ⟨_, _, _, h2, fun _ => ⟨fun _ => ⟨fun _ => rfl, fun q => absurd q c2⟩, fun q => absurd q c1⟩, fun q => absurd rfl q⟩, fun q => absurd rfl q⟩

end TWs
