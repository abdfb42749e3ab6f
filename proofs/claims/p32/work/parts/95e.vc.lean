/-! conditions -/
section TWs
variable {W : TXW} {kt : Nat}
set_option maxRecDepth 100000 in
theorem b14_1 (call : QC FA) (x1 : Int32) (L : QH FA) (F : Nat) : xnG call 14 (F + 1) 0 [some (vR 2), some (vI x1)] [] L = xnG call 14 F 1 [some (vR 2), some (vI x1)] [vI x1] L := rfl
set_option maxRecDepth 100000 in
theorem b14_2 (call : QC FA) (x : Int32) (ls : List (Option PV)) (L : QH FA) (F : Nat) : xnG call 14 (F + 1) 1 ls [vI x] L = bif pcmp 2 x 0 then xnG call 14 F 11 ls [] L else xnG call 14 F 2 ls [] L := rfl
set_option maxRecDepth 100000 in
theorem b14_3 (call : QC FA) (x1 : Int32) (L : QH FA) (F : Nat) : xnG call 14 (F + 1) 11 [some (vR 2), some (vI x1)] [] L = xnG call 14 F 12 [some (vR 2), some (vI x1)] [vI 0] L := rfl
set_option maxRecDepth 100000 in
theorem b14_4 (call : QC FA) (ls : List (Option PV)) (L : QH FA) (F : Nat) : xnG call 14 (F + 1) 12 ls [vI 0] L = some (some (vI 0), L) := rfl
set_option maxRecDepth 100000 in
theorem b14_5 (call : QC FA) (x1 : Int32) (z : Nat → Int32) (f : Nat → FA) (F : Nat) : xnG call 14 (F + 3) 2 [some (vR 2), some (vI x1)] [] (LW W z f) = xnG call 14 F 5 [some (vR 2), some (vI x1)] [vI (z 22), vI x1] (LW W z f) := rfl
set_option maxRecDepth 100000 in
theorem b14_6 (call : QC FA) (x y : Int32) (ls : List (Option PV)) (L : QH FA) (F : Nat) : xnG call 14 (F + 1) 5 ls [vI y, vI x] L = bif pcmp 3 x y then xnG call 14 F 11 ls [] L else xnG call 14 F 6 ls [] L := rfl
set_option maxRecDepth 100000 in
theorem b14_7 (call : QC FA) (x1 : Int32) (L : QH FA) (F : Nat) : xnG call 14 (F + 2) 6 [some (vR 2), some (vI x1)] [] L = xnG call 14 F 8 [some (vR 2), some (vI x1)] [vI 20, vI x1] L := rfl
set_option maxRecDepth 100000 in
theorem b14_8 (call : QC FA) (x y : Int32) (ls : List (Option PV)) (L : QH FA) (F : Nat) : xnG call 14 (F + 1) 8 ls [vI y, vI x] L = bif pcmp 3 x y then xnG call 14 F 11 ls [] L else xnG call 14 F 9 ls [] L := rfl
set_option maxRecDepth 100000 in
theorem b14_9 (call : QC FA) (x1 : Int32) (L : QH FA) (F : Nat) : xnG call 14 (F + 2) 9 [some (vR 2), some (vI x1)] [] L = xnG call 14 F 12 [some (vR 2), some (vI x1)] [vI 1] L := rfl
set_option maxRecDepth 100000 in
theorem b14_10 (call : QC FA) (ls : List (Option PV)) (L : QH FA) (F : Nat) : xnG call 14 (F + 1) 12 ls [vI 1] L = some (some (vI 1), L) := rfl
theorem vc14_0 (call : QC FA) (x1 : Int32) (z : Nat → Int32) (f : Nat → FA) (res : Option PV × QH FA) (H : ((I x1 < 0 → res = (some (vI 0), LW W z f)) ∧ (0 ≤ I x1 → ((I (z 22) ≤ I x1 → res = (some (vI 0), LW W z f)) ∧ (I x1 < I (z 22) → ((20 ≤ I x1 → res = (some (vI 0), LW W z f)) ∧ (I x1 < 20 → res = (some (vI 1), LW W z f)))))))) : XC call (mP 14) 0 [some (vR 2), some (vI x1)] [] (LW W z f) res := by
  refine xc_b (i' := 1) (ls' := [some (vR 2), some (vI x1)]) (st' := [vI x1]) (L' := LW W z f) 1 (b14_1 call x1 _) ?_
  refine xc_if (it := 11) (ie := 2) (ls' := [some (vR 2), some (vI x1)]) (st' := []) (b14_2 call x1 _ _) (fun q1 => ?_) (fun q1 => ?_)
  · have H := H.1 (cI2t q1 rfl rfl)
    refine xc_b (i' := 12) (ls' := [some (vR 2), some (vI x1)]) (st' := [vI 0]) (L' := LW W z f) 1 (b14_3 call x1 _) ?_
    subst H
    exact xc_ret (b14_4 call _ _)
  · have H := H.2 (cI2f q1 rfl rfl)
    refine xc_b (i' := 5) (ls' := [some (vR 2), some (vI x1)]) (st' := [vI (z 22), vI x1]) (L' := LW W z f) 3 (b14_5 call x1 z f) ?_
    refine xc_if (it := 11) (ie := 6) (ls' := [some (vR 2), some (vI x1)]) (st' := []) (b14_6 call x1 (z 22) _ _) (fun q2 => ?_) (fun q2 => ?_)
    · have H := H.1 (cI3t q2 rfl rfl)
      refine xc_b (i' := 12) (ls' := [some (vR 2), some (vI x1)]) (st' := [vI 0]) (L' := LW W z f) 1 (b14_3 call x1 _) ?_
      subst H
      exact xc_ret (b14_4 call _ _)
    · have H := H.2 (cI3f q2 rfl rfl)
      refine xc_b (i' := 8) (ls' := [some (vR 2), some (vI x1)]) (st' := [vI 20, vI x1]) (L' := LW W z f) 2 (b14_7 call x1 _) ?_
      refine xc_if (it := 11) (ie := 9) (ls' := [some (vR 2), some (vI x1)]) (st' := []) (b14_8 call x1 20 _ _) (fun q3 => ?_) (fun q3 => ?_)
      · have H := H.1 (cI3t q3 rfl rfl)
        refine xc_b (i' := 12) (ls' := [some (vR 2), some (vI x1)]) (st' := [vI 0]) (L' := LW W z f) 1 (b14_3 call x1 _) ?_
        subst H
        exact xc_ret (b14_4 call _ _)
      · have H := H.2 (cI3f q3 rfl rfl)
        refine xc_b (i' := 12) (ls' := [some (vR 2), some (vI x1)]) (st' := [vI 1]) (L' := LW W z f) 2 (b14_9 call x1 _) ?_
        subst H
        exact xc_ret (b14_10 call _ _)
set_option maxRecDepth 100000 in
theorem b13_1 (call : QC FA) (x1 : Int32) (x2 : Int32) (o3 : Option PV) (L : QH FA) (F : Nat) : xnG call 13 (F + 2) 0 [some (vR 2), some (vI x1), some (vI x2), o3] [] L = xnG call 13 F 2 [some (vR 2), some (vI x1), some (vI x2), o3] [vI x1, vR 2] L := rfl
set_option maxRecDepth 100000 in
theorem b13_2 (call : QC FA) (a0 : Int32) (ls : List (Option PV)) (z : Nat → Int32) (f : Nat → FA) (F : Nat) : xnG call 13 (F + 1) 2 ls [vI a0, vR 2] (LW W z f) = cbd (call 14 [vR 2, vI a0] (LW W z f)) (fun r L' => xnG call 13 F 3 ls (r.toList ++ []) L') := pcY (ih := xnG call 13 F) (call := call) (a := 14) (b := 1) (v := 0) (t := 3) (x := 2) (ls := ls) (As := [vI a0]) (st' := []) (L := LW W z f) rfl rfl rfl
set_option maxRecDepth 100000 in
theorem b13_3 (call : QC FA) (x : Int32) (ls : List (Option PV)) (L : QH FA) (F : Nat) : xnG call 13 (F + 1) 3 ls [vI x] L = bif pcmp 0 x 0 then xnG call 13 F 11 ls [] L else xnG call 13 F 4 ls [] L := rfl
set_option maxRecDepth 100000 in
theorem b13_4 (call : QC FA) (x1 : Int32) (x2 : Int32) (o3 : Option PV) (L : QH FA) (F : Nat) : xnG call 13 (F + 3) 11 [some (vR 2), some (vI x1), some (vI x2), o3] [] L = xnG call 13 F 14 [some (vR 2), some (vI x1), some (vI x2), some (vI 0)] [vI 0] L := rfl
set_option maxRecDepth 100000 in
theorem b13_5 (call : QC FA) (x : Int32) (ls : List (Option PV)) (L : QH FA) (F : Nat) : xnG call 13 (F + 1) 14 ls [vI x] L = bif pcmp 0 x 0 then xnG call 13 F 24 ls [] L else xnG call 13 F 15 ls [] L := rfl
set_option maxRecDepth 100000 in
theorem b13_6 (call : QC FA) (x1 : Int32) (x2 : Int32) (x3 : Int32) (L : QH FA) (F : Nat) : xnG call 13 (F + 1) 24 [some (vR 2), some (vI x1), some (vI x2), some (vI x3)] [] L = xnG call 13 F 25 [some (vR 2), some (vI x1), some (vI x2), some (vI x3)] [vI 0] L := rfl
set_option maxRecDepth 100000 in
theorem b13_7 (call : QC FA) (x : Int32) (ls : List (Option PV)) (L : QH FA) (F : Nat) : xnG call 13 (F + 1) 25 ls [vI x] L = some (some (vI x), L) := rfl
set_option maxRecDepth 100000 in
theorem b13_8 (call : QC FA) (x1 : Int32) (x2 : Int32) (o3 : Option PV) (L : QH FA) (F : Nat) : xnG call 13 (F + 1) 4 [some (vR 2), some (vI x1), some (vI x2), o3] [] L = xnG call 13 F 5 [some (vR 2), some (vI x1), some (vI x2), o3] [vI x2] L := rfl
set_option maxRecDepth 100000 in
theorem b13_9 (call : QC FA) (x : Int32) (ls : List (Option PV)) (L : QH FA) (F : Nat) : xnG call 13 (F + 1) 5 ls [vI x] L = bif pcmp 2 x 0 then xnG call 13 F 11 ls [] L else xnG call 13 F 6 ls [] L := rfl
set_option maxRecDepth 100000 in
theorem b13_10 (call : QC FA) (x1 : Int32) (x2 : Int32) (o3 : Option PV) (L : QH FA) (F : Nat) : xnG call 13 (F + 2) 6 [some (vR 2), some (vI x1), some (vI x2), o3] [] L = xnG call 13 F 8 [some (vR 2), some (vI x1), some (vI x2), o3] [vI 6, vI x2] L := rfl
set_option maxRecDepth 100000 in
theorem b13_11 (call : QC FA) (x y : Int32) (ls : List (Option PV)) (L : QH FA) (F : Nat) : xnG call 13 (F + 1) 8 ls [vI y, vI x] L = bif pcmp 3 x y then xnG call 13 F 11 ls [] L else xnG call 13 F 9 ls [] L := rfl
set_option maxRecDepth 100000 in
theorem b13_12 (call : QC FA) (x1 : Int32) (x2 : Int32) (o3 : Option PV) (L : QH FA) (F : Nat) : xnG call 13 (F + 4) 9 [some (vR 2), some (vI x1), some (vI x2), o3] [] L = xnG call 13 F 14 [some (vR 2), some (vI x1), some (vI x2), some (vI 1)] [vI 1] L := rfl
set_option maxRecDepth 100000 in
theorem b13_13 (call : QC FA) (x1 : Int32) (x2 : Int32) (x3 : Int32) (z : Nat → Int32) (f : Nat → FA) (F : Nat) : xnG call 13 (F + 7) 15 [some (vR 2), some (vI x1), some (vI x2), some (vI x3)] [] (LW W z f) = xnG call 13 F 22 [some (vR 2), some (vI x1), some (vI x2), some (vI x3)] [vI ((x2 * 20) + x1), vR 3] (LW W z f) := rfl
set_option maxRecDepth 100000 in
theorem b13_14 (call : QC FA) (x : Int32) (ls : List (Option PV)) (z : Nat → Int32) (f : Nat → FA) (F : Nat) : xnG call 13 (F + 1) 22 ls [vI x, vR 3] (LW W z f) = bif (Nat.beq 0 0 && pin x 120) then xnG call 13 F 23 ls [vI (f 3 (ix x))] (LW W z f) else none := rfl
set_option maxRecDepth 100000 in
theorem b13_15 (call : QC FA) (x1 : Int32) (x2 : Int32) (x3 : Int32) (s0 : Int32) (L : QH FA) (F : Nat) : xnG call 13 (F + 1) 23 [some (vR 2), some (vI x1), some (vI x2), some (vI x3)] [vI s0] L = xnG call 13 F 25 [some (vR 2), some (vI x1), some (vI x2), some (vI x3)] [vI s0] L := rfl
theorem vc13_0 (call : QC FA) (x1 : Int32) (x2 : Int32) (o3 : Option PV) (z : Nat → Int32) (f : Nat → FA) (res : Option PV × QH FA) (H : (∃ (r1 : Int32) (z1 : Nat → Int32) (f1 : Nat → FA), call 14 [vR 2, vI x1] (LW W z f) = some (some (vI r1), LW W z1 f1) ∧ ((r1 = 0 → res = (some (vI 0), LW W z1 f1)) ∧ (¬ r1 = 0 → ((I x2 < 0 → res = (some (vI 0), LW W z1 f1)) ∧ (0 ≤ I x2 → ((6 ≤ I x2 → res = (some (vI 0), LW W z1 f1)) ∧ (I x2 < 6 → (pin ((x2 * 20) + x1) 120 = true ∧ res = (some (vI (f1 3 (ix ((x2 * 20) + x1)))), LW W z1 f1)))))))))) : XC call (mP 13) 0 [some (vR 2), some (vI x1), some (vI x2), o3] [] (LW W z f) res := by
  refine xc_b (i' := 2) (ls' := [some (vR 2), some (vI x1), some (vI x2), o3]) (st' := [vI x1, vR 2]) (L' := LW W z f) 2 (b13_1 call x1 x2 o3 _) ?_
  obtain ⟨r1, z1, f1, hc, H⟩ := H
  refine xc_call (t := 3) (ls' := [some (vR 2), some (vI x1), some (vI x2), o3]) (st' := []) (b13_2 call x1 _ z f) hc ?_
  show XC call (mP 13) 3 [some (vR 2), some (vI x1), some (vI x2), o3] [vI r1] (LW W z1 f1) res
  refine xc_if (it := 11) (ie := 4) (ls' := [some (vR 2), some (vI x1), some (vI x2), o3]) (st' := []) (b13_3 call r1 _ _) (fun q1 => ?_) (fun q1 => ?_)
  · have H := H.1 (cI0t q1)
    refine xc_b (i' := 14) (ls' := [some (vR 2), some (vI x1), some (vI x2), some (vI 0)]) (st' := [vI 0]) (L' := LW W z1 f1) 3 (b13_4 call x1 x2 o3 _) ?_
    refine xc_t (it := 24) (ie := 15) (ls' := [some (vR 2), some (vI x1), some (vI x2), some (vI 0)]) (st' := []) (b13_5 call 0 _ _) (by decide) ?_
    refine xc_b (i' := 25) (ls' := [some (vR 2), some (vI x1), some (vI x2), some (vI 0)]) (st' := [vI 0]) (L' := LW W z1 f1) 1 (b13_6 call x1 x2 0 _) ?_
    subst H
    exact xc_ret (b13_7 call _ _ _)
  · have H := H.2 (cI0f q1)
    refine xc_b (i' := 5) (ls' := [some (vR 2), some (vI x1), some (vI x2), o3]) (st' := [vI x2]) (L' := LW W z1 f1) 1 (b13_8 call x1 x2 o3 _) ?_
    refine xc_if (it := 11) (ie := 6) (ls' := [some (vR 2), some (vI x1), some (vI x2), o3]) (st' := []) (b13_9 call x2 _ _) (fun q2 => ?_) (fun q2 => ?_)
    · have H := H.1 (cI2t q2 rfl rfl)
      refine xc_b (i' := 14) (ls' := [some (vR 2), some (vI x1), some (vI x2), some (vI 0)]) (st' := [vI 0]) (L' := LW W z1 f1) 3 (b13_4 call x1 x2 o3 _) ?_
      refine xc_t (it := 24) (ie := 15) (ls' := [some (vR 2), some (vI x1), some (vI x2), some (vI 0)]) (st' := []) (b13_5 call 0 _ _) (by decide) ?_
      refine xc_b (i' := 25) (ls' := [some (vR 2), some (vI x1), some (vI x2), some (vI 0)]) (st' := [vI 0]) (L' := LW W z1 f1) 1 (b13_6 call x1 x2 0 _) ?_
      subst H
      exact xc_ret (b13_7 call _ _ _)
    · have H := H.2 (cI2f q2 rfl rfl)
      refine xc_b (i' := 8) (ls' := [some (vR 2), some (vI x1), some (vI x2), o3]) (st' := [vI 6, vI x2]) (L' := LW W z1 f1) 2 (b13_10 call x1 x2 o3 _) ?_
      refine xc_if (it := 11) (ie := 9) (ls' := [some (vR 2), some (vI x1), some (vI x2), o3]) (st' := []) (b13_11 call x2 6 _ _) (fun q3 => ?_) (fun q3 => ?_)
      · have H := H.1 (cI3t q3 rfl rfl)
        refine xc_b (i' := 14) (ls' := [some (vR 2), some (vI x1), some (vI x2), some (vI 0)]) (st' := [vI 0]) (L' := LW W z1 f1) 3 (b13_4 call x1 x2 o3 _) ?_
        refine xc_t (it := 24) (ie := 15) (ls' := [some (vR 2), some (vI x1), some (vI x2), some (vI 0)]) (st' := []) (b13_5 call 0 _ _) (by decide) ?_
        refine xc_b (i' := 25) (ls' := [some (vR 2), some (vI x1), some (vI x2), some (vI 0)]) (st' := [vI 0]) (L' := LW W z1 f1) 1 (b13_6 call x1 x2 0 _) ?_
        subst H
        exact xc_ret (b13_7 call _ _ _)
      · have H := H.2 (cI3f q3 rfl rfl)
        refine xc_b (i' := 14) (ls' := [some (vR 2), some (vI x1), some (vI x2), some (vI 1)]) (st' := [vI 1]) (L' := LW W z1 f1) 4 (b13_12 call x1 x2 o3 _) ?_
        refine xc_f (it := 24) (ie := 15) (ls' := [some (vR 2), some (vI x1), some (vI x2), some (vI 1)]) (st' := []) (b13_5 call 1 _ _) (by decide) ?_
        refine xc_b (i' := 22) (ls' := [some (vR 2), some (vI x1), some (vI x2), some (vI 1)]) (st' := [vI ((x2 * 20) + x1), vR 3]) (L' := LW W z1 f1) 7 (b13_13 call x1 x2 1 z1 f1) ?_
        obtain ⟨g1, H⟩ := H
        refine xc_g (i' := 23) (ls' := [some (vR 2), some (vI x1), some (vI x2), some (vI 1)]) (st' := [vI (f1 3 (ix ((x2 * 20) + x1)))]) (L' := LW W z1 f1) (b13_14 call ((x2 * 20) + x1) _ z1 f1) (pinG g1) ?_
        refine xc_b (i' := 25) (ls' := [some (vR 2), some (vI x1), some (vI x2), some (vI 1)]) (st' := [vI (f1 3 (ix ((x2 * 20) + x1)))]) (L' := LW W z1 f1) 1 (b13_15 call x1 x2 1 (f1 3 (ix ((x2 * 20) + x1))) _) ?_
        subst H
        exact xc_ret (b13_7 call _ _ _)
set_option maxRecDepth 100000 in
theorem b87_1 (call : QC FA) (x1 : Int32) (x2 : Int32) (x3 : Int32) (L : QH FA) (F : Nat) : xnG call 87 (F + 2) 0 [some (vR 2), some (vI x1), some (vI x2), some (vI x3)] [] L = xnG call 87 F 2 [some (vR 2), some (vI x1), some (vI x2), some (vI x3)] [vI x1, vR 2] L := rfl
set_option maxRecDepth 100000 in
theorem b87_2 (call : QC FA) (a0 : Int32) (ls : List (Option PV)) (z : Nat → Int32) (f : Nat → FA) (F : Nat) : xnG call 87 (F + 1) 2 ls [vI a0, vR 2] (LW W z f) = cbd (call 14 [vR 2, vI a0] (LW W z f)) (fun r L' => xnG call 87 F 3 ls (r.toList ++ []) L') := pcY (ih := xnG call 87 F) (call := call) (a := 14) (b := 1) (v := 0) (t := 3) (x := 2) (ls := ls) (As := [vI a0]) (st' := []) (L := LW W z f) rfl rfl rfl
set_option maxRecDepth 100000 in
theorem b87_3 (call : QC FA) (x : Int32) (ls : List (Option PV)) (L : QH FA) (F : Nat) : xnG call 87 (F + 1) 3 ls [vI x] L = bif pcmp 0 x 0 then xnG call 87 F 18 ls [] L else xnG call 87 F 4 ls [] L := rfl
set_option maxRecDepth 100000 in
theorem b87_4 (call : QC FA) (ls : List (Option PV)) (L : QH FA) (F : Nat) : xnG call 87 (F + 1) 18 ls [] L = some (none, L) := rfl
set_option maxRecDepth 100000 in
theorem b87_5 (call : QC FA) (x1 : Int32) (x2 : Int32) (x3 : Int32) (L : QH FA) (F : Nat) : xnG call 87 (F + 1) 4 [some (vR 2), some (vI x1), some (vI x2), some (vI x3)] [] L = xnG call 87 F 5 [some (vR 2), some (vI x1), some (vI x2), some (vI x3)] [vI x2] L := rfl
set_option maxRecDepth 100000 in
theorem b87_6 (call : QC FA) (x : Int32) (ls : List (Option PV)) (L : QH FA) (F : Nat) : xnG call 87 (F + 1) 5 ls [vI x] L = bif pcmp 2 x 0 then xnG call 87 F 18 ls [] L else xnG call 87 F 6 ls [] L := rfl
set_option maxRecDepth 100000 in
theorem b87_7 (call : QC FA) (x1 : Int32) (x2 : Int32) (x3 : Int32) (L : QH FA) (F : Nat) : xnG call 87 (F + 2) 6 [some (vR 2), some (vI x1), some (vI x2), some (vI x3)] [] L = xnG call 87 F 8 [some (vR 2), some (vI x1), some (vI x2), some (vI x3)] [vI 6, vI x2] L := rfl
set_option maxRecDepth 100000 in
theorem b87_8 (call : QC FA) (x y : Int32) (ls : List (Option PV)) (L : QH FA) (F : Nat) : xnG call 87 (F + 1) 8 ls [vI y, vI x] L = bif pcmp 3 x y then xnG call 87 F 18 ls [] L else xnG call 87 F 9 ls [] L := rfl
set_option maxRecDepth 100000 in
theorem b87_9 (call : QC FA) (x1 : Int32) (x2 : Int32) (x3 : Int32) (z : Nat → Int32) (f : Nat → FA) (F : Nat) : xnG call 87 (F + 8) 9 [some (vR 2), some (vI x1), some (vI x2), some (vI x3)] [] (LW W z f) = xnG call 87 F 17 [some (vR 2), some (vI x1), some (vI x2), some (vI x3)] [vI x3, vI ((x2 * 20) + x1), vR 3] (LW W z f) := rfl
set_option maxRecDepth 100000 in
theorem b87_10 (call : QC FA) (x y : Int32) (ls : List (Option PV)) (z : Nat → Int32) (f : Nat → FA) (F : Nat) : xnG call 87 (F + 1) 17 ls [vI y, vI x, vR 3] (LW W z f) = bif (Nat.beq 0 0 && pin x 120) then xnG call 87 F 18 ls [] (LW W z (uA f 3 (upd (f 3) (ix x) y))) else none := rfl
theorem vc87_0 (call : QC FA) (x1 : Int32) (x2 : Int32) (x3 : Int32) (z : Nat → Int32) (f : Nat → FA) (res : Option PV × QH FA) (H : (∃ (r1 : Int32) (z1 : Nat → Int32) (f1 : Nat → FA), call 14 [vR 2, vI x1] (LW W z f) = some (some (vI r1), LW W z1 f1) ∧ ((r1 = 0 → res = (none, LW W z1 f1)) ∧ (¬ r1 = 0 → ((I x2 < 0 → res = (none, LW W z1 f1)) ∧ (0 ≤ I x2 → ((6 ≤ I x2 → res = (none, LW W z1 f1)) ∧ (I x2 < 6 → (pin ((x2 * 20) + x1) 120 = true ∧ res = (none, LW W z1 (uA f1 3 (upd (f1 3) (ix ((x2 * 20) + x1)) x3)))))))))))) : XC call (mP 87) 0 [some (vR 2), some (vI x1), some (vI x2), some (vI x3)] [] (LW W z f) res := by
  refine xc_b (i' := 2) (ls' := [some (vR 2), some (vI x1), some (vI x2), some (vI x3)]) (st' := [vI x1, vR 2]) (L' := LW W z f) 2 (b87_1 call x1 x2 x3 _) ?_
  obtain ⟨r1, z1, f1, hc, H⟩ := H
  refine xc_call (t := 3) (ls' := [some (vR 2), some (vI x1), some (vI x2), some (vI x3)]) (st' := []) (b87_2 call x1 _ z f) hc ?_
  show XC call (mP 87) 3 [some (vR 2), some (vI x1), some (vI x2), some (vI x3)] [vI r1] (LW W z1 f1) res
  refine xc_if (it := 18) (ie := 4) (ls' := [some (vR 2), some (vI x1), some (vI x2), some (vI x3)]) (st' := []) (b87_3 call r1 _ _) (fun q1 => ?_) (fun q1 => ?_)
  · have H := H.1 (cI0t q1)
    subst H
    exact xc_ret (b87_4 call _ _)
  · have H := H.2 (cI0f q1)
    refine xc_b (i' := 5) (ls' := [some (vR 2), some (vI x1), some (vI x2), some (vI x3)]) (st' := [vI x2]) (L' := LW W z1 f1) 1 (b87_5 call x1 x2 x3 _) ?_
    refine xc_if (it := 18) (ie := 6) (ls' := [some (vR 2), some (vI x1), some (vI x2), some (vI x3)]) (st' := []) (b87_6 call x2 _ _) (fun q2 => ?_) (fun q2 => ?_)
    · have H := H.1 (cI2t q2 rfl rfl)
      subst H
      exact xc_ret (b87_4 call _ _)
    · have H := H.2 (cI2f q2 rfl rfl)
      refine xc_b (i' := 8) (ls' := [some (vR 2), some (vI x1), some (vI x2), some (vI x3)]) (st' := [vI 6, vI x2]) (L' := LW W z1 f1) 2 (b87_7 call x1 x2 x3 _) ?_
      refine xc_if (it := 18) (ie := 9) (ls' := [some (vR 2), some (vI x1), some (vI x2), some (vI x3)]) (st' := []) (b87_8 call x2 6 _ _) (fun q3 => ?_) (fun q3 => ?_)
      · have H := H.1 (cI3t q3 rfl rfl)
        subst H
        exact xc_ret (b87_4 call _ _)
      · have H := H.2 (cI3f q3 rfl rfl)
        refine xc_b (i' := 17) (ls' := [some (vR 2), some (vI x1), some (vI x2), some (vI x3)]) (st' := [vI x3, vI ((x2 * 20) + x1), vR 3]) (L' := LW W z1 f1) 8 (b87_9 call x1 x2 x3 z1 f1) ?_
        obtain ⟨g1, H⟩ := H
        refine xc_g (i' := 18) (ls' := [some (vR 2), some (vI x1), some (vI x2), some (vI x3)]) (st' := []) (L' := LW W z1 (uA f1 3 (upd (f1 3) (ix ((x2 * 20) + x1)) x3))) (b87_10 call ((x2 * 20) + x1) x3 _ z1 f1) (pinG g1) ?_
        subst H
        exact xc_ret (b87_4 call _ _)
set_option maxRecDepth 100000 in
theorem b84_1 (call : QC FA) (x1 : Int32) (L : QH FA) (F : Nat) : xnG call 84 (F + 2) 0 [some (vR 2), some (vI x1)] [] L = xnG call 84 F 2 [some (vR 2), some (vI x1)] [vI x1, vR 2] L := rfl
set_option maxRecDepth 100000 in
theorem b84_2 (call : QC FA) (a0 : Int32) (ls : List (Option PV)) (z : Nat → Int32) (f : Nat → FA) (F : Nat) : xnG call 84 (F + 1) 2 ls [vI a0, vR 2] (LW W z f) = cbd (call 14 [vR 2, vI a0] (LW W z f)) (fun r L' => xnG call 84 F 3 ls (r.toList ++ []) L') := pcY (ih := xnG call 84 F) (call := call) (a := 14) (b := 1) (v := 0) (t := 3) (x := 2) (ls := ls) (As := [vI a0]) (st' := []) (L := LW W z f) rfl rfl rfl
set_option maxRecDepth 100000 in
theorem b84_3 (call : QC FA) (x : Int32) (ls : List (Option PV)) (L : QH FA) (F : Nat) : xnG call 84 (F + 1) 3 ls [vI x] L = bif pcmp 0 x 0 then xnG call 84 F 16 ls [] L else xnG call 84 F 4 ls [] L := rfl
set_option maxRecDepth 100000 in
theorem b84_4 (call : QC FA) (x1 : Int32) (L : QH FA) (F : Nat) : xnG call 84 (F + 1) 16 [some (vR 2), some (vI x1)] [] L = xnG call 84 F 17 [some (vR 2), some (vI x1)] [vI 0] L := rfl
set_option maxRecDepth 100000 in
theorem b84_5 (call : QC FA) (ls : List (Option PV)) (L : QH FA) (F : Nat) : xnG call 84 (F + 1) 17 ls [vI 0] L = some (some (vI 0), L) := rfl
set_option maxRecDepth 100000 in
theorem b84_6 (call : QC FA) (x1 : Int32) (L : QH FA) (F : Nat) : xnG call 84 (F + 3) 4 [some (vR 2), some (vI x1)] [] L = xnG call 84 F 7 [some (vR 2), some (vI x1)] [vI 4, vI x1, vR 2] L := rfl
set_option maxRecDepth 100000 in
theorem b84_7 (call : QC FA) (a0 : Int32) (a1 : Int32) (ls : List (Option PV)) (z : Nat → Int32) (f : Nat → FA) (F : Nat) : xnG call 84 (F + 1) 7 ls [vI a1, vI a0, vR 2] (LW W z f) = cbd (call 13 [vR 2, vI a0, vI a1] (LW W z f)) (fun r L' => xnG call 84 F 8 ls (r.toList ++ []) L') := pcY (ih := xnG call 84 F) (call := call) (a := 13) (b := 2) (v := 0) (t := 8) (x := 2) (ls := ls) (As := [vI a0, vI a1]) (st' := []) (L := LW W z f) rfl rfl rfl
set_option maxRecDepth 100000 in
theorem b84_8 (call : QC FA) (x : Int32) (ls : List (Option PV)) (L : QH FA) (F : Nat) : xnG call 84 (F + 1) 8 ls [vI x] L = bif pcmp 1 x 0 then xnG call 84 F 16 ls [] L else xnG call 84 F 9 ls [] L := rfl
set_option maxRecDepth 100000 in
theorem b84_9 (call : QC FA) (x1 : Int32) (L : QH FA) (F : Nat) : xnG call 84 (F + 3) 9 [some (vR 2), some (vI x1)] [] L = xnG call 84 F 12 [some (vR 2), some (vI x1)] [vI 1, vI x1, vR 2] L := rfl
set_option maxRecDepth 100000 in
theorem b84_10 (call : QC FA) (a0 : Int32) (a1 : Int32) (ls : List (Option PV)) (z : Nat → Int32) (f : Nat → FA) (F : Nat) : xnG call 84 (F + 1) 12 ls [vI a1, vI a0, vR 2] (LW W z f) = cbd (call 13 [vR 2, vI a0, vI a1] (LW W z f)) (fun r L' => xnG call 84 F 13 ls (r.toList ++ []) L') := pcY (ih := xnG call 84 F) (call := call) (a := 13) (b := 2) (v := 0) (t := 13) (x := 2) (ls := ls) (As := [vI a0, vI a1]) (st' := []) (L := LW W z f) rfl rfl rfl
set_option maxRecDepth 100000 in
theorem b84_11 (call : QC FA) (x : Int32) (ls : List (Option PV)) (L : QH FA) (F : Nat) : xnG call 84 (F + 1) 13 ls [vI x] L = bif pcmp 0 x 0 then xnG call 84 F 16 ls [] L else xnG call 84 F 14 ls [] L := rfl
set_option maxRecDepth 100000 in
theorem b84_12 (call : QC FA) (x1 : Int32) (L : QH FA) (F : Nat) : xnG call 84 (F + 2) 14 [some (vR 2), some (vI x1)] [] L = xnG call 84 F 17 [some (vR 2), some (vI x1)] [vI 1] L := rfl
set_option maxRecDepth 100000 in
theorem b84_13 (call : QC FA) (ls : List (Option PV)) (L : QH FA) (F : Nat) : xnG call 84 (F + 1) 17 ls [vI 1] L = some (some (vI 1), L) := rfl
theorem vc84_0 (call : QC FA) (x1 : Int32) (z : Nat → Int32) (f : Nat → FA) (res : Option PV × QH FA) (H : (∃ (r1 : Int32) (z1 : Nat → Int32) (f1 : Nat → FA), call 14 [vR 2, vI x1] (LW W z f) = some (some (vI r1), LW W z1 f1) ∧ ((r1 = 0 → res = (some (vI 0), LW W z1 f1)) ∧ (¬ r1 = 0 → (∃ (r2 : Int32) (z2 : Nat → Int32) (f2 : Nat → FA), call 13 [vR 2, vI x1, vI 4] (LW W z1 f1) = some (some (vI r2), LW W z2 f2) ∧ ((¬ r2 = 0 → res = (some (vI 0), LW W z2 f2)) ∧ (r2 = 0 → (∃ (r3 : Int32) (z3 : Nat → Int32) (f3 : Nat → FA), call 13 [vR 2, vI x1, vI 1] (LW W z2 f2) = some (some (vI r3), LW W z3 f3) ∧ ((r3 = 0 → res = (some (vI 0), LW W z3 f3)) ∧ (¬ r3 = 0 → res = (some (vI 1), LW W z3 f3))))))))))) : XC call (mP 84) 0 [some (vR 2), some (vI x1)] [] (LW W z f) res := by
  refine xc_b (i' := 2) (ls' := [some (vR 2), some (vI x1)]) (st' := [vI x1, vR 2]) (L' := LW W z f) 2 (b84_1 call x1 _) ?_
  obtain ⟨r1, z1, f1, hc, H⟩ := H
  refine xc_call (t := 3) (ls' := [some (vR 2), some (vI x1)]) (st' := []) (b84_2 call x1 _ z f) hc ?_
  show XC call (mP 84) 3 [some (vR 2), some (vI x1)] [vI r1] (LW W z1 f1) res
  refine xc_if (it := 16) (ie := 4) (ls' := [some (vR 2), some (vI x1)]) (st' := []) (b84_3 call r1 _ _) (fun q1 => ?_) (fun q1 => ?_)
  · have H := H.1 (cI0t q1)
    refine xc_b (i' := 17) (ls' := [some (vR 2), some (vI x1)]) (st' := [vI 0]) (L' := LW W z1 f1) 1 (b84_4 call x1 _) ?_
    subst H
    exact xc_ret (b84_5 call _ _)
  · have H := H.2 (cI0f q1)
    refine xc_b (i' := 7) (ls' := [some (vR 2), some (vI x1)]) (st' := [vI 4, vI x1, vR 2]) (L' := LW W z1 f1) 3 (b84_6 call x1 _) ?_
    obtain ⟨r2, z2, f2, hc, H⟩ := H
    refine xc_call (t := 8) (ls' := [some (vR 2), some (vI x1)]) (st' := []) (b84_7 call x1 4 _ z1 f1) hc ?_
    show XC call (mP 84) 8 [some (vR 2), some (vI x1)] [vI r2] (LW W z2 f2) res
    refine xc_if (it := 16) (ie := 9) (ls' := [some (vR 2), some (vI x1)]) (st' := []) (b84_8 call r2 _ _) (fun q2 => ?_) (fun q2 => ?_)
    · have H := H.1 (cI1t q2)
      refine xc_b (i' := 17) (ls' := [some (vR 2), some (vI x1)]) (st' := [vI 0]) (L' := LW W z2 f2) 1 (b84_4 call x1 _) ?_
      subst H
      exact xc_ret (b84_5 call _ _)
    · have H := H.2 (cI1f q2)
      refine xc_b (i' := 12) (ls' := [some (vR 2), some (vI x1)]) (st' := [vI 1, vI x1, vR 2]) (L' := LW W z2 f2) 3 (b84_9 call x1 _) ?_
      obtain ⟨r3, z3, f3, hc, H⟩ := H
      refine xc_call (t := 13) (ls' := [some (vR 2), some (vI x1)]) (st' := []) (b84_10 call x1 1 _ z2 f2) hc ?_
      show XC call (mP 84) 13 [some (vR 2), some (vI x1)] [vI r3] (LW W z3 f3) res
      refine xc_if (it := 16) (ie := 14) (ls' := [some (vR 2), some (vI x1)]) (st' := []) (b84_11 call r3 _ _) (fun q3 => ?_) (fun q3 => ?_)
      · have H := H.1 (cI0t q3)
        refine xc_b (i' := 17) (ls' := [some (vR 2), some (vI x1)]) (st' := [vI 0]) (L' := LW W z3 f3) 1 (b84_4 call x1 _) ?_
        subst H
        exact xc_ret (b84_5 call _ _)
      · have H := H.2 (cI0f q3)
        refine xc_b (i' := 17) (ls' := [some (vR 2), some (vI x1)]) (st' := [vI 1]) (L' := LW W z3 f3) 2 (b84_12 call x1 _) ?_
        subst H
        exact xc_ret (b84_13 call _ _)
set_option maxRecDepth 100000 in
theorem b81_1 (call : QC FA) (o1 : Option PV) (o2 : Option PV) (L : QH FA) (F : Nat) : xnG call 81 (F + 4) 0 [some (vR 2), o1, o2] [] L = xnG call 81 F 4 [some (vR 2), some (vI 0), some (vI 0)] [] L := rfl
theorem vc81_0 (call : QC FA) (o1 : Option PV) (o2 : Option PV) (z : Nat → Int32) (f : Nat → FA) (res : Option PV × QH FA) (H : XC call (mP 81) 4 [some (vR 2), some (vI 0), some (vI 0)] [] (LW W z f) res) : XC call (mP 81) 0 [some (vR 2), o1, o2] [] (LW W z f) res := by
  refine xc_b (i' := 4) (ls' := [some (vR 2), some (vI 0), some (vI 0)]) (st' := []) (L' := LW W z f) 4 (b81_1 call o1 o2 _) ?_
  exact H
set_option maxRecDepth 100000 in
theorem bc4_81_1 (call : QC FA) (x1 : Int32) (x2 : Int32) (z : Nat → Int32) (f : Nat → FA) (F : Nat) : xnG call 81 (F + 3) 4 [some (vR 2), some (vI x1), some (vI x2)] [] (LW W z f) = xnG call 81 F 7 [some (vR 2), some (vI x1), some (vI x2)] [vI (z 22), vI x2] (LW W z f) := rfl
set_option maxRecDepth 100000 in
theorem bc4_81_2 (call : QC FA) (x y : Int32) (ls : List (Option PV)) (L : QH FA) (F : Nat) : xnG call 81 (F + 1) 7 ls [vI y, vI x] L = bif pcmp 3 x y then xnG call 81 F 17 ls [] L else xnG call 81 F 8 ls [] L := rfl
set_option maxRecDepth 100000 in
theorem bc4_81_3 (call : QC FA) (x1 : Int32) (x2 : Int32) (L : QH FA) (F : Nat) : xnG call 81 (F + 1) 17 [some (vR 2), some (vI x1), some (vI x2)] [] L = xnG call 81 F 18 [some (vR 2), some (vI x1), some (vI x2)] [vI x1] L := rfl
set_option maxRecDepth 100000 in
theorem bc4_81_4 (call : QC FA) (x : Int32) (ls : List (Option PV)) (L : QH FA) (F : Nat) : xnG call 81 (F + 1) 18 ls [vI x] L = some (some (vI x), L) := rfl
set_option maxRecDepth 100000 in
theorem bc4_81_5 (call : QC FA) (x1 : Int32) (x2 : Int32) (L : QH FA) (F : Nat) : xnG call 81 (F + 4) 8 [some (vR 2), some (vI x1), some (vI x2)] [] L = xnG call 81 F 12 [some (vR 2), some (vI x1), some (vI x2)] [vI 5, vI x2, vR 2, vI x1] L := rfl
set_option maxRecDepth 100000 in
theorem bc4_81_6 (call : QC FA) (a0 : Int32) (a1 : Int32) (s0 : Int32) (ls : List (Option PV)) (z : Nat → Int32) (f : Nat → FA) (F : Nat) : xnG call 81 (F + 1) 12 ls [vI a1, vI a0, vR 2, vI s0] (LW W z f) = cbd (call 13 [vR 2, vI a0, vI a1] (LW W z f)) (fun r L' => xnG call 81 F 13 ls (r.toList ++ [vI s0]) L') := pcY (ih := xnG call 81 F) (call := call) (a := 13) (b := 2) (v := 0) (t := 13) (x := 2) (ls := ls) (As := [vI a0, vI a1]) (st' := [vI s0]) (L := LW W z f) rfl rfl rfl
set_option maxRecDepth 100000 in
theorem bc4_81_7 (call : QC FA) (x1 : Int32) (x2 : Int32) (s0 : Int32) (s1 : Int32) (L : QH FA) (F : Nat) : xnG call 81 (F + 2) 13 [some (vR 2), some (vI x1), some (vI x2)] [vI s0, vI s1] L = xnG call 81 F 15 [some (vR 2), some (vI (s1 + s0)), some (vI x2)] [] L := rfl
set_option maxRecDepth 100000 in
theorem bc4_81_8 (call : QC FA) (x1 : Int32) (x2 : Int32) (L : QH FA) (F : Nat) : xnG call 81 (F + 1) 15 [some (vR 2), some (vI x1), some (vI x2)] [] L = xnG call 81 F 16 [some (vR 2), some (vI x1), some (vI (x2 + 1))] [] L := rfl
set_option maxRecDepth 100000 in
theorem bc4_81_9 (call : QC FA) (x1 : Int32) (x2 : Int32) (L : QH FA) (F : Nat) : xnG call 81 (F + 1) 16 [some (vR 2), some (vI x1), some (vI x2)] [] L = xnG call 81 F 4 [some (vR 2), some (vI x1), some (vI x2)] [] L := rfl
theorem vcc4_81_4 (call : QC FA) (x1 : Int32) (x2 : Int32) (z : Nat → Int32) (f : Nat → FA) (res : Option PV × QH FA) (H : ((I (z 22) ≤ I x2 → res = (some (vI x1), LW W z f)) ∧ (I x2 < I (z 22) → (∃ (r1 : Int32) (z1 : Nat → Int32) (f1 : Nat → FA), call 13 [vR 2, vI x2, vI 5] (LW W z f) = some (some (vI r1), LW W z1 f1) ∧ XC call (mP 81) 4 [some (vR 2), some (vI (x1 + r1)), some (vI (x2 + 1))] [] (LW W z1 f1) res)))) : XC call (mP 81) 4 [some (vR 2), some (vI x1), some (vI x2)] [] (LW W z f) res := by
  refine xc_b (i' := 7) (ls' := [some (vR 2), some (vI x1), some (vI x2)]) (st' := [vI (z 22), vI x2]) (L' := LW W z f) 3 (bc4_81_1 call x1 x2 z f) ?_
  refine xc_if (it := 17) (ie := 8) (ls' := [some (vR 2), some (vI x1), some (vI x2)]) (st' := []) (bc4_81_2 call x2 (z 22) _ _) (fun q1 => ?_) (fun q1 => ?_)
  · have H := H.1 (cI3t q1 rfl rfl)
    refine xc_b (i' := 18) (ls' := [some (vR 2), some (vI x1), some (vI x2)]) (st' := [vI x1]) (L' := LW W z f) 1 (bc4_81_3 call x1 x2 _) ?_
    subst H
    exact xc_ret (bc4_81_4 call _ _ _)
  · have H := H.2 (cI3f q1 rfl rfl)
    refine xc_b (i' := 12) (ls' := [some (vR 2), some (vI x1), some (vI x2)]) (st' := [vI 5, vI x2, vR 2, vI x1]) (L' := LW W z f) 4 (bc4_81_5 call x1 x2 _) ?_
    obtain ⟨r1, z1, f1, hc, H⟩ := H
    refine xc_call (t := 13) (ls' := [some (vR 2), some (vI x1), some (vI x2)]) (st' := [vI x1]) (bc4_81_6 call x2 5 x1 _ z f) hc ?_
    show XC call (mP 81) 13 [some (vR 2), some (vI x1), some (vI x2)] [vI r1, vI x1] (LW W z1 f1) res
    refine xc_b (i' := 15) (ls' := [some (vR 2), some (vI (x1 + r1)), some (vI x2)]) (st' := []) (L' := LW W z1 f1) 2 (bc4_81_7 call x1 x2 r1 x1 _) ?_
    refine xc_b (i' := 16) (ls' := [some (vR 2), some (vI (x1 + r1)), some (vI (x2 + 1))]) (st' := []) (L' := LW W z1 f1) 1 (bc4_81_8 call (x1 + r1) x2 _) ?_
    refine xc_b (i' := 4) (ls' := [some (vR 2), some (vI (x1 + r1)), some (vI (x2 + 1))]) (st' := []) (L' := LW W z1 f1) 1 (bc4_81_9 call (x1 + r1) (x2 + 1) _) ?_
    exact H
set_option maxRecDepth 100000 in
theorem b8_1 (call : QC FA) (x1 : Int32) (L : QH FA) (F : Nat) : xnG call 8 (F + 1) 0 [some (vR 2), some (vI x1)] [] L = xnG call 8 F 1 [some (vR 2), some (vI x1)] [vI x1] L := rfl
set_option maxRecDepth 100000 in
theorem b8_2 (call : QC FA) (x : Int32) (ls : List (Option PV)) (L : QH FA) (F : Nat) : xnG call 8 (F + 1) 1 ls [vI x] L = bif pcmp 2 x 0 then xnG call 8 F 10 ls [] L else xnG call 8 F 2 ls [] L := rfl
set_option maxRecDepth 100000 in
theorem b8_3 (call : QC FA) (x1 : Int32) (L : QH FA) (F : Nat) : xnG call 8 (F + 1) 10 [some (vR 2), some (vI x1)] [] L = xnG call 8 F 11 [some (vR 2), some (vI x1)] [vI 0] L := rfl
set_option maxRecDepth 100000 in
theorem b8_4 (call : QC FA) (x : Int32) (ls : List (Option PV)) (L : QH FA) (F : Nat) : xnG call 8 (F + 1) 11 ls [vI x] L = some (some (vI x), L) := rfl
set_option maxRecDepth 100000 in
theorem b8_5 (call : QC FA) (x1 : Int32) (L : QH FA) (F : Nat) : xnG call 8 (F + 2) 2 [some (vR 2), some (vI x1)] [] L = xnG call 8 F 4 [some (vR 2), some (vI x1)] [vI 144, vI x1] L := rfl
set_option maxRecDepth 100000 in
theorem b8_6 (call : QC FA) (x y : Int32) (ls : List (Option PV)) (L : QH FA) (F : Nat) : xnG call 8 (F + 1) 4 ls [vI y, vI x] L = bif pcmp 3 x y then xnG call 8 F 10 ls [] L else xnG call 8 F 5 ls [] L := rfl
set_option maxRecDepth 100000 in
theorem b8_7 (call : QC FA) (x1 : Int32) (z : Nat → Int32) (f : Nat → FA) (F : Nat) : xnG call 8 (F + 3) 5 [some (vR 2), some (vI x1)] [] (LW W z f) = xnG call 8 F 8 [some (vR 2), some (vI x1)] [vI x1, vR 4] (LW W z f) := rfl
set_option maxRecDepth 100000 in
theorem b8_8 (call : QC FA) (x : Int32) (ls : List (Option PV)) (z : Nat → Int32) (f : Nat → FA) (F : Nat) : xnG call 8 (F + 1) 8 ls [vI x, vR 4] (LW W z f) = bif (Nat.beq 0 0 && pin x 144) then xnG call 8 F 9 ls [vI (f 4 (ix x))] (LW W z f) else none := rfl
set_option maxRecDepth 100000 in
theorem b8_9 (call : QC FA) (x1 : Int32) (s0 : Int32) (L : QH FA) (F : Nat) : xnG call 8 (F + 1) 9 [some (vR 2), some (vI x1)] [vI s0] L = xnG call 8 F 11 [some (vR 2), some (vI x1)] [vI s0] L := rfl
theorem vc8_0 (call : QC FA) (x1 : Int32) (z : Nat → Int32) (f : Nat → FA) (res : Option PV × QH FA) (H : ((I x1 < 0 → res = (some (vI 0), LW W z f)) ∧ (0 ≤ I x1 → ((144 ≤ I x1 → res = (some (vI 0), LW W z f)) ∧ (I x1 < 144 → (pin x1 144 = true ∧ res = (some (vI (f 4 (ix x1))), LW W z f))))))) : XC call (mP 8) 0 [some (vR 2), some (vI x1)] [] (LW W z f) res := by
  refine xc_b (i' := 1) (ls' := [some (vR 2), some (vI x1)]) (st' := [vI x1]) (L' := LW W z f) 1 (b8_1 call x1 _) ?_
  refine xc_if (it := 10) (ie := 2) (ls' := [some (vR 2), some (vI x1)]) (st' := []) (b8_2 call x1 _ _) (fun q1 => ?_) (fun q1 => ?_)
  · have H := H.1 (cI2t q1 rfl rfl)
    refine xc_b (i' := 11) (ls' := [some (vR 2), some (vI x1)]) (st' := [vI 0]) (L' := LW W z f) 1 (b8_3 call x1 _) ?_
    subst H
    exact xc_ret (b8_4 call _ _ _)
  · have H := H.2 (cI2f q1 rfl rfl)
    refine xc_b (i' := 4) (ls' := [some (vR 2), some (vI x1)]) (st' := [vI 144, vI x1]) (L' := LW W z f) 2 (b8_5 call x1 _) ?_
    refine xc_if (it := 10) (ie := 5) (ls' := [some (vR 2), some (vI x1)]) (st' := []) (b8_6 call x1 144 _ _) (fun q2 => ?_) (fun q2 => ?_)
    · have H := H.1 (cI3t q2 rfl rfl)
      refine xc_b (i' := 11) (ls' := [some (vR 2), some (vI x1)]) (st' := [vI 0]) (L' := LW W z f) 1 (b8_3 call x1 _) ?_
      subst H
      exact xc_ret (b8_4 call _ _ _)
    · have H := H.2 (cI3f q2 rfl rfl)
      refine xc_b (i' := 8) (ls' := [some (vR 2), some (vI x1)]) (st' := [vI x1, vR 4]) (L' := LW W z f) 3 (b8_7 call x1 z f) ?_
      obtain ⟨g1, H⟩ := H
      refine xc_g (i' := 9) (ls' := [some (vR 2), some (vI x1)]) (st' := [vI (f 4 (ix x1))]) (L' := LW W z f) (b8_8 call x1 _ z f) (pinG g1) ?_
      refine xc_b (i' := 11) (ls' := [some (vR 2), some (vI x1)]) (st' := [vI (f 4 (ix x1))]) (L' := LW W z f) 1 (b8_9 call x1 (f 4 (ix x1)) _) ?_
      subst H
      exact xc_ret (b8_4 call _ _ _)
set_option maxRecDepth 100000 in
theorem b6_1 (call : QC FA) (x1 : Int32) (L : QH FA) (F : Nat) : xnG call 6 (F + 1) 0 [some (vR 2), some (vI x1)] [] L = xnG call 6 F 1 [some (vR 2), some (vI x1)] [vI x1] L := rfl
set_option maxRecDepth 100000 in
theorem b6_2 (call : QC FA) (x : Int32) (ls : List (Option PV)) (L : QH FA) (F : Nat) : xnG call 6 (F + 1) 1 ls [vI x] L = bif pcmp 2 x 0 then xnG call 6 F 12 ls [] L else xnG call 6 F 2 ls [] L := rfl
set_option maxRecDepth 100000 in
theorem b6_3 (call : QC FA) (x1 : Int32) (L : QH FA) (F : Nat) : xnG call 6 (F + 1) 12 [some (vR 2), some (vI x1)] [] L = xnG call 6 F 13 [some (vR 2), some (vI x1)] [vI 0] L := rfl
set_option maxRecDepth 100000 in
theorem b6_4 (call : QC FA) (ls : List (Option PV)) (L : QH FA) (F : Nat) : xnG call 6 (F + 1) 13 ls [vI 0] L = some (some (vI 0), L) := rfl
set_option maxRecDepth 100000 in
theorem b6_5 (call : QC FA) (x1 : Int32) (L : QH FA) (F : Nat) : xnG call 6 (F + 2) 2 [some (vR 2), some (vI x1)] [] L = xnG call 6 F 4 [some (vR 2), some (vI x1)] [vI 144, vI x1] L := rfl
set_option maxRecDepth 100000 in
theorem b6_6 (call : QC FA) (x y : Int32) (ls : List (Option PV)) (L : QH FA) (F : Nat) : xnG call 6 (F + 1) 4 ls [vI y, vI x] L = bif pcmp 3 x y then xnG call 6 F 12 ls [] L else xnG call 6 F 5 ls [] L := rfl
set_option maxRecDepth 100000 in
theorem b6_7 (call : QC FA) (x1 : Int32) (z : Nat → Int32) (f : Nat → FA) (F : Nat) : xnG call 6 (F + 3) 5 [some (vR 2), some (vI x1)] [] (LW W z f) = xnG call 6 F 8 [some (vR 2), some (vI x1)] [vI x1, vR 4] (LW W z f) := rfl
set_option maxRecDepth 100000 in
theorem b6_8 (call : QC FA) (x : Int32) (ls : List (Option PV)) (z : Nat → Int32) (f : Nat → FA) (F : Nat) : xnG call 6 (F + 1) 8 ls [vI x, vR 4] (LW W z f) = bif (Nat.beq 0 0 && pin x 144) then xnG call 6 F 9 ls [vI (f 4 (ix x))] (LW W z f) else none := rfl
set_option maxRecDepth 100000 in
theorem b6_9 (call : QC FA) (x : Int32) (ls : List (Option PV)) (L : QH FA) (F : Nat) : xnG call 6 (F + 1) 9 ls [vI x] L = bif pcmp 0 x 0 then xnG call 6 F 12 ls [] L else xnG call 6 F 10 ls [] L := rfl
set_option maxRecDepth 100000 in
theorem b6_10 (call : QC FA) (x1 : Int32) (L : QH FA) (F : Nat) : xnG call 6 (F + 2) 10 [some (vR 2), some (vI x1)] [] L = xnG call 6 F 13 [some (vR 2), some (vI x1)] [vI 1] L := rfl
set_option maxRecDepth 100000 in
theorem b6_11 (call : QC FA) (ls : List (Option PV)) (L : QH FA) (F : Nat) : xnG call 6 (F + 1) 13 ls [vI 1] L = some (some (vI 1), L) := rfl
theorem vc6_0 (call : QC FA) (x1 : Int32) (z : Nat → Int32) (f : Nat → FA) (res : Option PV × QH FA) (H : ((I x1 < 0 → res = (some (vI 0), LW W z f)) ∧ (0 ≤ I x1 → ((144 ≤ I x1 → res = (some (vI 0), LW W z f)) ∧ (I x1 < 144 → (pin x1 144 = true ∧ ((f 4 (ix x1) = 0 → res = (some (vI 0), LW W z f)) ∧ (¬ f 4 (ix x1) = 0 → res = (some (vI 1), LW W z f))))))))) : XC call (mP 6) 0 [some (vR 2), some (vI x1)] [] (LW W z f) res := by
  refine xc_b (i' := 1) (ls' := [some (vR 2), some (vI x1)]) (st' := [vI x1]) (L' := LW W z f) 1 (b6_1 call x1 _) ?_
  refine xc_if (it := 12) (ie := 2) (ls' := [some (vR 2), some (vI x1)]) (st' := []) (b6_2 call x1 _ _) (fun q1 => ?_) (fun q1 => ?_)
  · have H := H.1 (cI2t q1 rfl rfl)
    refine xc_b (i' := 13) (ls' := [some (vR 2), some (vI x1)]) (st' := [vI 0]) (L' := LW W z f) 1 (b6_3 call x1 _) ?_
    subst H
    exact xc_ret (b6_4 call _ _)
  · have H := H.2 (cI2f q1 rfl rfl)
    refine xc_b (i' := 4) (ls' := [some (vR 2), some (vI x1)]) (st' := [vI 144, vI x1]) (L' := LW W z f) 2 (b6_5 call x1 _) ?_
    refine xc_if (it := 12) (ie := 5) (ls' := [some (vR 2), some (vI x1)]) (st' := []) (b6_6 call x1 144 _ _) (fun q2 => ?_) (fun q2 => ?_)
    · have H := H.1 (cI3t q2 rfl rfl)
      refine xc_b (i' := 13) (ls' := [some (vR 2), some (vI x1)]) (st' := [vI 0]) (L' := LW W z f) 1 (b6_3 call x1 _) ?_
      subst H
      exact xc_ret (b6_4 call _ _)
    · have H := H.2 (cI3f q2 rfl rfl)
      refine xc_b (i' := 8) (ls' := [some (vR 2), some (vI x1)]) (st' := [vI x1, vR 4]) (L' := LW W z f) 3 (b6_7 call x1 z f) ?_
      obtain ⟨g1, H⟩ := H
      refine xc_g (i' := 9) (ls' := [some (vR 2), some (vI x1)]) (st' := [vI (f 4 (ix x1))]) (L' := LW W z f) (b6_8 call x1 _ z f) (pinG g1) ?_
      refine xc_if (it := 12) (ie := 10) (ls' := [some (vR 2), some (vI x1)]) (st' := []) (b6_9 call (f 4 (ix x1)) _ _) (fun q3 => ?_) (fun q3 => ?_)
      · have H := H.1 (cI0t q3)
        refine xc_b (i' := 13) (ls' := [some (vR 2), some (vI x1)]) (st' := [vI 0]) (L' := LW W z f) 1 (b6_3 call x1 _) ?_
        subst H
        exact xc_ret (b6_4 call _ _)
      · have H := H.2 (cI0f q3)
        refine xc_b (i' := 13) (ls' := [some (vR 2), some (vI x1)]) (st' := [vI 1]) (L' := LW W z f) 2 (b6_10 call x1 _) ?_
        subst H
        exact xc_ret (b6_11 call _ _)
set_option maxRecDepth 100000 in
theorem b15_1 (call : QC FA) (x1 : Int32) (L : QH FA) (F : Nat) : xnG call 15 (F + 2) 0 [some (vR 2), some (vI x1)] [] L = xnG call 15 F 2 [some (vR 2), some (vI x1)] [vI x1, vR 2] L := rfl
set_option maxRecDepth 100000 in
theorem b15_2 (call : QC FA) (a0 : Int32) (ls : List (Option PV)) (z : Nat → Int32) (f : Nat → FA) (F : Nat) : xnG call 15 (F + 1) 2 ls [vI a0, vR 2] (LW W z f) = cbd (call 8 [vR 2, vI a0] (LW W z f)) (fun r L' => xnG call 15 F 3 ls (r.toList ++ []) L') := pcY (ih := xnG call 15 F) (call := call) (a := 8) (b := 1) (v := 0) (t := 3) (x := 2) (ls := ls) (As := [vI a0]) (st' := []) (L := LW W z f) rfl rfl rfl
set_option maxRecDepth 100000 in
theorem b15_3 (call : QC FA) (x : Int32) (ls : List (Option PV)) (L : QH FA) (F : Nat) : xnG call 15 (F + 1) 3 ls [vI x] L = bif pcmp 3 x 0 then xnG call 15 F 4 ls [vI x] L else xnG call 15 F 4 ls [vI (0 - x)] L := pab (xnG call 15 F) 4 x ls [] L rfl
set_option maxRecDepth 100000 in
theorem b15_4 (call : QC FA) (x1 : Int32) (s0 : Int32) (L : QH FA) (F : Nat) : xnG call 15 (F + 2) 4 [some (vR 2), some (vI x1)] [vI s0] L = xnG call 15 F 6 [some (vR 2), some (vI x1)] [vI (s0 &&& 15)] L := rfl
set_option maxRecDepth 100000 in
theorem b15_5 (call : QC FA) (x : Int32) (ls : List (Option PV)) (L : QH FA) (F : Nat) : xnG call 15 (F + 1) 6 ls [vI x] L = some (some (vI x), L) := rfl
theorem vc15_0 (call : QC FA) (x1 : Int32) (z : Nat → Int32) (f : Nat → FA) (res : Option PV × QH FA) (H : (∃ (r1 : Int32) (z1 : Nat → Int32) (f1 : Nat → FA), call 8 [vR 2, vI x1] (LW W z f) = some (some (vI r1), LW W z1 f1) ∧ ((0 ≤ I r1 → res = (some (vI (r1 &&& 15)), LW W z1 f1)) ∧ (I r1 < 0 → res = (some (vI ((0 - r1) &&& 15)), LW W z1 f1))))) : XC call (mP 15) 0 [some (vR 2), some (vI x1)] [] (LW W z f) res := by
  refine xc_b (i' := 2) (ls' := [some (vR 2), some (vI x1)]) (st' := [vI x1, vR 2]) (L' := LW W z f) 2 (b15_1 call x1 _) ?_
  obtain ⟨r1, z1, f1, hc, H⟩ := H
  refine xc_call (t := 3) (ls' := [some (vR 2), some (vI x1)]) (st' := []) (b15_2 call x1 _ z f) hc ?_
  show XC call (mP 15) 3 [some (vR 2), some (vI x1)] [vI r1] (LW W z1 f1) res
  refine xc_if2 (it := 4) (ie := 4) (ls' := [some (vR 2), some (vI x1)]) (st1 := [vI r1]) (st2 := [vI (0 - r1)]) (b15_3 call r1 _ _) (fun q1 => ?_) (fun q1 => ?_)
  · have H := H.1 (cI3t q1 rfl rfl)
    refine xc_b (i' := 6) (ls' := [some (vR 2), some (vI x1)]) (st' := [vI (r1 &&& 15)]) (L' := LW W z1 f1) 2 (b15_4 call x1 r1 _) ?_
    subst H
    exact xc_ret (b15_5 call _ _ _)
  · have H := H.2 (cI3f q1 rfl rfl)
    refine xc_b (i' := 6) (ls' := [some (vR 2), some (vI x1)]) (st' := [vI ((0 - r1) &&& 15)]) (L' := LW W z1 f1) 2 (b15_4 call x1 (0 - r1) _) ?_
    subst H
    exact xc_ret (b15_5 call _ _ _)
set_option maxRecDepth 100000 in
theorem b7_1 (call : QC FA) (x1 : Int32) (L : QH FA) (F : Nat) : xnG call 7 (F + 2) 0 [some (vR 2), some (vI x1)] [] L = xnG call 7 F 2 [some (vR 2), some (vI x1)] [vI x1, vR 2] L := rfl
set_option maxRecDepth 100000 in
theorem b7_2 (call : QC FA) (a0 : Int32) (ls : List (Option PV)) (z : Nat → Int32) (f : Nat → FA) (F : Nat) : xnG call 7 (F + 1) 2 ls [vI a0, vR 2] (LW W z f) = cbd (call 8 [vR 2, vI a0] (LW W z f)) (fun r L' => xnG call 7 F 3 ls (r.toList ++ []) L') := pcY (ih := xnG call 7 F) (call := call) (a := 8) (b := 1) (v := 0) (t := 3) (x := 2) (ls := ls) (As := [vI a0]) (st' := []) (L := LW W z f) rfl rfl rfl
set_option maxRecDepth 100000 in
theorem b7_3 (call : QC FA) (x1 : Int32) (s0 : Int32) (L : QH FA) (F : Nat) : xnG call 7 (F + 1) 3 [some (vR 2), some (vI x1)] [vI s0] L = xnG call 7 F 4 [some (vR 2), some (vI x1)] [vI 0, vI s0] L := rfl
set_option maxRecDepth 100000 in
theorem b7_4 (call : QC FA) (a0 : Int32) (a1 : Int32) (ls : List (Option PV)) (z : Nat → Int32) (f : Nat → FA) (F : Nat) : xnG call 7 (F + 1) 4 ls [vI a1, vI a0] (LW W z f) = cbd (call 9 [vI a0, vI a1] (LW W z f)) (fun r L' => xnG call 7 F 5 ls (r.toList ++ []) L') := pcZ (ih := xnG call 7 F) (call := call) (a := 9) (b := 2) (t := 5) (ls := ls) (As := [vI a0, vI a1]) (st' := []) (L := LW W z f) rfl rfl
set_option maxRecDepth 100000 in
theorem b7_5 (call : QC FA) (x : Int32) (ls : List (Option PV)) (L : QH FA) (F : Nat) : xnG call 7 (F + 1) 5 ls [vI x] L = some (some (vI x), L) := rfl
theorem vc7_0 (call : QC FA) (x1 : Int32) (z : Nat → Int32) (f : Nat → FA) (res : Option PV × QH FA) (H : (∃ (r1 : Int32) (z1 : Nat → Int32) (f1 : Nat → FA), call 8 [vR 2, vI x1] (LW W z f) = some (some (vI r1), LW W z1 f1) ∧ (∃ (r2 : Int32) (z2 : Nat → Int32) (f2 : Nat → FA), call 9 [vI r1, vI 0] (LW W z1 f1) = some (some (vI r2), LW W z2 f2) ∧ res = (some (vI r2), LW W z2 f2)))) : XC call (mP 7) 0 [some (vR 2), some (vI x1)] [] (LW W z f) res := by
  refine xc_b (i' := 2) (ls' := [some (vR 2), some (vI x1)]) (st' := [vI x1, vR 2]) (L' := LW W z f) 2 (b7_1 call x1 _) ?_
  obtain ⟨r1, z1, f1, hc, H⟩ := H
  refine xc_call (t := 3) (ls' := [some (vR 2), some (vI x1)]) (st' := []) (b7_2 call x1 _ z f) hc ?_
  show XC call (mP 7) 3 [some (vR 2), some (vI x1)] [vI r1] (LW W z1 f1) res
  refine xc_b (i' := 4) (ls' := [some (vR 2), some (vI x1)]) (st' := [vI 0, vI r1]) (L' := LW W z1 f1) 1 (b7_3 call x1 r1 _) ?_
  obtain ⟨r2, z2, f2, hc, H⟩ := H
  refine xc_call (t := 5) (ls' := [some (vR 2), some (vI x1)]) (st' := []) (b7_4 call r1 0 _ z1 f1) hc ?_
  show XC call (mP 7) 5 [some (vR 2), some (vI x1)] [vI r2] (LW W z2 f2) res
  subst H
  exact xc_ret (b7_5 call _ _ _)
set_option maxRecDepth 100000 in
theorem b11_1 (call : QC FA) (x1 : Int32) (o2 : Option PV) (L : QH FA) (F : Nat) : xnG call 11 (F + 2) 0 [some (vR 2), some (vI x1), o2] [] L = xnG call 11 F 2 [some (vR 2), some (vI x1), o2] [vI x1, vR 2] L := rfl
set_option maxRecDepth 100000 in
theorem b11_2 (call : QC FA) (a0 : Int32) (ls : List (Option PV)) (z : Nat → Int32) (f : Nat → FA) (F : Nat) : xnG call 11 (F + 1) 2 ls [vI a0, vR 2] (LW W z f) = cbd (call 8 [vR 2, vI a0] (LW W z f)) (fun r L' => xnG call 11 F 3 ls (r.toList ++ []) L') := pcY (ih := xnG call 11 F) (call := call) (a := 8) (b := 1) (v := 0) (t := 3) (x := 2) (ls := ls) (As := [vI a0]) (st' := []) (L := LW W z f) rfl rfl rfl
set_option maxRecDepth 100000 in
theorem b11_3 (call : QC FA) (x1 : Int32) (o2 : Option PV) (s0 : Int32) (L : QH FA) (F : Nat) : xnG call 11 (F + 2) 3 [some (vR 2), some (vI x1), o2] [vI s0] L = xnG call 11 F 5 [some (vR 2), some (vI x1), some (vI s0)] [vI s0] L := rfl
set_option maxRecDepth 100000 in
theorem b11_4 (call : QC FA) (x : Int32) (ls : List (Option PV)) (L : QH FA) (F : Nat) : xnG call 11 (F + 1) 5 ls [vI x] L = bif pcmp 1 x 0 then xnG call 11 F 8 ls [] L else xnG call 11 F 6 ls [] L := rfl
set_option maxRecDepth 100000 in
theorem b11_5 (call : QC FA) (x1 : Int32) (x2 : Int32) (L : QH FA) (F : Nat) : xnG call 11 (F + 1) 8 [some (vR 2), some (vI x1), some (vI x2)] [] L = xnG call 11 F 9 [some (vR 2), some (vI x1), some (vI x2)] [vI x2] L := rfl
set_option maxRecDepth 100000 in
theorem b11_6 (call : QC FA) (x : Int32) (ls : List (Option PV)) (L : QH FA) (F : Nat) : xnG call 11 (F + 1) 9 ls [vI x] L = bif pcmp 3 x 0 then xnG call 11 F 10 ls [vI x] L else xnG call 11 F 10 ls [vI (0 - x)] L := pab (xnG call 11 F) 10 x ls [] L rfl
set_option maxRecDepth 100000 in
theorem b11_7 (call : QC FA) (x1 : Int32) (x2 : Int32) (s0 : Int32) (L : QH FA) (F : Nat) : xnG call 11 (F + 2) 10 [some (vR 2), some (vI x1), some (vI x2)] [vI s0] L = xnG call 11 F 12 [some (vR 2), some (vI x1), some (vI x2)] [vI (s0 >>> (4 &&& 31))] L := rfl
set_option maxRecDepth 100000 in
theorem b11_8 (call : QC FA) (x : Int32) (ls : List (Option PV)) (L : QH FA) (F : Nat) : xnG call 11 (F + 1) 12 ls [vI x] L = some (some (vI x), L) := rfl
set_option maxRecDepth 100000 in
theorem b11_9 (call : QC FA) (x1 : Int32) (x2 : Int32) (L : QH FA) (F : Nat) : xnG call 11 (F + 2) 6 [some (vR 2), some (vI x1), some (vI x2)] [] L = xnG call 11 F 12 [some (vR 2), some (vI x1), some (vI x2)] [vI ((-1))] L := rfl
theorem vc11_0 (call : QC FA) (x1 : Int32) (o2 : Option PV) (z : Nat → Int32) (f : Nat → FA) (res : Option PV × QH FA) (H : (∃ (r1 : Int32) (z1 : Nat → Int32) (f1 : Nat → FA), call 8 [vR 2, vI x1] (LW W z f) = some (some (vI r1), LW W z1 f1) ∧ ((¬ r1 = 0 → ((0 ≤ I r1 → res = (some (vI (r1 >>> (4 &&& 31))), LW W z1 f1)) ∧ (I r1 < 0 → res = (some (vI ((0 - r1) >>> (4 &&& 31))), LW W z1 f1)))) ∧ (r1 = 0 → res = (some (vI ((-1))), LW W z1 f1))))) : XC call (mP 11) 0 [some (vR 2), some (vI x1), o2] [] (LW W z f) res := by
  refine xc_b (i' := 2) (ls' := [some (vR 2), some (vI x1), o2]) (st' := [vI x1, vR 2]) (L' := LW W z f) 2 (b11_1 call x1 o2 _) ?_
  obtain ⟨r1, z1, f1, hc, H⟩ := H
  refine xc_call (t := 3) (ls' := [some (vR 2), some (vI x1), o2]) (st' := []) (b11_2 call x1 _ z f) hc ?_
  show XC call (mP 11) 3 [some (vR 2), some (vI x1), o2] [vI r1] (LW W z1 f1) res
  refine xc_b (i' := 5) (ls' := [some (vR 2), some (vI x1), some (vI r1)]) (st' := [vI r1]) (L' := LW W z1 f1) 2 (b11_3 call x1 o2 r1 _) ?_
  refine xc_if (it := 8) (ie := 6) (ls' := [some (vR 2), some (vI x1), some (vI r1)]) (st' := []) (b11_4 call r1 _ _) (fun q1 => ?_) (fun q1 => ?_)
  · have H := H.1 (cI1t q1)
    refine xc_b (i' := 9) (ls' := [some (vR 2), some (vI x1), some (vI r1)]) (st' := [vI r1]) (L' := LW W z1 f1) 1 (b11_5 call x1 r1 _) ?_
    refine xc_if2 (it := 10) (ie := 10) (ls' := [some (vR 2), some (vI x1), some (vI r1)]) (st1 := [vI r1]) (st2 := [vI (0 - r1)]) (b11_6 call r1 _ _) (fun q2 => ?_) (fun q2 => ?_)
    · have H := H.1 (cI3t q2 rfl rfl)
      refine xc_b (i' := 12) (ls' := [some (vR 2), some (vI x1), some (vI r1)]) (st' := [vI (r1 >>> (4 &&& 31))]) (L' := LW W z1 f1) 2 (b11_7 call x1 r1 r1 _) ?_
      subst H
      exact xc_ret (b11_8 call _ _ _)
    · have H := H.2 (cI3f q2 rfl rfl)
      refine xc_b (i' := 12) (ls' := [some (vR 2), some (vI x1), some (vI r1)]) (st' := [vI ((0 - r1) >>> (4 &&& 31))]) (L' := LW W z1 f1) 2 (b11_7 call x1 r1 (0 - r1) _) ?_
      subst H
      exact xc_ret (b11_8 call _ _ _)
  · have H := H.2 (cI1f q1)
    refine xc_b (i' := 12) (ls' := [some (vR 2), some (vI x1), some (vI r1)]) (st' := [vI ((-1))]) (L' := LW W z1 f1) 2 (b11_9 call x1 r1 _) ?_
    subst H
    exact xc_ret (b11_8 call _ _ _)
set_option maxRecDepth 100000 in
theorem b86_1 (call : QC FA) (x1 : Int32) (x2 : Int32) (x3 : Int32) (x4 : Int32) (L : QH FA) (F : Nat) : xnG call 86 (F + 1) 0 [some (vR 2), some (vI x1), some (vI x2), some (vI x3), some (vI x4)] [] L = xnG call 86 F 1 [some (vR 2), some (vI x1), some (vI x2), some (vI x3), some (vI x4)] [vI x1] L := rfl
set_option maxRecDepth 100000 in
theorem b86_2 (call : QC FA) (x : Int32) (ls : List (Option PV)) (L : QH FA) (F : Nat) : xnG call 86 (F + 1) 1 ls [vI x] L = bif pcmp 2 x 0 then xnG call 86 F 16 ls [] L else xnG call 86 F 2 ls [] L := rfl
set_option maxRecDepth 100000 in
theorem b86_3 (call : QC FA) (ls : List (Option PV)) (L : QH FA) (F : Nat) : xnG call 86 (F + 1) 16 ls [] L = some (none, L) := rfl
set_option maxRecDepth 100000 in
theorem b86_4 (call : QC FA) (x1 : Int32) (x2 : Int32) (x3 : Int32) (x4 : Int32) (L : QH FA) (F : Nat) : xnG call 86 (F + 2) 2 [some (vR 2), some (vI x1), some (vI x2), some (vI x3), some (vI x4)] [] L = xnG call 86 F 4 [some (vR 2), some (vI x1), some (vI x2), some (vI x3), some (vI x4)] [vI 144, vI x1] L := rfl
set_option maxRecDepth 100000 in
theorem b86_5 (call : QC FA) (x y : Int32) (ls : List (Option PV)) (L : QH FA) (F : Nat) : xnG call 86 (F + 1) 4 ls [vI y, vI x] L = bif pcmp 3 x y then xnG call 86 F 16 ls [] L else xnG call 86 F 5 ls [] L := rfl
set_option maxRecDepth 100000 in
theorem b86_6 (call : QC FA) (x1 : Int32) (x2 : Int32) (x3 : Int32) (x4 : Int32) (z : Nat → Int32) (f : Nat → FA) (F : Nat) : xnG call 86 (F + 10) 5 [some (vR 2), some (vI x1), some (vI x2), some (vI x3), some (vI x4)] [] (LW W z f) = xnG call 86 F 15 [some (vR 2), some (vI x1), some (vI x2), some (vI x3), some (vI x4)] [vI (x3 * ((x2 * 16) + x4)), vI x1, vR 4] (LW W z f) := rfl
set_option maxRecDepth 100000 in
theorem b86_7 (call : QC FA) (x y : Int32) (ls : List (Option PV)) (z : Nat → Int32) (f : Nat → FA) (F : Nat) : xnG call 86 (F + 1) 15 ls [vI y, vI x, vR 4] (LW W z f) = bif (Nat.beq 0 0 && pin x 144) then xnG call 86 F 16 ls [] (LW W z (uA f 4 (upd (f 4) (ix x) y))) else none := rfl
theorem vc86_0 (call : QC FA) (x1 : Int32) (x2 : Int32) (x3 : Int32) (x4 : Int32) (z : Nat → Int32) (f : Nat → FA) (res : Option PV × QH FA) (H : ((I x1 < 0 → res = (none, LW W z f)) ∧ (0 ≤ I x1 → ((144 ≤ I x1 → res = (none, LW W z f)) ∧ (I x1 < 144 → (pin x1 144 = true ∧ res = (none, LW W z (uA f 4 (upd (f 4) (ix x1) (x3 * ((x2 * 16) + x4))))))))))) : XC call (mP 86) 0 [some (vR 2), some (vI x1), some (vI x2), some (vI x3), some (vI x4)] [] (LW W z f) res := by
  refine xc_b (i' := 1) (ls' := [some (vR 2), some (vI x1), some (vI x2), some (vI x3), some (vI x4)]) (st' := [vI x1]) (L' := LW W z f) 1 (b86_1 call x1 x2 x3 x4 _) ?_
  refine xc_if (it := 16) (ie := 2) (ls' := [some (vR 2), some (vI x1), some (vI x2), some (vI x3), some (vI x4)]) (st' := []) (b86_2 call x1 _ _) (fun q1 => ?_) (fun q1 => ?_)
  · have H := H.1 (cI2t q1 rfl rfl)
    subst H
    exact xc_ret (b86_3 call _ _)
  · have H := H.2 (cI2f q1 rfl rfl)
    refine xc_b (i' := 4) (ls' := [some (vR 2), some (vI x1), some (vI x2), some (vI x3), some (vI x4)]) (st' := [vI 144, vI x1]) (L' := LW W z f) 2 (b86_4 call x1 x2 x3 x4 _) ?_
    refine xc_if (it := 16) (ie := 5) (ls' := [some (vR 2), some (vI x1), some (vI x2), some (vI x3), some (vI x4)]) (st' := []) (b86_5 call x1 144 _ _) (fun q2 => ?_) (fun q2 => ?_)
    · have H := H.1 (cI3t q2 rfl rfl)
      subst H
      exact xc_ret (b86_3 call _ _)
    · have H := H.2 (cI3f q2 rfl rfl)
      refine xc_b (i' := 15) (ls' := [some (vR 2), some (vI x1), some (vI x2), some (vI x3), some (vI x4)]) (st' := [vI (x3 * ((x2 * 16) + x4)), vI x1, vR 4]) (L' := LW W z f) 10 (b86_6 call x1 x2 x3 x4 z f) ?_
      obtain ⟨g1, H⟩ := H
      refine xc_g (i' := 16) (ls' := [some (vR 2), some (vI x1), some (vI x2), some (vI x3), some (vI x4)]) (st' := []) (L' := LW W z (uA f 4 (upd (f 4) (ix x1) (x3 * ((x2 * 16) + x4))))) (b86_7 call x1 (x3 * ((x2 * 16) + x4)) _ z f) (pinG g1) ?_
      subst H
      exact xc_ret (b86_3 call _ _)
set_option maxRecDepth 100000 in
theorem b89_1 (call : QC FA) (x1 : Int32) (L : QH FA) (F : Nat) : xnG call 89 (F + 1) 0 [some (vR 2), some (vI x1)] [] L = xnG call 89 F 1 [some (vR 2), some (vI x1)] [vI x1] L := rfl
set_option maxRecDepth 100000 in
theorem b89_2 (call : QC FA) (x : Int32) (ls : List (Option PV)) (L : QH FA) (F : Nat) : xnG call 89 (F + 1) 1 ls [vI x] L = bif pcmp 2 x 0 then xnG call 89 F 10 ls [] L else xnG call 89 F 2 ls [] L := rfl
set_option maxRecDepth 100000 in
theorem b89_3 (call : QC FA) (ls : List (Option PV)) (L : QH FA) (F : Nat) : xnG call 89 (F + 1) 10 ls [] L = some (none, L) := rfl
set_option maxRecDepth 100000 in
theorem b89_4 (call : QC FA) (x1 : Int32) (L : QH FA) (F : Nat) : xnG call 89 (F + 2) 2 [some (vR 2), some (vI x1)] [] L = xnG call 89 F 4 [some (vR 2), some (vI x1)] [vI 144, vI x1] L := rfl
set_option maxRecDepth 100000 in
theorem b89_5 (call : QC FA) (x y : Int32) (ls : List (Option PV)) (L : QH FA) (F : Nat) : xnG call 89 (F + 1) 4 ls [vI y, vI x] L = bif pcmp 3 x y then xnG call 89 F 10 ls [] L else xnG call 89 F 5 ls [] L := rfl
set_option maxRecDepth 100000 in
theorem b89_6 (call : QC FA) (x1 : Int32) (z : Nat → Int32) (f : Nat → FA) (F : Nat) : xnG call 89 (F + 4) 5 [some (vR 2), some (vI x1)] [] (LW W z f) = xnG call 89 F 9 [some (vR 2), some (vI x1)] [vI 0, vI x1, vR 4] (LW W z f) := rfl
set_option maxRecDepth 100000 in
theorem b89_7 (call : QC FA) (x y : Int32) (ls : List (Option PV)) (z : Nat → Int32) (f : Nat → FA) (F : Nat) : xnG call 89 (F + 1) 9 ls [vI y, vI x, vR 4] (LW W z f) = bif (Nat.beq 0 0 && pin x 144) then xnG call 89 F 10 ls [] (LW W z (uA f 4 (upd (f 4) (ix x) y))) else none := rfl
theorem vc89_0 (call : QC FA) (x1 : Int32) (z : Nat → Int32) (f : Nat → FA) (res : Option PV × QH FA) (H : ((I x1 < 0 → res = (none, LW W z f)) ∧ (0 ≤ I x1 → ((144 ≤ I x1 → res = (none, LW W z f)) ∧ (I x1 < 144 → (pin x1 144 = true ∧ res = (none, LW W z (uA f 4 (upd (f 4) (ix x1) 0))))))))) : XC call (mP 89) 0 [some (vR 2), some (vI x1)] [] (LW W z f) res := by
  refine xc_b (i' := 1) (ls' := [some (vR 2), some (vI x1)]) (st' := [vI x1]) (L' := LW W z f) 1 (b89_1 call x1 _) ?_
  refine xc_if (it := 10) (ie := 2) (ls' := [some (vR 2), some (vI x1)]) (st' := []) (b89_2 call x1 _ _) (fun q1 => ?_) (fun q1 => ?_)
  · have H := H.1 (cI2t q1 rfl rfl)
    subst H
    exact xc_ret (b89_3 call _ _)
  · have H := H.2 (cI2f q1 rfl rfl)
    refine xc_b (i' := 4) (ls' := [some (vR 2), some (vI x1)]) (st' := [vI 144, vI x1]) (L' := LW W z f) 2 (b89_4 call x1 _) ?_
    refine xc_if (it := 10) (ie := 5) (ls' := [some (vR 2), some (vI x1)]) (st' := []) (b89_5 call x1 144 _ _) (fun q2 => ?_) (fun q2 => ?_)
    · have H := H.1 (cI3t q2 rfl rfl)
      subst H
      exact xc_ret (b89_3 call _ _)
    · have H := H.2 (cI3f q2 rfl rfl)
      refine xc_b (i' := 9) (ls' := [some (vR 2), some (vI x1)]) (st' := [vI 0, vI x1, vR 4]) (L' := LW W z f) 4 (b89_6 call x1 z f) ?_
      obtain ⟨g1, H⟩ := H
      refine xc_g (i' := 10) (ls' := [some (vR 2), some (vI x1)]) (st' := []) (L' := LW W z (uA f 4 (upd (f 4) (ix x1) 0))) (b89_7 call x1 0 _ z f) (pinG g1) ?_
      subst H
      exact xc_ret (b89_3 call _ _)
set_option maxRecDepth 100000 in
theorem b91_1 (call : QC FA) (x1 : Int32) (L : QH FA) (F : Nat) : xnG call 91 (F + 2) 0 [some (vR 2), some (vI x1)] [] L = xnG call 91 F 2 [some (vR 2), some (vI x1)] [vI x1, vR 2] L := rfl
set_option maxRecDepth 100000 in
theorem b91_2 (call : QC FA) (a0 : Int32) (ls : List (Option PV)) (z : Nat → Int32) (f : Nat → FA) (F : Nat) : xnG call 91 (F + 1) 2 ls [vI a0, vR 2] (LW W z f) = cbd (call 6 [vR 2, vI a0] (LW W z f)) (fun r L' => xnG call 91 F 3 ls (r.toList ++ []) L') := pcY (ih := xnG call 91 F) (call := call) (a := 6) (b := 1) (v := 0) (t := 3) (x := 2) (ls := ls) (As := [vI a0]) (st' := []) (L := LW W z f) rfl rfl rfl
set_option maxRecDepth 100000 in
theorem b91_3 (call : QC FA) (x : Int32) (ls : List (Option PV)) (L : QH FA) (F : Nat) : xnG call 91 (F + 1) 3 ls [vI x] L = bif pcmp 0 x 0 then xnG call 91 F 19 ls [] L else xnG call 91 F 4 ls [] L := rfl
set_option maxRecDepth 100000 in
theorem b91_4 (call : QC FA) (ls : List (Option PV)) (L : QH FA) (F : Nat) : xnG call 91 (F + 1) 19 ls [] L = some (none, L) := rfl
set_option maxRecDepth 100000 in
theorem b91_5 (call : QC FA) (x1 : Int32) (L : QH FA) (F : Nat) : xnG call 91 (F + 2) 4 [some (vR 2), some (vI x1)] [] L = xnG call 91 F 6 [some (vR 2), some (vI x1)] [vI x1, vR 2] L := rfl
set_option maxRecDepth 100000 in
theorem b91_6 (call : QC FA) (a0 : Int32) (ls : List (Option PV)) (z : Nat → Int32) (f : Nat → FA) (F : Nat) : xnG call 91 (F + 1) 6 ls [vI a0, vR 2] (LW W z f) = cbd (call 15 [vR 2, vI a0] (LW W z f)) (fun r L' => xnG call 91 F 7 ls (r.toList ++ []) L') := pcY (ih := xnG call 91 F) (call := call) (a := 15) (b := 1) (v := 0) (t := 7) (x := 2) (ls := ls) (As := [vI a0]) (st' := []) (L := LW W z f) rfl rfl rfl
set_option maxRecDepth 100000 in
theorem b91_7 (call : QC FA) (x1 : Int32) (s0 : Int32) (L : QH FA) (F : Nat) : xnG call 91 (F + 1) 7 [some (vR 2), some (vI x1)] [vI s0] L = xnG call 91 F 8 [some (vR 2), some (vI x1)] [vI 1, vI s0] L := rfl
set_option maxRecDepth 100000 in
theorem b91_8 (call : QC FA) (x y : Int32) (ls : List (Option PV)) (L : QH FA) (F : Nat) : xnG call 91 (F + 1) 8 ls [vI y, vI x] L = bif pcmp 5 x y then xnG call 91 F 19 ls [] L else xnG call 91 F 9 ls [] L := rfl
set_option maxRecDepth 100000 in
theorem b91_9 (call : QC FA) (x1 : Int32) (z : Nat → Int32) (f : Nat → FA) (F : Nat) : xnG call 91 (F + 4) 9 [some (vR 2), some (vI x1)] [] (LW W z f) = xnG call 91 F 13 [some (vR 2), some (vI x1)] [vI x1, vR 4, vI x1, vR 4] (LW W z f) := rfl
set_option maxRecDepth 100000 in
theorem b91_10 (call : QC FA) (x : Int32) (s0 : Int32) (ls : List (Option PV)) (z : Nat → Int32) (f : Nat → FA) (F : Nat) : xnG call 91 (F + 1) 13 ls [vI x, vR 4, vI s0, vR 4] (LW W z f) = bif (Nat.beq 0 0 && pin x 144) then xnG call 91 F 14 ls [vI (f 4 (ix x)), vI s0, vR 4] (LW W z f) else none := rfl
set_option maxRecDepth 100000 in
theorem b91_11 (call : QC FA) (x1 : Int32) (s0 : Int32) (s1 : Int32) (L : QH FA) (F : Nat) : xnG call 91 (F + 2) 14 [some (vR 2), some (vI x1)] [vI s0, vI s1, vR 4] L = xnG call 91 F 16 [some (vR 2), some (vI x1)] [vI x1, vR 2, vI s0, vI s1, vR 4] L := rfl
set_option maxRecDepth 100000 in
theorem b91_12 (call : QC FA) (a0 : Int32) (s0 : Int32) (s1 : Int32) (ls : List (Option PV)) (z : Nat → Int32) (f : Nat → FA) (F : Nat) : xnG call 91 (F + 1) 16 ls [vI a0, vR 2, vI s0, vI s1, vR 4] (LW W z f) = cbd (call 7 [vR 2, vI a0] (LW W z f)) (fun r L' => xnG call 91 F 17 ls (r.toList ++ [vI s0, vI s1, vR 4]) L') := pcY (ih := xnG call 91 F) (call := call) (a := 7) (b := 1) (v := 0) (t := 17) (x := 2) (ls := ls) (As := [vI a0]) (st' := [vI s0, vI s1, vR 4]) (L := LW W z f) rfl rfl rfl
set_option maxRecDepth 100000 in
theorem b91_13 (call : QC FA) (x1 : Int32) (s0 : Int32) (s1 : Int32) (s2 : Int32) (L : QH FA) (F : Nat) : xnG call 91 (F + 1) 17 [some (vR 2), some (vI x1)] [vI s0, vI s1, vI s2, vR 4] L = xnG call 91 F 18 [some (vR 2), some (vI x1)] [vI (s1 - s0), vI s2, vR 4] L := rfl
set_option maxRecDepth 100000 in
theorem b91_14 (call : QC FA) (x y : Int32) (ls : List (Option PV)) (z : Nat → Int32) (f : Nat → FA) (F : Nat) : xnG call 91 (F + 1) 18 ls [vI y, vI x, vR 4] (LW W z f) = bif (Nat.beq 0 0 && pin x 144) then xnG call 91 F 19 ls [] (LW W z (uA f 4 (upd (f 4) (ix x) y))) else none := rfl
theorem vc91_0 (call : QC FA) (x1 : Int32) (z : Nat → Int32) (f : Nat → FA) (res : Option PV × QH FA) (H : (∃ (r1 : Int32) (z1 : Nat → Int32) (f1 : Nat → FA), call 6 [vR 2, vI x1] (LW W z f) = some (some (vI r1), LW W z1 f1) ∧ ((r1 = 0 → res = (none, LW W z1 f1)) ∧ (¬ r1 = 0 → (∃ (r2 : Int32) (z2 : Nat → Int32) (f2 : Nat → FA), call 15 [vR 2, vI x1] (LW W z1 f1) = some (some (vI r2), LW W z2 f2) ∧ ((I r2 ≤ 1 → res = (none, LW W z2 f2)) ∧ (1 < I r2 → (pin x1 144 = true ∧ (∃ (r3 : Int32) (z3 : Nat → Int32) (f3 : Nat → FA), call 7 [vR 2, vI x1] (LW W z2 f2) = some (some (vI r3), LW W z3 f3) ∧ (pin x1 144 = true ∧ res = (none, LW W z3 (uA f3 4 (upd (f3 4) (ix x1) ((f2 4 (ix x1)) - r3)))))))))))))) : XC call (mP 91) 0 [some (vR 2), some (vI x1)] [] (LW W z f) res := by
  refine xc_b (i' := 2) (ls' := [some (vR 2), some (vI x1)]) (st' := [vI x1, vR 2]) (L' := LW W z f) 2 (b91_1 call x1 _) ?_
  obtain ⟨r1, z1, f1, hc, H⟩ := H
  refine xc_call (t := 3) (ls' := [some (vR 2), some (vI x1)]) (st' := []) (b91_2 call x1 _ z f) hc ?_
  show XC call (mP 91) 3 [some (vR 2), some (vI x1)] [vI r1] (LW W z1 f1) res
  refine xc_if (it := 19) (ie := 4) (ls' := [some (vR 2), some (vI x1)]) (st' := []) (b91_3 call r1 _ _) (fun q1 => ?_) (fun q1 => ?_)
  · have H := H.1 (cI0t q1)
    subst H
    exact xc_ret (b91_4 call _ _)
  · have H := H.2 (cI0f q1)
    refine xc_b (i' := 6) (ls' := [some (vR 2), some (vI x1)]) (st' := [vI x1, vR 2]) (L' := LW W z1 f1) 2 (b91_5 call x1 _) ?_
    obtain ⟨r2, z2, f2, hc, H⟩ := H
    refine xc_call (t := 7) (ls' := [some (vR 2), some (vI x1)]) (st' := []) (b91_6 call x1 _ z1 f1) hc ?_
    show XC call (mP 91) 7 [some (vR 2), some (vI x1)] [vI r2] (LW W z2 f2) res
    refine xc_b (i' := 8) (ls' := [some (vR 2), some (vI x1)]) (st' := [vI 1, vI r2]) (L' := LW W z2 f2) 1 (b91_7 call x1 r2 _) ?_
    refine xc_if (it := 19) (ie := 9) (ls' := [some (vR 2), some (vI x1)]) (st' := []) (b91_8 call r2 1 _ _) (fun q2 => ?_) (fun q2 => ?_)
    · have H := H.1 (cI5t q2 rfl rfl)
      subst H
      exact xc_ret (b91_4 call _ _)
    · have H := H.2 (cI5f q2 rfl rfl)
      refine xc_b (i' := 13) (ls' := [some (vR 2), some (vI x1)]) (st' := [vI x1, vR 4, vI x1, vR 4]) (L' := LW W z2 f2) 4 (b91_9 call x1 z2 f2) ?_
      obtain ⟨g1, H⟩ := H
      refine xc_g (i' := 14) (ls' := [some (vR 2), some (vI x1)]) (st' := [vI (f2 4 (ix x1)), vI x1, vR 4]) (L' := LW W z2 f2) (b91_10 call x1 x1 _ z2 f2) (pinG g1) ?_
      refine xc_b (i' := 16) (ls' := [some (vR 2), some (vI x1)]) (st' := [vI x1, vR 2, vI (f2 4 (ix x1)), vI x1, vR 4]) (L' := LW W z2 f2) 2 (b91_11 call x1 (f2 4 (ix x1)) x1 _) ?_
      obtain ⟨r3, z3, f3, hc, H⟩ := H
      refine xc_call (t := 17) (ls' := [some (vR 2), some (vI x1)]) (st' := [vI (f2 4 (ix x1)), vI x1, vR 4]) (b91_12 call x1 (f2 4 (ix x1)) x1 _ z2 f2) hc ?_
      show XC call (mP 91) 17 [some (vR 2), some (vI x1)] [vI r3, vI (f2 4 (ix x1)), vI x1, vR 4] (LW W z3 f3) res
      refine xc_b (i' := 18) (ls' := [some (vR 2), some (vI x1)]) (st' := [vI ((f2 4 (ix x1)) - r3), vI x1, vR 4]) (L' := LW W z3 f3) 1 (b91_13 call x1 r3 (f2 4 (ix x1)) x1 _) ?_
      obtain ⟨g1, H⟩ := H
      refine xc_g (i' := 19) (ls' := [some (vR 2), some (vI x1)]) (st' := []) (L' := LW W z3 (uA f3 4 (upd (f3 4) (ix x1) ((f2 4 (ix x1)) - r3)))) (b91_14 call x1 ((f2 4 (ix x1)) - r3) _ z3 f3) (pinG g1) ?_
      subst H
      exact xc_ret (b91_4 call _ _)
set_option maxRecDepth 100000 in
theorem b88_1 (call : QC FA) (z : Nat → Int32) (f : Nat → FA) (F : Nat) : xnG call 88 (F + 3) 0 [some (vR 2)] [] (LW W z f) = xnG call 88 F 3 [some (vR 2)] [vI 0, vR 4] (LW W z f) := rfl
set_option maxRecDepth 100000 in
theorem b88_2 (call : QC FA) (a1 : Int32) (ls : List (Option PV)) (z : Nat → Int32) (f : Nat → FA) (F : Nat) : xnG call 88 (F + 1) 3 ls [vI a1, vR 4] (LW W z f) = cbd (call 2 [vR 4, vI a1] (LW W z f)) (fun r L' => xnG call 88 F 4 ls (r.toList ++ []) L') := pcZ (ih := xnG call 88 F) (call := call) (a := 2) (b := 2) (t := 4) (ls := ls) (As := [vR 4, vI a1]) (st' := []) (L := LW W z f) rfl rfl
set_option maxRecDepth 100000 in
theorem b88_3 (call : QC FA) (ls : List (Option PV)) (L : QH FA) (F : Nat) : xnG call 88 (F + 1) 4 ls [] L = some (none, L) := rfl
theorem vc88_0 (call : QC FA) (z : Nat → Int32) (f : Nat → FA) (res : Option PV × QH FA) (H : (∃ (z1 : Nat → Int32) (f1 : Nat → FA), call 2 [vR 4, vI 0] (LW W z f) = some (none, LW W z1 f1) ∧ res = (none, LW W z1 f1))) : XC call (mP 88) 0 [some (vR 2)] [] (LW W z f) res := by
  refine xc_b (i' := 3) (ls' := [some (vR 2)]) (st' := [vI 0, vR 4]) (L' := LW W z f) 3 (b88_1 call z f) ?_
  obtain ⟨z1, f1, hc, H⟩ := H
  refine xc_call (t := 4) (ls' := [some (vR 2)]) (st' := []) (b88_2 call 0 _ z f) hc ?_
  show XC call (mP 88) 4 [some (vR 2)] [] (LW W z1 f1) res
  subst H
  exact xc_ret (b88_3 call _ _)
set_option maxRecDepth 100000 in
theorem b82_1 (call : QC FA) (o1 : Option PV) (o2 : Option PV) (L : QH FA) (F : Nat) : xnG call 82 (F + 4) 0 [some (vR 2), o1, o2] [] L = xnG call 82 F 4 [some (vR 2), some (vI 0), some (vI 0)] [] L := rfl
theorem vc82_0 (call : QC FA) (o1 : Option PV) (o2 : Option PV) (z : Nat → Int32) (f : Nat → FA) (res : Option PV × QH FA) (H : XC call (mP 82) 4 [some (vR 2), some (vI 0), some (vI 0)] [] (LW W z f) res) : XC call (mP 82) 0 [some (vR 2), o1, o2] [] (LW W z f) res := by
  refine xc_b (i' := 4) (ls' := [some (vR 2), some (vI 0), some (vI 0)]) (st' := []) (L' := LW W z f) 4 (b82_1 call o1 o2 _) ?_
  exact H
set_option maxRecDepth 100000 in
theorem bc4_82_1 (call : QC FA) (x1 : Int32) (x2 : Int32) (L : QH FA) (F : Nat) : xnG call 82 (F + 2) 4 [some (vR 2), some (vI x1), some (vI x2)] [] L = xnG call 82 F 6 [some (vR 2), some (vI x1), some (vI x2)] [vI 144, vI x2] L := rfl
set_option maxRecDepth 100000 in
theorem bc4_82_2 (call : QC FA) (x y : Int32) (ls : List (Option PV)) (L : QH FA) (F : Nat) : xnG call 82 (F + 1) 6 ls [vI y, vI x] L = bif pcmp 3 x y then xnG call 82 F 20 ls [] L else xnG call 82 F 7 ls [] L := rfl
set_option maxRecDepth 100000 in
theorem bc4_82_3 (call : QC FA) (x1 : Int32) (x2 : Int32) (L : QH FA) (F : Nat) : xnG call 82 (F + 1) 20 [some (vR 2), some (vI x1), some (vI x2)] [] L = xnG call 82 F 21 [some (vR 2), some (vI x1), some (vI x2)] [vI x1] L := rfl
set_option maxRecDepth 100000 in
theorem bc4_82_4 (call : QC FA) (x : Int32) (ls : List (Option PV)) (L : QH FA) (F : Nat) : xnG call 82 (F + 1) 21 ls [vI x] L = some (some (vI x), L) := rfl
set_option maxRecDepth 100000 in
theorem bc4_82_5 (call : QC FA) (x1 : Int32) (x2 : Int32) (z : Nat → Int32) (f : Nat → FA) (F : Nat) : xnG call 82 (F + 4) 7 [some (vR 2), some (vI x1), some (vI x2)] [] (LW W z f) = xnG call 82 F 11 [some (vR 2), some (vI x1), some (vI x2)] [vI x2, vR 4, vI x1] (LW W z f) := rfl
set_option maxRecDepth 100000 in
theorem bc4_82_6 (call : QC FA) (x : Int32) (s0 : Int32) (ls : List (Option PV)) (z : Nat → Int32) (f : Nat → FA) (F : Nat) : xnG call 82 (F + 1) 11 ls [vI x, vR 4, vI s0] (LW W z f) = bif (Nat.beq 0 0 && pin x 144) then xnG call 82 F 12 ls [vI (f 4 (ix x)), vI s0] (LW W z f) else none := rfl
set_option maxRecDepth 100000 in
theorem bc4_82_7 (call : QC FA) (x : Int32) (s0 : Int32) (ls : List (Option PV)) (L : QH FA) (F : Nat) : xnG call 82 (F + 1) 12 ls [vI x, vI s0] L = bif pcmp 1 x 0 then xnG call 82 F 15 ls [vI s0] L else xnG call 82 F 13 ls [vI s0] L := rfl
set_option maxRecDepth 100000 in
theorem bc4_82_8 (call : QC FA) (x1 : Int32) (x2 : Int32) (s0 : Int32) (L : QH FA) (F : Nat) : xnG call 82 (F + 3) 15 [some (vR 2), some (vI x1), some (vI x2)] [vI s0] L = xnG call 82 F 18 [some (vR 2), some (vI (s0 + 1)), some (vI x2)] [] L := rfl
set_option maxRecDepth 100000 in
theorem bc4_82_9 (call : QC FA) (x1 : Int32) (x2 : Int32) (L : QH FA) (F : Nat) : xnG call 82 (F + 1) 18 [some (vR 2), some (vI x1), some (vI x2)] [] L = xnG call 82 F 19 [some (vR 2), some (vI x1), some (vI (x2 + 1))] [] L := rfl
set_option maxRecDepth 100000 in
theorem bc4_82_10 (call : QC FA) (x1 : Int32) (x2 : Int32) (L : QH FA) (F : Nat) : xnG call 82 (F + 1) 19 [some (vR 2), some (vI x1), some (vI x2)] [] L = xnG call 82 F 4 [some (vR 2), some (vI x1), some (vI x2)] [] L := rfl
set_option maxRecDepth 100000 in
theorem bc4_82_11 (call : QC FA) (x1 : Int32) (x2 : Int32) (s0 : Int32) (L : QH FA) (F : Nat) : xnG call 82 (F + 4) 13 [some (vR 2), some (vI x1), some (vI x2)] [vI s0] L = xnG call 82 F 18 [some (vR 2), some (vI (s0 + 0)), some (vI x2)] [] L := rfl
theorem vcc4_82_4 (call : QC FA) (x1 : Int32) (x2 : Int32) (z : Nat → Int32) (f : Nat → FA) (res : Option PV × QH FA) (H : ((144 ≤ I x2 → res = (some (vI x1), LW W z f)) ∧ (I x2 < 144 → (pin x2 144 = true ∧ ((¬ f 4 (ix x2) = 0 → XC call (mP 82) 4 [some (vR 2), some (vI (x1 + 1)), some (vI (x2 + 1))] [] (LW W z f) res) ∧ (f 4 (ix x2) = 0 → XC call (mP 82) 4 [some (vR 2), some (vI (x1 + 0)), some (vI (x2 + 1))] [] (LW W z f) res)))))) : XC call (mP 82) 4 [some (vR 2), some (vI x1), some (vI x2)] [] (LW W z f) res := by
  refine xc_b (i' := 6) (ls' := [some (vR 2), some (vI x1), some (vI x2)]) (st' := [vI 144, vI x2]) (L' := LW W z f) 2 (bc4_82_1 call x1 x2 _) ?_
  refine xc_if (it := 20) (ie := 7) (ls' := [some (vR 2), some (vI x1), some (vI x2)]) (st' := []) (bc4_82_2 call x2 144 _ _) (fun q1 => ?_) (fun q1 => ?_)
  · have H := H.1 (cI3t q1 rfl rfl)
    refine xc_b (i' := 21) (ls' := [some (vR 2), some (vI x1), some (vI x2)]) (st' := [vI x1]) (L' := LW W z f) 1 (bc4_82_3 call x1 x2 _) ?_
    subst H
    exact xc_ret (bc4_82_4 call _ _ _)
  · have H := H.2 (cI3f q1 rfl rfl)
    refine xc_b (i' := 11) (ls' := [some (vR 2), some (vI x1), some (vI x2)]) (st' := [vI x2, vR 4, vI x1]) (L' := LW W z f) 4 (bc4_82_5 call x1 x2 z f) ?_
    obtain ⟨g1, H⟩ := H
    refine xc_g (i' := 12) (ls' := [some (vR 2), some (vI x1), some (vI x2)]) (st' := [vI (f 4 (ix x2)), vI x1]) (L' := LW W z f) (bc4_82_6 call x2 x1 _ z f) (pinG g1) ?_
    refine xc_if (it := 15) (ie := 13) (ls' := [some (vR 2), some (vI x1), some (vI x2)]) (st' := [vI x1]) (bc4_82_7 call (f 4 (ix x2)) x1 _ _) (fun q2 => ?_) (fun q2 => ?_)
    · have H := H.1 (cI1t q2)
      refine xc_b (i' := 18) (ls' := [some (vR 2), some (vI (x1 + 1)), some (vI x2)]) (st' := []) (L' := LW W z f) 3 (bc4_82_8 call x1 x2 x1 _) ?_
      refine xc_b (i' := 19) (ls' := [some (vR 2), some (vI (x1 + 1)), some (vI (x2 + 1))]) (st' := []) (L' := LW W z f) 1 (bc4_82_9 call (x1 + 1) x2 _) ?_
      refine xc_b (i' := 4) (ls' := [some (vR 2), some (vI (x1 + 1)), some (vI (x2 + 1))]) (st' := []) (L' := LW W z f) 1 (bc4_82_10 call (x1 + 1) (x2 + 1) _) ?_
      exact H
    · have H := H.2 (cI1f q2)
      refine xc_b (i' := 18) (ls' := [some (vR 2), some (vI (x1 + 0)), some (vI x2)]) (st' := []) (L' := LW W z f) 4 (bc4_82_11 call x1 x2 x1 _) ?_
      refine xc_b (i' := 19) (ls' := [some (vR 2), some (vI (x1 + 0)), some (vI (x2 + 1))]) (st' := []) (L' := LW W z f) 1 (bc4_82_9 call (x1 + 0) x2 _) ?_
      refine xc_b (i' := 4) (ls' := [some (vR 2), some (vI (x1 + 0)), some (vI (x2 + 1))]) (st' := []) (L' := LW W z f) 1 (bc4_82_10 call (x1 + 0) (x2 + 1) _) ?_
      exact H
set_option maxRecDepth 100000 in
theorem b16_1 (call : QC FA) (x1 : Int32) (o2 : Option PV) (o3 : Option PV) (L : QH FA) (F : Nat) : xnG call 16 (F + 2) 0 [some (vR 2), some (vI x1), o2, o3] [] L = xnG call 16 F 2 [some (vR 2), some (vI x1), o2, o3] [vI 12, vI x1] L := rfl
set_option maxRecDepth 100000 in
theorem b16_2 (call : QC FA) (x y : Int32) (ls : List (Option PV)) (L : QH FA) (F : Nat) : xnG call 16 (F + 1) 2 ls [vI y, vI x] L = bif pcmp 1 y 0 then xnG call 16 F 3 ls [vI (x - x / y * y)] L else none := rfl
set_option maxRecDepth 100000 in
theorem b16_3 (call : QC FA) (x1 : Int32) (o2 : Option PV) (o3 : Option PV) (s0 : Int32) (L : QH FA) (F : Nat) : xnG call 16 (F + 5) 3 [some (vR 2), some (vI x1), o2, o3] [vI s0] L = xnG call 16 F 8 [some (vR 2), some (vI x1), some (vI s0), o3] [vI (x1 + 12), vR 2] L := rfl
set_option maxRecDepth 100000 in
theorem b16_4 (call : QC FA) (a0 : Int32) (ls : List (Option PV)) (z : Nat → Int32) (f : Nat → FA) (F : Nat) : xnG call 16 (F + 1) 8 ls [vI a0, vR 2] (LW W z f) = cbd (call 6 [vR 2, vI a0] (LW W z f)) (fun r L' => xnG call 16 F 9 ls (r.toList ++ []) L') := pcY (ih := xnG call 16 F) (call := call) (a := 6) (b := 1) (v := 0) (t := 9) (x := 2) (ls := ls) (As := [vI a0]) (st' := []) (L := LW W z f) rfl rfl rfl
set_option maxRecDepth 100000 in
theorem b16_5 (call : QC FA) (x : Int32) (ls : List (Option PV)) (L : QH FA) (F : Nat) : xnG call 16 (F + 1) 9 ls [vI x] L = bif pcmp 0 x 0 then xnG call 16 F 12 ls [] L else xnG call 16 F 10 ls [] L := rfl
set_option maxRecDepth 100000 in
theorem b16_6 (call : QC FA) (x1 : Int32) (x2 : Int32) (o3 : Option PV) (L : QH FA) (F : Nat) : xnG call 16 (F + 7) 12 [some (vR 2), some (vI x1), some (vI x2), o3] [] L = xnG call 16 F 19 [some (vR 2), some (vI x1), some (vI x2), some (vI 0)] [vI (x1 - 12), vR 2, vI 0] L := rfl
set_option maxRecDepth 100000 in
theorem b16_7 (call : QC FA) (a0 : Int32) (s0 : Int32) (ls : List (Option PV)) (z : Nat → Int32) (f : Nat → FA) (F : Nat) : xnG call 16 (F + 1) 19 ls [vI a0, vR 2, vI s0] (LW W z f) = cbd (call 6 [vR 2, vI a0] (LW W z f)) (fun r L' => xnG call 16 F 20 ls (r.toList ++ [vI s0]) L') := pcY (ih := xnG call 16 F) (call := call) (a := 6) (b := 1) (v := 0) (t := 20) (x := 2) (ls := ls) (As := [vI a0]) (st' := [vI s0]) (L := LW W z f) rfl rfl rfl
set_option maxRecDepth 100000 in
theorem b16_8 (call : QC FA) (x : Int32) (s0 : Int32) (ls : List (Option PV)) (L : QH FA) (F : Nat) : xnG call 16 (F + 1) 20 ls [vI x, vI s0] L = bif pcmp 0 x 0 then xnG call 16 F 23 ls [vI s0] L else xnG call 16 F 21 ls [vI s0] L := rfl
set_option maxRecDepth 100000 in
theorem b16_9 (call : QC FA) (x1 : Int32) (x2 : Int32) (x3 : Int32) (s0 : Int32) (L : QH FA) (F : Nat) : xnG call 16 (F + 5) 23 [some (vR 2), some (vI x1), some (vI x2), some (vI x3)] [vI s0] L = xnG call 16 F 28 [some (vR 2), some (vI x1), some (vI x2), some (vI (s0 + 0))] [vI x2, vI (s0 + 0)] L := rfl
set_option maxRecDepth 100000 in
theorem b16_10 (call : QC FA) (x : Int32) (s0 : Int32) (ls : List (Option PV)) (L : QH FA) (F : Nat) : xnG call 16 (F + 1) 28 ls [vI x, vI s0] L = bif pcmp 5 x 0 then xnG call 16 F 37 ls [vI s0] L else xnG call 16 F 29 ls [vI s0] L := rfl
set_option maxRecDepth 100000 in
theorem b16_11 (call : QC FA) (x1 : Int32) (x2 : Int32) (x3 : Int32) (s0 : Int32) (L : QH FA) (F : Nat) : xnG call 16 (F + 6) 37 [some (vR 2), some (vI x1), some (vI x2), some (vI x3)] [vI s0] L = xnG call 16 F 43 [some (vR 2), some (vI x1), some (vI x2), some (vI (s0 + 0))] [vI 11, vI x2, vI (s0 + 0)] L := rfl
set_option maxRecDepth 100000 in
theorem b16_12 (call : QC FA) (x y : Int32) (s0 : Int32) (ls : List (Option PV)) (L : QH FA) (F : Nat) : xnG call 16 (F + 1) 43 ls [vI y, vI x, vI s0] L = bif pcmp 3 x y then xnG call 16 F 52 ls [vI s0] L else xnG call 16 F 44 ls [vI s0] L := rfl
set_option maxRecDepth 100000 in
theorem b16_13 (call : QC FA) (x1 : Int32) (x2 : Int32) (x3 : Int32) (s0 : Int32) (L : QH FA) (F : Nat) : xnG call 16 (F + 4) 52 [some (vR 2), some (vI x1), some (vI x2), some (vI x3)] [vI s0] L = xnG call 16 F 56 [some (vR 2), some (vI x1), some (vI x2), some (vI (s0 + 0))] [vI (s0 + 0)] L := rfl
set_option maxRecDepth 100000 in
theorem b16_14 (call : QC FA) (x : Int32) (ls : List (Option PV)) (L : QH FA) (F : Nat) : xnG call 16 (F + 1) 56 ls [vI x] L = some (some (vI x), L) := rfl
set_option maxRecDepth 100000 in
theorem b16_15 (call : QC FA) (x1 : Int32) (x2 : Int32) (x3 : Int32) (s0 : Int32) (L : QH FA) (F : Nat) : xnG call 16 (F + 4) 44 [some (vR 2), some (vI x1), some (vI x2), some (vI x3)] [vI s0] L = xnG call 16 F 48 [some (vR 2), some (vI x1), some (vI x2), some (vI x3)] [vI (x1 + 1), vR 2, vI s0] L := rfl
set_option maxRecDepth 100000 in
theorem b16_16 (call : QC FA) (a0 : Int32) (s0 : Int32) (ls : List (Option PV)) (z : Nat → Int32) (f : Nat → FA) (F : Nat) : xnG call 16 (F + 1) 48 ls [vI a0, vR 2, vI s0] (LW W z f) = cbd (call 6 [vR 2, vI a0] (LW W z f)) (fun r L' => xnG call 16 F 49 ls (r.toList ++ [vI s0]) L') := pcY (ih := xnG call 16 F) (call := call) (a := 6) (b := 1) (v := 0) (t := 49) (x := 2) (ls := ls) (As := [vI a0]) (st' := [vI s0]) (L := LW W z f) rfl rfl rfl
set_option maxRecDepth 100000 in
theorem b16_17 (call : QC FA) (x : Int32) (s0 : Int32) (ls : List (Option PV)) (L : QH FA) (F : Nat) : xnG call 16 (F + 1) 49 ls [vI x, vI s0] L = bif pcmp 0 x 0 then xnG call 16 F 52 ls [vI s0] L else xnG call 16 F 50 ls [vI s0] L := rfl
set_option maxRecDepth 100000 in
theorem b16_18 (call : QC FA) (x1 : Int32) (x2 : Int32) (x3 : Int32) (s0 : Int32) (L : QH FA) (F : Nat) : xnG call 16 (F + 5) 50 [some (vR 2), some (vI x1), some (vI x2), some (vI x3)] [vI s0] L = xnG call 16 F 56 [some (vR 2), some (vI x1), some (vI x2), some (vI (s0 + 1))] [vI (s0 + 1)] L := rfl
set_option maxRecDepth 100000 in
theorem b16_19 (call : QC FA) (x1 : Int32) (x2 : Int32) (x3 : Int32) (s0 : Int32) (L : QH FA) (F : Nat) : xnG call 16 (F + 4) 29 [some (vR 2), some (vI x1), some (vI x2), some (vI x3)] [vI s0] L = xnG call 16 F 33 [some (vR 2), some (vI x1), some (vI x2), some (vI x3)] [vI (x1 - 1), vR 2, vI s0] L := rfl
set_option maxRecDepth 100000 in
theorem b16_20 (call : QC FA) (a0 : Int32) (s0 : Int32) (ls : List (Option PV)) (z : Nat → Int32) (f : Nat → FA) (F : Nat) : xnG call 16 (F + 1) 33 ls [vI a0, vR 2, vI s0] (LW W z f) = cbd (call 6 [vR 2, vI a0] (LW W z f)) (fun r L' => xnG call 16 F 34 ls (r.toList ++ [vI s0]) L') := pcY (ih := xnG call 16 F) (call := call) (a := 6) (b := 1) (v := 0) (t := 34) (x := 2) (ls := ls) (As := [vI a0]) (st' := [vI s0]) (L := LW W z f) rfl rfl rfl
set_option maxRecDepth 100000 in
theorem b16_21 (call : QC FA) (x : Int32) (s0 : Int32) (ls : List (Option PV)) (L : QH FA) (F : Nat) : xnG call 16 (F + 1) 34 ls [vI x, vI s0] L = bif pcmp 0 x 0 then xnG call 16 F 37 ls [vI s0] L else xnG call 16 F 35 ls [vI s0] L := rfl
set_option maxRecDepth 100000 in
theorem b16_22 (call : QC FA) (x1 : Int32) (x2 : Int32) (x3 : Int32) (s0 : Int32) (L : QH FA) (F : Nat) : xnG call 16 (F + 7) 35 [some (vR 2), some (vI x1), some (vI x2), some (vI x3)] [vI s0] L = xnG call 16 F 43 [some (vR 2), some (vI x1), some (vI x2), some (vI (s0 + 1))] [vI 11, vI x2, vI (s0 + 1)] L := rfl
set_option maxRecDepth 100000 in
theorem b16_23 (call : QC FA) (x1 : Int32) (x2 : Int32) (x3 : Int32) (s0 : Int32) (L : QH FA) (F : Nat) : xnG call 16 (F + 6) 21 [some (vR 2), some (vI x1), some (vI x2), some (vI x3)] [vI s0] L = xnG call 16 F 28 [some (vR 2), some (vI x1), some (vI x2), some (vI (s0 + 1))] [vI x2, vI (s0 + 1)] L := rfl
set_option maxRecDepth 100000 in
theorem b16_24 (call : QC FA) (x1 : Int32) (x2 : Int32) (o3 : Option PV) (L : QH FA) (F : Nat) : xnG call 16 (F + 8) 10 [some (vR 2), some (vI x1), some (vI x2), o3] [] L = xnG call 16 F 19 [some (vR 2), some (vI x1), some (vI x2), some (vI 1)] [vI (x1 - 12), vR 2, vI 1] L := rfl
theorem vc16_0 (call : QC FA) (x1 : Int32) (o2 : Option PV) (o3 : Option PV) (z : Nat → Int32) (f : Nat → FA) (res : Option PV × QH FA) (H : (¬ (12 : Int32) = 0 ∧ (∃ (r1 : Int32) (z1 : Nat → Int32) (f1 : Nat → FA), call 6 [vR 2, vI (x1 + 12)] (LW W z f) = some (some (vI r1), LW W z1 f1) ∧ ((r1 = 0 → (∃ (r2 : Int32) (z2 : Nat → Int32) (f2 : Nat → FA), call 6 [vR 2, vI (x1 - 12)] (LW W z1 f1) = some (some (vI r2), LW W z2 f2) ∧ ((r2 = 0 → ((I (x1 - x1 / 12 * 12) ≤ 0 → ((11 ≤ I (x1 - x1 / 12 * 12) → res = (some (vI (((0 + 0) + 0) + 0)), LW W z2 f2)) ∧ (I (x1 - x1 / 12 * 12) < 11 → (∃ (r3 : Int32) (z3 : Nat → Int32) (f3 : Nat → FA), call 6 [vR 2, vI (x1 + 1)] (LW W z2 f2) = some (some (vI r3), LW W z3 f3) ∧ ((r3 = 0 → res = (some (vI (((0 + 0) + 0) + 0)), LW W z3 f3)) ∧ (¬ r3 = 0 → res = (some (vI (((0 + 0) + 0) + 1)), LW W z3 f3))))))) ∧ (0 < I (x1 - x1 / 12 * 12) → (∃ (r4 : Int32) (z4 : Nat → Int32) (f4 : Nat → FA), call 6 [vR 2, vI (x1 - 1)] (LW W z2 f2) = some (some (vI r4), LW W z4 f4) ∧ ((r4 = 0 → ((11 ≤ I (x1 - x1 / 12 * 12) → res = (some (vI (((0 + 0) + 0) + 0)), LW W z4 f4)) ∧ (I (x1 - x1 / 12 * 12) < 11 → (∃ (r5 : Int32) (z5 : Nat → Int32) (f5 : Nat → FA), call 6 [vR 2, vI (x1 + 1)] (LW W z4 f4) = some (some (vI r5), LW W z5 f5) ∧ ((r5 = 0 → res = (some (vI (((0 + 0) + 0) + 0)), LW W z5 f5)) ∧ (¬ r5 = 0 → res = (some (vI (((0 + 0) + 0) + 1)), LW W z5 f5))))))) ∧ (¬ r4 = 0 → ((11 ≤ I (x1 - x1 / 12 * 12) → res = (some (vI (((0 + 0) + 1) + 0)), LW W z4 f4)) ∧ (I (x1 - x1 / 12 * 12) < 11 → (∃ (r6 : Int32) (z6 : Nat → Int32) (f6 : Nat → FA), call 6 [vR 2, vI (x1 + 1)] (LW W z4 f4) = some (some (vI r6), LW W z6 f6) ∧ ((r6 = 0 → res = (some (vI (((0 + 0) + 1) + 0)), LW W z6 f6)) ∧ (¬ r6 = 0 → res = (some (vI (((0 + 0) + 1) + 1)), LW W z6 f6)))))))))))) ∧ (¬ r2 = 0 → ((I (x1 - x1 / 12 * 12) ≤ 0 → ((11 ≤ I (x1 - x1 / 12 * 12) → res = (some (vI (((0 + 1) + 0) + 0)), LW W z2 f2)) ∧ (I (x1 - x1 / 12 * 12) < 11 → (∃ (r7 : Int32) (z7 : Nat → Int32) (f7 : Nat → FA), call 6 [vR 2, vI (x1 + 1)] (LW W z2 f2) = some (some (vI r7), LW W z7 f7) ∧ ((r7 = 0 → res = (some (vI (((0 + 1) + 0) + 0)), LW W z7 f7)) ∧ (¬ r7 = 0 → res = (some (vI (((0 + 1) + 0) + 1)), LW W z7 f7))))))) ∧ (0 < I (x1 - x1 / 12 * 12) → (∃ (r8 : Int32) (z8 : Nat → Int32) (f8 : Nat → FA), call 6 [vR 2, vI (x1 - 1)] (LW W z2 f2) = some (some (vI r8), LW W z8 f8) ∧ ((r8 = 0 → ((11 ≤ I (x1 - x1 / 12 * 12) → res = (some (vI (((0 + 1) + 0) + 0)), LW W z8 f8)) ∧ (I (x1 - x1 / 12 * 12) < 11 → (∃ (r9 : Int32) (z9 : Nat → Int32) (f9 : Nat → FA), call 6 [vR 2, vI (x1 + 1)] (LW W z8 f8) = some (some (vI r9), LW W z9 f9) ∧ ((r9 = 0 → res = (some (vI (((0 + 1) + 0) + 0)), LW W z9 f9)) ∧ (¬ r9 = 0 → res = (some (vI (((0 + 1) + 0) + 1)), LW W z9 f9))))))) ∧ (¬ r8 = 0 → ((11 ≤ I (x1 - x1 / 12 * 12) → res = (some (vI (((0 + 1) + 1) + 0)), LW W z8 f8)) ∧ (I (x1 - x1 / 12 * 12) < 11 → (∃ (r10 : Int32) (z10 : Nat → Int32) (f10 : Nat → FA), call 6 [vR 2, vI (x1 + 1)] (LW W z8 f8) = some (some (vI r10), LW W z10 f10) ∧ ((r10 = 0 → res = (some (vI (((0 + 1) + 1) + 0)), LW W z10 f10)) ∧ (¬ r10 = 0 → res = (some (vI (((0 + 1) + 1) + 1)), LW W z10 f10))))))))))))))) ∧ (¬ r1 = 0 → (∃ (r11 : Int32) (z11 : Nat → Int32) (f11 : Nat → FA), call 6 [vR 2, vI (x1 - 12)] (LW W z1 f1) = some (some (vI r11), LW W z11 f11) ∧ ((r11 = 0 → ((I (x1 - x1 / 12 * 12) ≤ 0 → ((11 ≤ I (x1 - x1 / 12 * 12) → res = (some (vI (((1 + 0) + 0) + 0)), LW W z11 f11)) ∧ (I (x1 - x1 / 12 * 12) < 11 → (∃ (r12 : Int32) (z12 : Nat → Int32) (f12 : Nat → FA), call 6 [vR 2, vI (x1 + 1)] (LW W z11 f11) = some (some (vI r12), LW W z12 f12) ∧ ((r12 = 0 → res = (some (vI (((1 + 0) + 0) + 0)), LW W z12 f12)) ∧ (¬ r12 = 0 → res = (some (vI (((1 + 0) + 0) + 1)), LW W z12 f12))))))) ∧ (0 < I (x1 - x1 / 12 * 12) → (∃ (r13 : Int32) (z13 : Nat → Int32) (f13 : Nat → FA), call 6 [vR 2, vI (x1 - 1)] (LW W z11 f11) = some (some (vI r13), LW W z13 f13) ∧ ((r13 = 0 → ((11 ≤ I (x1 - x1 / 12 * 12) → res = (some (vI (((1 + 0) + 0) + 0)), LW W z13 f13)) ∧ (I (x1 - x1 / 12 * 12) < 11 → (∃ (r14 : Int32) (z14 : Nat → Int32) (f14 : Nat → FA), call 6 [vR 2, vI (x1 + 1)] (LW W z13 f13) = some (some (vI r14), LW W z14 f14) ∧ ((r14 = 0 → res = (some (vI (((1 + 0) + 0) + 0)), LW W z14 f14)) ∧ (¬ r14 = 0 → res = (some (vI (((1 + 0) + 0) + 1)), LW W z14 f14))))))) ∧ (¬ r13 = 0 → ((11 ≤ I (x1 - x1 / 12 * 12) → res = (some (vI (((1 + 0) + 1) + 0)), LW W z13 f13)) ∧ (I (x1 - x1 / 12 * 12) < 11 → (∃ (r15 : Int32) (z15 : Nat → Int32) (f15 : Nat → FA), call 6 [vR 2, vI (x1 + 1)] (LW W z13 f13) = some (some (vI r15), LW W z15 f15) ∧ ((r15 = 0 → res = (some (vI (((1 + 0) + 1) + 0)), LW W z15 f15)) ∧ (¬ r15 = 0 → res = (some (vI (((1 + 0) + 1) + 1)), LW W z15 f15)))))))))))) ∧ (¬ r11 = 0 → ((I (x1 - x1 / 12 * 12) ≤ 0 → ((11 ≤ I (x1 - x1 / 12 * 12) → res = (some (vI (((1 + 1) + 0) + 0)), LW W z11 f11)) ∧ (I (x1 - x1 / 12 * 12) < 11 → (∃ (r16 : Int32) (z16 : Nat → Int32) (f16 : Nat → FA), call 6 [vR 2, vI (x1 + 1)] (LW W z11 f11) = some (some (vI r16), LW W z16 f16) ∧ ((r16 = 0 → res = (some (vI (((1 + 1) + 0) + 0)), LW W z16 f16)) ∧ (¬ r16 = 0 → res = (some (vI (((1 + 1) + 0) + 1)), LW W z16 f16))))))) ∧ (0 < I (x1 - x1 / 12 * 12) → (∃ (r17 : Int32) (z17 : Nat → Int32) (f17 : Nat → FA), call 6 [vR 2, vI (x1 - 1)] (LW W z11 f11) = some (some (vI r17), LW W z17 f17) ∧ ((r17 = 0 → ((11 ≤ I (x1 - x1 / 12 * 12) → res = (some (vI (((1 + 1) + 0) + 0)), LW W z17 f17)) ∧ (I (x1 - x1 / 12 * 12) < 11 → (∃ (r18 : Int32) (z18 : Nat → Int32) (f18 : Nat → FA), call 6 [vR 2, vI (x1 + 1)] (LW W z17 f17) = some (some (vI r18), LW W z18 f18) ∧ ((r18 = 0 → res = (some (vI (((1 + 1) + 0) + 0)), LW W z18 f18)) ∧ (¬ r18 = 0 → res = (some (vI (((1 + 1) + 0) + 1)), LW W z18 f18))))))) ∧ (¬ r17 = 0 → ((11 ≤ I (x1 - x1 / 12 * 12) → res = (some (vI (((1 + 1) + 1) + 0)), LW W z17 f17)) ∧ (I (x1 - x1 / 12 * 12) < 11 → (∃ (r19 : Int32) (z19 : Nat → Int32) (f19 : Nat → FA), call 6 [vR 2, vI (x1 + 1)] (LW W z17 f17) = some (some (vI r19), LW W z19 f19) ∧ ((r19 = 0 → res = (some (vI (((1 + 1) + 1) + 0)), LW W z19 f19)) ∧ (¬ r19 = 0 → res = (some (vI (((1 + 1) + 1) + 1)), LW W z19 f19))))))))))))))))))) : XC call (mP 16) 0 [some (vR 2), some (vI x1), o2, o3] [] (LW W z f) res := by
  refine xc_b (i' := 2) (ls' := [some (vR 2), some (vI x1), o2, o3]) (st' := [vI 12, vI x1]) (L' := LW W z f) 2 (b16_1 call x1 o2 o3 _) ?_
  obtain ⟨g1, H⟩ := H
  refine xc_g (i' := 3) (ls' := [some (vR 2), some (vI x1), o2, o3]) (st' := [vI (x1 - x1 / 12 * 12)]) (L' := LW W z f) (b16_2 call x1 12 _ _) (cmp_ne.trans (decide_eq_true g1)) ?_
  refine xc_b (i' := 8) (ls' := [some (vR 2), some (vI x1), some (vI (x1 - x1 / 12 * 12)), o3]) (st' := [vI (x1 + 12), vR 2]) (L' := LW W z f) 5 (b16_3 call x1 o2 o3 (x1 - x1 / 12 * 12) _) ?_
  obtain ⟨r1, z1, f1, hc, H⟩ := H
  refine xc_call (t := 9) (ls' := [some (vR 2), some (vI x1), some (vI (x1 - x1 / 12 * 12)), o3]) (st' := []) (b16_4 call (x1 + 12) _ z f) hc ?_
  show XC call (mP 16) 9 [some (vR 2), some (vI x1), some (vI (x1 - x1 / 12 * 12)), o3] [vI r1] (LW W z1 f1) res
  refine xc_if (it := 12) (ie := 10) (ls' := [some (vR 2), some (vI x1), some (vI (x1 - x1 / 12 * 12)), o3]) (st' := []) (b16_5 call r1 _ _) (fun q1 => ?_) (fun q1 => ?_)
  · have H := H.1 (cI0t q1)
    refine xc_b (i' := 19) (ls' := [some (vR 2), some (vI x1), some (vI (x1 - x1 / 12 * 12)), some (vI 0)]) (st' := [vI (x1 - 12), vR 2, vI 0]) (L' := LW W z1 f1) 7 (b16_6 call x1 (x1 - x1 / 12 * 12) o3 _) ?_
    obtain ⟨r2, z2, f2, hc, H⟩ := H
    refine xc_call (t := 20) (ls' := [some (vR 2), some (vI x1), some (vI (x1 - x1 / 12 * 12)), some (vI 0)]) (st' := [vI 0]) (b16_7 call (x1 - 12) 0 _ z1 f1) hc ?_
    show XC call (mP 16) 20 [some (vR 2), some (vI x1), some (vI (x1 - x1 / 12 * 12)), some (vI 0)] [vI r2, vI 0] (LW W z2 f2) res
    refine xc_if (it := 23) (ie := 21) (ls' := [some (vR 2), some (vI x1), some (vI (x1 - x1 / 12 * 12)), some (vI 0)]) (st' := [vI 0]) (b16_8 call r2 0 _ _) (fun q2 => ?_) (fun q2 => ?_)
    · have H := H.1 (cI0t q2)
      refine xc_b (i' := 28) (ls' := [some (vR 2), some (vI x1), some (vI (x1 - x1 / 12 * 12)), some (vI (0 + 0))]) (st' := [vI (x1 - x1 / 12 * 12), vI (0 + 0)]) (L' := LW W z2 f2) 5 (b16_9 call x1 (x1 - x1 / 12 * 12) 0 0 _) ?_
      refine xc_if (it := 37) (ie := 29) (ls' := [some (vR 2), some (vI x1), some (vI (x1 - x1 / 12 * 12)), some (vI (0 + 0))]) (st' := [vI (0 + 0)]) (b16_10 call (x1 - x1 / 12 * 12) (0 + 0) _ _) (fun q3 => ?_) (fun q3 => ?_)
      · have H := H.1 (cI5t q3 rfl rfl)
        refine xc_b (i' := 43) (ls' := [some (vR 2), some (vI x1), some (vI (x1 - x1 / 12 * 12)), some (vI ((0 + 0) + 0))]) (st' := [vI 11, vI (x1 - x1 / 12 * 12), vI ((0 + 0) + 0)]) (L' := LW W z2 f2) 6 (b16_11 call x1 (x1 - x1 / 12 * 12) (0 + 0) (0 + 0) _) ?_
        refine xc_if (it := 52) (ie := 44) (ls' := [some (vR 2), some (vI x1), some (vI (x1 - x1 / 12 * 12)), some (vI ((0 + 0) + 0))]) (st' := [vI ((0 + 0) + 0)]) (b16_12 call (x1 - x1 / 12 * 12) 11 ((0 + 0) + 0) _ _) (fun q4 => ?_) (fun q4 => ?_)
        · have H := H.1 (cI3t q4 rfl rfl)
          refine xc_b (i' := 56) (ls' := [some (vR 2), some (vI x1), some (vI (x1 - x1 / 12 * 12)), some (vI (((0 + 0) + 0) + 0))]) (st' := [vI (((0 + 0) + 0) + 0)]) (L' := LW W z2 f2) 4 (b16_13 call x1 (x1 - x1 / 12 * 12) ((0 + 0) + 0) ((0 + 0) + 0) _) ?_
          subst H
          exact xc_ret (b16_14 call _ _ _)
        · have H := H.2 (cI3f q4 rfl rfl)
          refine xc_b (i' := 48) (ls' := [some (vR 2), some (vI x1), some (vI (x1 - x1 / 12 * 12)), some (vI ((0 + 0) + 0))]) (st' := [vI (x1 + 1), vR 2, vI ((0 + 0) + 0)]) (L' := LW W z2 f2) 4 (b16_15 call x1 (x1 - x1 / 12 * 12) ((0 + 0) + 0) ((0 + 0) + 0) _) ?_
          obtain ⟨r3, z3, f3, hc, H⟩ := H
          refine xc_call (t := 49) (ls' := [some (vR 2), some (vI x1), some (vI (x1 - x1 / 12 * 12)), some (vI ((0 + 0) + 0))]) (st' := [vI ((0 + 0) + 0)]) (b16_16 call (x1 + 1) ((0 + 0) + 0) _ z2 f2) hc ?_
          show XC call (mP 16) 49 [some (vR 2), some (vI x1), some (vI (x1 - x1 / 12 * 12)), some (vI ((0 + 0) + 0))] [vI r3, vI ((0 + 0) + 0)] (LW W z3 f3) res
          refine xc_if (it := 52) (ie := 50) (ls' := [some (vR 2), some (vI x1), some (vI (x1 - x1 / 12 * 12)), some (vI ((0 + 0) + 0))]) (st' := [vI ((0 + 0) + 0)]) (b16_17 call r3 ((0 + 0) + 0) _ _) (fun q5 => ?_) (fun q5 => ?_)
          · have H := H.1 (cI0t q5)
            refine xc_b (i' := 56) (ls' := [some (vR 2), some (vI x1), some (vI (x1 - x1 / 12 * 12)), some (vI (((0 + 0) + 0) + 0))]) (st' := [vI (((0 + 0) + 0) + 0)]) (L' := LW W z3 f3) 4 (b16_13 call x1 (x1 - x1 / 12 * 12) ((0 + 0) + 0) ((0 + 0) + 0) _) ?_
            subst H
            exact xc_ret (b16_14 call _ _ _)
          · have H := H.2 (cI0f q5)
            refine xc_b (i' := 56) (ls' := [some (vR 2), some (vI x1), some (vI (x1 - x1 / 12 * 12)), some (vI (((0 + 0) + 0) + 1))]) (st' := [vI (((0 + 0) + 0) + 1)]) (L' := LW W z3 f3) 5 (b16_18 call x1 (x1 - x1 / 12 * 12) ((0 + 0) + 0) ((0 + 0) + 0) _) ?_
            subst H
            exact xc_ret (b16_14 call _ _ _)
      · have H := H.2 (cI5f q3 rfl rfl)
        refine xc_b (i' := 33) (ls' := [some (vR 2), some (vI x1), some (vI (x1 - x1 / 12 * 12)), some (vI (0 + 0))]) (st' := [vI (x1 - 1), vR 2, vI (0 + 0)]) (L' := LW W z2 f2) 4 (b16_19 call x1 (x1 - x1 / 12 * 12) (0 + 0) (0 + 0) _) ?_
        obtain ⟨r4, z4, f4, hc, H⟩ := H
        refine xc_call (t := 34) (ls' := [some (vR 2), some (vI x1), some (vI (x1 - x1 / 12 * 12)), some (vI (0 + 0))]) (st' := [vI (0 + 0)]) (b16_20 call (x1 - 1) (0 + 0) _ z2 f2) hc ?_
        show XC call (mP 16) 34 [some (vR 2), some (vI x1), some (vI (x1 - x1 / 12 * 12)), some (vI (0 + 0))] [vI r4, vI (0 + 0)] (LW W z4 f4) res
        refine xc_if (it := 37) (ie := 35) (ls' := [some (vR 2), some (vI x1), some (vI (x1 - x1 / 12 * 12)), some (vI (0 + 0))]) (st' := [vI (0 + 0)]) (b16_21 call r4 (0 + 0) _ _) (fun q6 => ?_) (fun q6 => ?_)
        · have H := H.1 (cI0t q6)
          refine xc_b (i' := 43) (ls' := [some (vR 2), some (vI x1), some (vI (x1 - x1 / 12 * 12)), some (vI ((0 + 0) + 0))]) (st' := [vI 11, vI (x1 - x1 / 12 * 12), vI ((0 + 0) + 0)]) (L' := LW W z4 f4) 6 (b16_11 call x1 (x1 - x1 / 12 * 12) (0 + 0) (0 + 0) _) ?_
          refine xc_if (it := 52) (ie := 44) (ls' := [some (vR 2), some (vI x1), some (vI (x1 - x1 / 12 * 12)), some (vI ((0 + 0) + 0))]) (st' := [vI ((0 + 0) + 0)]) (b16_12 call (x1 - x1 / 12 * 12) 11 ((0 + 0) + 0) _ _) (fun q7 => ?_) (fun q7 => ?_)
          · have H := H.1 (cI3t q7 rfl rfl)
            refine xc_b (i' := 56) (ls' := [some (vR 2), some (vI x1), some (vI (x1 - x1 / 12 * 12)), some (vI (((0 + 0) + 0) + 0))]) (st' := [vI (((0 + 0) + 0) + 0)]) (L' := LW W z4 f4) 4 (b16_13 call x1 (x1 - x1 / 12 * 12) ((0 + 0) + 0) ((0 + 0) + 0) _) ?_
            subst H
            exact xc_ret (b16_14 call _ _ _)
          · have H := H.2 (cI3f q7 rfl rfl)
            refine xc_b (i' := 48) (ls' := [some (vR 2), some (vI x1), some (vI (x1 - x1 / 12 * 12)), some (vI ((0 + 0) + 0))]) (st' := [vI (x1 + 1), vR 2, vI ((0 + 0) + 0)]) (L' := LW W z4 f4) 4 (b16_15 call x1 (x1 - x1 / 12 * 12) ((0 + 0) + 0) ((0 + 0) + 0) _) ?_
            obtain ⟨r5, z5, f5, hc, H⟩ := H
            refine xc_call (t := 49) (ls' := [some (vR 2), some (vI x1), some (vI (x1 - x1 / 12 * 12)), some (vI ((0 + 0) + 0))]) (st' := [vI ((0 + 0) + 0)]) (b16_16 call (x1 + 1) ((0 + 0) + 0) _ z4 f4) hc ?_
            show XC call (mP 16) 49 [some (vR 2), some (vI x1), some (vI (x1 - x1 / 12 * 12)), some (vI ((0 + 0) + 0))] [vI r5, vI ((0 + 0) + 0)] (LW W z5 f5) res
            refine xc_if (it := 52) (ie := 50) (ls' := [some (vR 2), some (vI x1), some (vI (x1 - x1 / 12 * 12)), some (vI ((0 + 0) + 0))]) (st' := [vI ((0 + 0) + 0)]) (b16_17 call r5 ((0 + 0) + 0) _ _) (fun q8 => ?_) (fun q8 => ?_)
            · have H := H.1 (cI0t q8)
              refine xc_b (i' := 56) (ls' := [some (vR 2), some (vI x1), some (vI (x1 - x1 / 12 * 12)), some (vI (((0 + 0) + 0) + 0))]) (st' := [vI (((0 + 0) + 0) + 0)]) (L' := LW W z5 f5) 4 (b16_13 call x1 (x1 - x1 / 12 * 12) ((0 + 0) + 0) ((0 + 0) + 0) _) ?_
              subst H
              exact xc_ret (b16_14 call _ _ _)
            · have H := H.2 (cI0f q8)
              refine xc_b (i' := 56) (ls' := [some (vR 2), some (vI x1), some (vI (x1 - x1 / 12 * 12)), some (vI (((0 + 0) + 0) + 1))]) (st' := [vI (((0 + 0) + 0) + 1)]) (L' := LW W z5 f5) 5 (b16_18 call x1 (x1 - x1 / 12 * 12) ((0 + 0) + 0) ((0 + 0) + 0) _) ?_
              subst H
              exact xc_ret (b16_14 call _ _ _)
        · have H := H.2 (cI0f q6)
          refine xc_b (i' := 43) (ls' := [some (vR 2), some (vI x1), some (vI (x1 - x1 / 12 * 12)), some (vI ((0 + 0) + 1))]) (st' := [vI 11, vI (x1 - x1 / 12 * 12), vI ((0 + 0) + 1)]) (L' := LW W z4 f4) 7 (b16_22 call x1 (x1 - x1 / 12 * 12) (0 + 0) (0 + 0) _) ?_
          refine xc_if (it := 52) (ie := 44) (ls' := [some (vR 2), some (vI x1), some (vI (x1 - x1 / 12 * 12)), some (vI ((0 + 0) + 1))]) (st' := [vI ((0 + 0) + 1)]) (b16_12 call (x1 - x1 / 12 * 12) 11 ((0 + 0) + 1) _ _) (fun q9 => ?_) (fun q9 => ?_)
          · have H := H.1 (cI3t q9 rfl rfl)
            refine xc_b (i' := 56) (ls' := [some (vR 2), some (vI x1), some (vI (x1 - x1 / 12 * 12)), some (vI (((0 + 0) + 1) + 0))]) (st' := [vI (((0 + 0) + 1) + 0)]) (L' := LW W z4 f4) 4 (b16_13 call x1 (x1 - x1 / 12 * 12) ((0 + 0) + 1) ((0 + 0) + 1) _) ?_
            subst H
            exact xc_ret (b16_14 call _ _ _)
          · have H := H.2 (cI3f q9 rfl rfl)
            refine xc_b (i' := 48) (ls' := [some (vR 2), some (vI x1), some (vI (x1 - x1 / 12 * 12)), some (vI ((0 + 0) + 1))]) (st' := [vI (x1 + 1), vR 2, vI ((0 + 0) + 1)]) (L' := LW W z4 f4) 4 (b16_15 call x1 (x1 - x1 / 12 * 12) ((0 + 0) + 1) ((0 + 0) + 1) _) ?_
            obtain ⟨r6, z6, f6, hc, H⟩ := H
            refine xc_call (t := 49) (ls' := [some (vR 2), some (vI x1), some (vI (x1 - x1 / 12 * 12)), some (vI ((0 + 0) + 1))]) (st' := [vI ((0 + 0) + 1)]) (b16_16 call (x1 + 1) ((0 + 0) + 1) _ z4 f4) hc ?_
            show XC call (mP 16) 49 [some (vR 2), some (vI x1), some (vI (x1 - x1 / 12 * 12)), some (vI ((0 + 0) + 1))] [vI r6, vI ((0 + 0) + 1)] (LW W z6 f6) res
            refine xc_if (it := 52) (ie := 50) (ls' := [some (vR 2), some (vI x1), some (vI (x1 - x1 / 12 * 12)), some (vI ((0 + 0) + 1))]) (st' := [vI ((0 + 0) + 1)]) (b16_17 call r6 ((0 + 0) + 1) _ _) (fun q10 => ?_) (fun q10 => ?_)
            · have H := H.1 (cI0t q10)
              refine xc_b (i' := 56) (ls' := [some (vR 2), some (vI x1), some (vI (x1 - x1 / 12 * 12)), some (vI (((0 + 0) + 1) + 0))]) (st' := [vI (((0 + 0) + 1) + 0)]) (L' := LW W z6 f6) 4 (b16_13 call x1 (x1 - x1 / 12 * 12) ((0 + 0) + 1) ((0 + 0) + 1) _) ?_
              subst H
              exact xc_ret (b16_14 call _ _ _)
            · have H := H.2 (cI0f q10)
              refine xc_b (i' := 56) (ls' := [some (vR 2), some (vI x1), some (vI (x1 - x1 / 12 * 12)), some (vI (((0 + 0) + 1) + 1))]) (st' := [vI (((0 + 0) + 1) + 1)]) (L' := LW W z6 f6) 5 (b16_18 call x1 (x1 - x1 / 12 * 12) ((0 + 0) + 1) ((0 + 0) + 1) _) ?_
              subst H
              exact xc_ret (b16_14 call _ _ _)
    · have H := H.2 (cI0f q2)
      refine xc_b (i' := 28) (ls' := [some (vR 2), some (vI x1), some (vI (x1 - x1 / 12 * 12)), some (vI (0 + 1))]) (st' := [vI (x1 - x1 / 12 * 12), vI (0 + 1)]) (L' := LW W z2 f2) 6 (b16_23 call x1 (x1 - x1 / 12 * 12) 0 0 _) ?_
      refine xc_if (it := 37) (ie := 29) (ls' := [some (vR 2), some (vI x1), some (vI (x1 - x1 / 12 * 12)), some (vI (0 + 1))]) (st' := [vI (0 + 1)]) (b16_10 call (x1 - x1 / 12 * 12) (0 + 1) _ _) (fun q11 => ?_) (fun q11 => ?_)
      · have H := H.1 (cI5t q11 rfl rfl)
        refine xc_b (i' := 43) (ls' := [some (vR 2), some (vI x1), some (vI (x1 - x1 / 12 * 12)), some (vI ((0 + 1) + 0))]) (st' := [vI 11, vI (x1 - x1 / 12 * 12), vI ((0 + 1) + 0)]) (L' := LW W z2 f2) 6 (b16_11 call x1 (x1 - x1 / 12 * 12) (0 + 1) (0 + 1) _) ?_
        refine xc_if (it := 52) (ie := 44) (ls' := [some (vR 2), some (vI x1), some (vI (x1 - x1 / 12 * 12)), some (vI ((0 + 1) + 0))]) (st' := [vI ((0 + 1) + 0)]) (b16_12 call (x1 - x1 / 12 * 12) 11 ((0 + 1) + 0) _ _) (fun q12 => ?_) (fun q12 => ?_)
        · have H := H.1 (cI3t q12 rfl rfl)
          refine xc_b (i' := 56) (ls' := [some (vR 2), some (vI x1), some (vI (x1 - x1 / 12 * 12)), some (vI (((0 + 1) + 0) + 0))]) (st' := [vI (((0 + 1) + 0) + 0)]) (L' := LW W z2 f2) 4 (b16_13 call x1 (x1 - x1 / 12 * 12) ((0 + 1) + 0) ((0 + 1) + 0) _) ?_
          subst H
          exact xc_ret (b16_14 call _ _ _)
        · have H := H.2 (cI3f q12 rfl rfl)
          refine xc_b (i' := 48) (ls' := [some (vR 2), some (vI x1), some (vI (x1 - x1 / 12 * 12)), some (vI ((0 + 1) + 0))]) (st' := [vI (x1 + 1), vR 2, vI ((0 + 1) + 0)]) (L' := LW W z2 f2) 4 (b16_15 call x1 (x1 - x1 / 12 * 12) ((0 + 1) + 0) ((0 + 1) + 0) _) ?_
          obtain ⟨r7, z7, f7, hc, H⟩ := H
          refine xc_call (t := 49) (ls' := [some (vR 2), some (vI x1), some (vI (x1 - x1 / 12 * 12)), some (vI ((0 + 1) + 0))]) (st' := [vI ((0 + 1) + 0)]) (b16_16 call (x1 + 1) ((0 + 1) + 0) _ z2 f2) hc ?_
          show XC call (mP 16) 49 [some (vR 2), some (vI x1), some (vI (x1 - x1 / 12 * 12)), some (vI ((0 + 1) + 0))] [vI r7, vI ((0 + 1) + 0)] (LW W z7 f7) res
          refine xc_if (it := 52) (ie := 50) (ls' := [some (vR 2), some (vI x1), some (vI (x1 - x1 / 12 * 12)), some (vI ((0 + 1) + 0))]) (st' := [vI ((0 + 1) + 0)]) (b16_17 call r7 ((0 + 1) + 0) _ _) (fun q13 => ?_) (fun q13 => ?_)
          · have H := H.1 (cI0t q13)
            refine xc_b (i' := 56) (ls' := [some (vR 2), some (vI x1), some (vI (x1 - x1 / 12 * 12)), some (vI (((0 + 1) + 0) + 0))]) (st' := [vI (((0 + 1) + 0) + 0)]) (L' := LW W z7 f7) 4 (b16_13 call x1 (x1 - x1 / 12 * 12) ((0 + 1) + 0) ((0 + 1) + 0) _) ?_
            subst H
            exact xc_ret (b16_14 call _ _ _)
          · have H := H.2 (cI0f q13)
            refine xc_b (i' := 56) (ls' := [some (vR 2), some (vI x1), some (vI (x1 - x1 / 12 * 12)), some (vI (((0 + 1) + 0) + 1))]) (st' := [vI (((0 + 1) + 0) + 1)]) (L' := LW W z7 f7) 5 (b16_18 call x1 (x1 - x1 / 12 * 12) ((0 + 1) + 0) ((0 + 1) + 0) _) ?_
            subst H
            exact xc_ret (b16_14 call _ _ _)
      · have H := H.2 (cI5f q11 rfl rfl)
        refine xc_b (i' := 33) (ls' := [some (vR 2), some (vI x1), some (vI (x1 - x1 / 12 * 12)), some (vI (0 + 1))]) (st' := [vI (x1 - 1), vR 2, vI (0 + 1)]) (L' := LW W z2 f2) 4 (b16_19 call x1 (x1 - x1 / 12 * 12) (0 + 1) (0 + 1) _) ?_
        obtain ⟨r8, z8, f8, hc, H⟩ := H
        refine xc_call (t := 34) (ls' := [some (vR 2), some (vI x1), some (vI (x1 - x1 / 12 * 12)), some (vI (0 + 1))]) (st' := [vI (0 + 1)]) (b16_20 call (x1 - 1) (0 + 1) _ z2 f2) hc ?_
        show XC call (mP 16) 34 [some (vR 2), some (vI x1), some (vI (x1 - x1 / 12 * 12)), some (vI (0 + 1))] [vI r8, vI (0 + 1)] (LW W z8 f8) res
        refine xc_if (it := 37) (ie := 35) (ls' := [some (vR 2), some (vI x1), some (vI (x1 - x1 / 12 * 12)), some (vI (0 + 1))]) (st' := [vI (0 + 1)]) (b16_21 call r8 (0 + 1) _ _) (fun q14 => ?_) (fun q14 => ?_)
        · have H := H.1 (cI0t q14)
          refine xc_b (i' := 43) (ls' := [some (vR 2), some (vI x1), some (vI (x1 - x1 / 12 * 12)), some (vI ((0 + 1) + 0))]) (st' := [vI 11, vI (x1 - x1 / 12 * 12), vI ((0 + 1) + 0)]) (L' := LW W z8 f8) 6 (b16_11 call x1 (x1 - x1 / 12 * 12) (0 + 1) (0 + 1) _) ?_
          refine xc_if (it := 52) (ie := 44) (ls' := [some (vR 2), some (vI x1), some (vI (x1 - x1 / 12 * 12)), some (vI ((0 + 1) + 0))]) (st' := [vI ((0 + 1) + 0)]) (b16_12 call (x1 - x1 / 12 * 12) 11 ((0 + 1) + 0) _ _) (fun q15 => ?_) (fun q15 => ?_)
          · have H := H.1 (cI3t q15 rfl rfl)
            refine xc_b (i' := 56) (ls' := [some (vR 2), some (vI x1), some (vI (x1 - x1 / 12 * 12)), some (vI (((0 + 1) + 0) + 0))]) (st' := [vI (((0 + 1) + 0) + 0)]) (L' := LW W z8 f8) 4 (b16_13 call x1 (x1 - x1 / 12 * 12) ((0 + 1) + 0) ((0 + 1) + 0) _) ?_
            subst H
            exact xc_ret (b16_14 call _ _ _)
          · have H := H.2 (cI3f q15 rfl rfl)
            refine xc_b (i' := 48) (ls' := [some (vR 2), some (vI x1), some (vI (x1 - x1 / 12 * 12)), some (vI ((0 + 1) + 0))]) (st' := [vI (x1 + 1), vR 2, vI ((0 + 1) + 0)]) (L' := LW W z8 f8) 4 (b16_15 call x1 (x1 - x1 / 12 * 12) ((0 + 1) + 0) ((0 + 1) + 0) _) ?_
            obtain ⟨r9, z9, f9, hc, H⟩ := H
            refine xc_call (t := 49) (ls' := [some (vR 2), some (vI x1), some (vI (x1 - x1 / 12 * 12)), some (vI ((0 + 1) + 0))]) (st' := [vI ((0 + 1) + 0)]) (b16_16 call (x1 + 1) ((0 + 1) + 0) _ z8 f8) hc ?_
            show XC call (mP 16) 49 [some (vR 2), some (vI x1), some (vI (x1 - x1 / 12 * 12)), some (vI ((0 + 1) + 0))] [vI r9, vI ((0 + 1) + 0)] (LW W z9 f9) res
            refine xc_if (it := 52) (ie := 50) (ls' := [some (vR 2), some (vI x1), some (vI (x1 - x1 / 12 * 12)), some (vI ((0 + 1) + 0))]) (st' := [vI ((0 + 1) + 0)]) (b16_17 call r9 ((0 + 1) + 0) _ _) (fun q16 => ?_) (fun q16 => ?_)
            · have H := H.1 (cI0t q16)
              refine xc_b (i' := 56) (ls' := [some (vR 2), some (vI x1), some (vI (x1 - x1 / 12 * 12)), some (vI (((0 + 1) + 0) + 0))]) (st' := [vI (((0 + 1) + 0) + 0)]) (L' := LW W z9 f9) 4 (b16_13 call x1 (x1 - x1 / 12 * 12) ((0 + 1) + 0) ((0 + 1) + 0) _) ?_
              subst H
              exact xc_ret (b16_14 call _ _ _)
            · have H := H.2 (cI0f q16)
              refine xc_b (i' := 56) (ls' := [some (vR 2), some (vI x1), some (vI (x1 - x1 / 12 * 12)), some (vI (((0 + 1) + 0) + 1))]) (st' := [vI (((0 + 1) + 0) + 1)]) (L' := LW W z9 f9) 5 (b16_18 call x1 (x1 - x1 / 12 * 12) ((0 + 1) + 0) ((0 + 1) + 0) _) ?_
              subst H
              exact xc_ret (b16_14 call _ _ _)
        · have H := H.2 (cI0f q14)
          refine xc_b (i' := 43) (ls' := [some (vR 2), some (vI x1), some (vI (x1 - x1 / 12 * 12)), some (vI ((0 + 1) + 1))]) (st' := [vI 11, vI (x1 - x1 / 12 * 12), vI ((0 + 1) + 1)]) (L' := LW W z8 f8) 7 (b16_22 call x1 (x1 - x1 / 12 * 12) (0 + 1) (0 + 1) _) ?_
          refine xc_if (it := 52) (ie := 44) (ls' := [some (vR 2), some (vI x1), some (vI (x1 - x1 / 12 * 12)), some (vI ((0 + 1) + 1))]) (st' := [vI ((0 + 1) + 1)]) (b16_12 call (x1 - x1 / 12 * 12) 11 ((0 + 1) + 1) _ _) (fun q17 => ?_) (fun q17 => ?_)
          · have H := H.1 (cI3t q17 rfl rfl)
            refine xc_b (i' := 56) (ls' := [some (vR 2), some (vI x1), some (vI (x1 - x1 / 12 * 12)), some (vI (((0 + 1) + 1) + 0))]) (st' := [vI (((0 + 1) + 1) + 0)]) (L' := LW W z8 f8) 4 (b16_13 call x1 (x1 - x1 / 12 * 12) ((0 + 1) + 1) ((0 + 1) + 1) _) ?_
            subst H
            exact xc_ret (b16_14 call _ _ _)
          · have H := H.2 (cI3f q17 rfl rfl)
            refine xc_b (i' := 48) (ls' := [some (vR 2), some (vI x1), some (vI (x1 - x1 / 12 * 12)), some (vI ((0 + 1) + 1))]) (st' := [vI (x1 + 1), vR 2, vI ((0 + 1) + 1)]) (L' := LW W z8 f8) 4 (b16_15 call x1 (x1 - x1 / 12 * 12) ((0 + 1) + 1) ((0 + 1) + 1) _) ?_
            obtain ⟨r10, z10, f10, hc, H⟩ := H
            refine xc_call (t := 49) (ls' := [some (vR 2), some (vI x1), some (vI (x1 - x1 / 12 * 12)), some (vI ((0 + 1) + 1))]) (st' := [vI ((0 + 1) + 1)]) (b16_16 call (x1 + 1) ((0 + 1) + 1) _ z8 f8) hc ?_
            show XC call (mP 16) 49 [some (vR 2), some (vI x1), some (vI (x1 - x1 / 12 * 12)), some (vI ((0 + 1) + 1))] [vI r10, vI ((0 + 1) + 1)] (LW W z10 f10) res
            refine xc_if (it := 52) (ie := 50) (ls' := [some (vR 2), some (vI x1), some (vI (x1 - x1 / 12 * 12)), some (vI ((0 + 1) + 1))]) (st' := [vI ((0 + 1) + 1)]) (b16_17 call r10 ((0 + 1) + 1) _ _) (fun q18 => ?_) (fun q18 => ?_)
            · have H := H.1 (cI0t q18)
              refine xc_b (i' := 56) (ls' := [some (vR 2), some (vI x1), some (vI (x1 - x1 / 12 * 12)), some (vI (((0 + 1) + 1) + 0))]) (st' := [vI (((0 + 1) + 1) + 0)]) (L' := LW W z10 f10) 4 (b16_13 call x1 (x1 - x1 / 12 * 12) ((0 + 1) + 1) ((0 + 1) + 1) _) ?_
              subst H
              exact xc_ret (b16_14 call _ _ _)
            · have H := H.2 (cI0f q18)
              refine xc_b (i' := 56) (ls' := [some (vR 2), some (vI x1), some (vI (x1 - x1 / 12 * 12)), some (vI (((0 + 1) + 1) + 1))]) (st' := [vI (((0 + 1) + 1) + 1)]) (L' := LW W z10 f10) 5 (b16_18 call x1 (x1 - x1 / 12 * 12) ((0 + 1) + 1) ((0 + 1) + 1) _) ?_
              subst H
              exact xc_ret (b16_14 call _ _ _)
  · have H := H.2 (cI0f q1)
    refine xc_b (i' := 19) (ls' := [some (vR 2), some (vI x1), some (vI (x1 - x1 / 12 * 12)), some (vI 1)]) (st' := [vI (x1 - 12), vR 2, vI 1]) (L' := LW W z1 f1) 8 (b16_24 call x1 (x1 - x1 / 12 * 12) o3 _) ?_
    obtain ⟨r11, z11, f11, hc, H⟩ := H
    refine xc_call (t := 20) (ls' := [some (vR 2), some (vI x1), some (vI (x1 - x1 / 12 * 12)), some (vI 1)]) (st' := [vI 1]) (b16_7 call (x1 - 12) 1 _ z1 f1) hc ?_
    show XC call (mP 16) 20 [some (vR 2), some (vI x1), some (vI (x1 - x1 / 12 * 12)), some (vI 1)] [vI r11, vI 1] (LW W z11 f11) res
    refine xc_if (it := 23) (ie := 21) (ls' := [some (vR 2), some (vI x1), some (vI (x1 - x1 / 12 * 12)), some (vI 1)]) (st' := [vI 1]) (b16_8 call r11 1 _ _) (fun q19 => ?_) (fun q19 => ?_)
    · have H := H.1 (cI0t q19)
      refine xc_b (i' := 28) (ls' := [some (vR 2), some (vI x1), some (vI (x1 - x1 / 12 * 12)), some (vI (1 + 0))]) (st' := [vI (x1 - x1 / 12 * 12), vI (1 + 0)]) (L' := LW W z11 f11) 5 (b16_9 call x1 (x1 - x1 / 12 * 12) 1 1 _) ?_
      refine xc_if (it := 37) (ie := 29) (ls' := [some (vR 2), some (vI x1), some (vI (x1 - x1 / 12 * 12)), some (vI (1 + 0))]) (st' := [vI (1 + 0)]) (b16_10 call (x1 - x1 / 12 * 12) (1 + 0) _ _) (fun q20 => ?_) (fun q20 => ?_)
      · have H := H.1 (cI5t q20 rfl rfl)
        refine xc_b (i' := 43) (ls' := [some (vR 2), some (vI x1), some (vI (x1 - x1 / 12 * 12)), some (vI ((1 + 0) + 0))]) (st' := [vI 11, vI (x1 - x1 / 12 * 12), vI ((1 + 0) + 0)]) (L' := LW W z11 f11) 6 (b16_11 call x1 (x1 - x1 / 12 * 12) (1 + 0) (1 + 0) _) ?_
        refine xc_if (it := 52) (ie := 44) (ls' := [some (vR 2), some (vI x1), some (vI (x1 - x1 / 12 * 12)), some (vI ((1 + 0) + 0))]) (st' := [vI ((1 + 0) + 0)]) (b16_12 call (x1 - x1 / 12 * 12) 11 ((1 + 0) + 0) _ _) (fun q21 => ?_) (fun q21 => ?_)
        · have H := H.1 (cI3t q21 rfl rfl)
          refine xc_b (i' := 56) (ls' := [some (vR 2), some (vI x1), some (vI (x1 - x1 / 12 * 12)), some (vI (((1 + 0) + 0) + 0))]) (st' := [vI (((1 + 0) + 0) + 0)]) (L' := LW W z11 f11) 4 (b16_13 call x1 (x1 - x1 / 12 * 12) ((1 + 0) + 0) ((1 + 0) + 0) _) ?_
          subst H
          exact xc_ret (b16_14 call _ _ _)
        · have H := H.2 (cI3f q21 rfl rfl)
          refine xc_b (i' := 48) (ls' := [some (vR 2), some (vI x1), some (vI (x1 - x1 / 12 * 12)), some (vI ((1 + 0) + 0))]) (st' := [vI (x1 + 1), vR 2, vI ((1 + 0) + 0)]) (L' := LW W z11 f11) 4 (b16_15 call x1 (x1 - x1 / 12 * 12) ((1 + 0) + 0) ((1 + 0) + 0) _) ?_
          obtain ⟨r12, z12, f12, hc, H⟩ := H
          refine xc_call (t := 49) (ls' := [some (vR 2), some (vI x1), some (vI (x1 - x1 / 12 * 12)), some (vI ((1 + 0) + 0))]) (st' := [vI ((1 + 0) + 0)]) (b16_16 call (x1 + 1) ((1 + 0) + 0) _ z11 f11) hc ?_
          show XC call (mP 16) 49 [some (vR 2), some (vI x1), some (vI (x1 - x1 / 12 * 12)), some (vI ((1 + 0) + 0))] [vI r12, vI ((1 + 0) + 0)] (LW W z12 f12) res
          refine xc_if (it := 52) (ie := 50) (ls' := [some (vR 2), some (vI x1), some (vI (x1 - x1 / 12 * 12)), some (vI ((1 + 0) + 0))]) (st' := [vI ((1 + 0) + 0)]) (b16_17 call r12 ((1 + 0) + 0) _ _) (fun q22 => ?_) (fun q22 => ?_)
          · have H := H.1 (cI0t q22)
            refine xc_b (i' := 56) (ls' := [some (vR 2), some (vI x1), some (vI (x1 - x1 / 12 * 12)), some (vI (((1 + 0) + 0) + 0))]) (st' := [vI (((1 + 0) + 0) + 0)]) (L' := LW W z12 f12) 4 (b16_13 call x1 (x1 - x1 / 12 * 12) ((1 + 0) + 0) ((1 + 0) + 0) _) ?_
            subst H
            exact xc_ret (b16_14 call _ _ _)
          · have H := H.2 (cI0f q22)
            refine xc_b (i' := 56) (ls' := [some (vR 2), some (vI x1), some (vI (x1 - x1 / 12 * 12)), some (vI (((1 + 0) + 0) + 1))]) (st' := [vI (((1 + 0) + 0) + 1)]) (L' := LW W z12 f12) 5 (b16_18 call x1 (x1 - x1 / 12 * 12) ((1 + 0) + 0) ((1 + 0) + 0) _) ?_
            subst H
            exact xc_ret (b16_14 call _ _ _)
      · have H := H.2 (cI5f q20 rfl rfl)
        refine xc_b (i' := 33) (ls' := [some (vR 2), some (vI x1), some (vI (x1 - x1 / 12 * 12)), some (vI (1 + 0))]) (st' := [vI (x1 - 1), vR 2, vI (1 + 0)]) (L' := LW W z11 f11) 4 (b16_19 call x1 (x1 - x1 / 12 * 12) (1 + 0) (1 + 0) _) ?_
        obtain ⟨r13, z13, f13, hc, H⟩ := H
        refine xc_call (t := 34) (ls' := [some (vR 2), some (vI x1), some (vI (x1 - x1 / 12 * 12)), some (vI (1 + 0))]) (st' := [vI (1 + 0)]) (b16_20 call (x1 - 1) (1 + 0) _ z11 f11) hc ?_
        show XC call (mP 16) 34 [some (vR 2), some (vI x1), some (vI (x1 - x1 / 12 * 12)), some (vI (1 + 0))] [vI r13, vI (1 + 0)] (LW W z13 f13) res
        refine xc_if (it := 37) (ie := 35) (ls' := [some (vR 2), some (vI x1), some (vI (x1 - x1 / 12 * 12)), some (vI (1 + 0))]) (st' := [vI (1 + 0)]) (b16_21 call r13 (1 + 0) _ _) (fun q23 => ?_) (fun q23 => ?_)
        · have H := H.1 (cI0t q23)
          refine xc_b (i' := 43) (ls' := [some (vR 2), some (vI x1), some (vI (x1 - x1 / 12 * 12)), some (vI ((1 + 0) + 0))]) (st' := [vI 11, vI (x1 - x1 / 12 * 12), vI ((1 + 0) + 0)]) (L' := LW W z13 f13) 6 (b16_11 call x1 (x1 - x1 / 12 * 12) (1 + 0) (1 + 0) _) ?_
          refine xc_if (it := 52) (ie := 44) (ls' := [some (vR 2), some (vI x1), some (vI (x1 - x1 / 12 * 12)), some (vI ((1 + 0) + 0))]) (st' := [vI ((1 + 0) + 0)]) (b16_12 call (x1 - x1 / 12 * 12) 11 ((1 + 0) + 0) _ _) (fun q24 => ?_) (fun q24 => ?_)
          · have H := H.1 (cI3t q24 rfl rfl)
            refine xc_b (i' := 56) (ls' := [some (vR 2), some (vI x1), some (vI (x1 - x1 / 12 * 12)), some (vI (((1 + 0) + 0) + 0))]) (st' := [vI (((1 + 0) + 0) + 0)]) (L' := LW W z13 f13) 4 (b16_13 call x1 (x1 - x1 / 12 * 12) ((1 + 0) + 0) ((1 + 0) + 0) _) ?_
            subst H
            exact xc_ret (b16_14 call _ _ _)
          · have H := H.2 (cI3f q24 rfl rfl)
            refine xc_b (i' := 48) (ls' := [some (vR 2), some (vI x1), some (vI (x1 - x1 / 12 * 12)), some (vI ((1 + 0) + 0))]) (st' := [vI (x1 + 1), vR 2, vI ((1 + 0) + 0)]) (L' := LW W z13 f13) 4 (b16_15 call x1 (x1 - x1 / 12 * 12) ((1 + 0) + 0) ((1 + 0) + 0) _) ?_
            obtain ⟨r14, z14, f14, hc, H⟩ := H
            refine xc_call (t := 49) (ls' := [some (vR 2), some (vI x1), some (vI (x1 - x1 / 12 * 12)), some (vI ((1 + 0) + 0))]) (st' := [vI ((1 + 0) + 0)]) (b16_16 call (x1 + 1) ((1 + 0) + 0) _ z13 f13) hc ?_
            show XC call (mP 16) 49 [some (vR 2), some (vI x1), some (vI (x1 - x1 / 12 * 12)), some (vI ((1 + 0) + 0))] [vI r14, vI ((1 + 0) + 0)] (LW W z14 f14) res
            refine xc_if (it := 52) (ie := 50) (ls' := [some (vR 2), some (vI x1), some (vI (x1 - x1 / 12 * 12)), some (vI ((1 + 0) + 0))]) (st' := [vI ((1 + 0) + 0)]) (b16_17 call r14 ((1 + 0) + 0) _ _) (fun q25 => ?_) (fun q25 => ?_)
            · have H := H.1 (cI0t q25)
              refine xc_b (i' := 56) (ls' := [some (vR 2), some (vI x1), some (vI (x1 - x1 / 12 * 12)), some (vI (((1 + 0) + 0) + 0))]) (st' := [vI (((1 + 0) + 0) + 0)]) (L' := LW W z14 f14) 4 (b16_13 call x1 (x1 - x1 / 12 * 12) ((1 + 0) + 0) ((1 + 0) + 0) _) ?_
              subst H
              exact xc_ret (b16_14 call _ _ _)
            · have H := H.2 (cI0f q25)
              refine xc_b (i' := 56) (ls' := [some (vR 2), some (vI x1), some (vI (x1 - x1 / 12 * 12)), some (vI (((1 + 0) + 0) + 1))]) (st' := [vI (((1 + 0) + 0) + 1)]) (L' := LW W z14 f14) 5 (b16_18 call x1 (x1 - x1 / 12 * 12) ((1 + 0) + 0) ((1 + 0) + 0) _) ?_
              subst H
              exact xc_ret (b16_14 call _ _ _)
        · have H := H.2 (cI0f q23)
          refine xc_b (i' := 43) (ls' := [some (vR 2), some (vI x1), some (vI (x1 - x1 / 12 * 12)), some (vI ((1 + 0) + 1))]) (st' := [vI 11, vI (x1 - x1 / 12 * 12), vI ((1 + 0) + 1)]) (L' := LW W z13 f13) 7 (b16_22 call x1 (x1 - x1 / 12 * 12) (1 + 0) (1 + 0) _) ?_
          refine xc_if (it := 52) (ie := 44) (ls' := [some (vR 2), some (vI x1), some (vI (x1 - x1 / 12 * 12)), some (vI ((1 + 0) + 1))]) (st' := [vI ((1 + 0) + 1)]) (b16_12 call (x1 - x1 / 12 * 12) 11 ((1 + 0) + 1) _ _) (fun q26 => ?_) (fun q26 => ?_)
          · have H := H.1 (cI3t q26 rfl rfl)
            refine xc_b (i' := 56) (ls' := [some (vR 2), some (vI x1), some (vI (x1 - x1 / 12 * 12)), some (vI (((1 + 0) + 1) + 0))]) (st' := [vI (((1 + 0) + 1) + 0)]) (L' := LW W z13 f13) 4 (b16_13 call x1 (x1 - x1 / 12 * 12) ((1 + 0) + 1) ((1 + 0) + 1) _) ?_
            subst H
            exact xc_ret (b16_14 call _ _ _)
          · have H := H.2 (cI3f q26 rfl rfl)
            refine xc_b (i' := 48) (ls' := [some (vR 2), some (vI x1), some (vI (x1 - x1 / 12 * 12)), some (vI ((1 + 0) + 1))]) (st' := [vI (x1 + 1), vR 2, vI ((1 + 0) + 1)]) (L' := LW W z13 f13) 4 (b16_15 call x1 (x1 - x1 / 12 * 12) ((1 + 0) + 1) ((1 + 0) + 1) _) ?_
            obtain ⟨r15, z15, f15, hc, H⟩ := H
            refine xc_call (t := 49) (ls' := [some (vR 2), some (vI x1), some (vI (x1 - x1 / 12 * 12)), some (vI ((1 + 0) + 1))]) (st' := [vI ((1 + 0) + 1)]) (b16_16 call (x1 + 1) ((1 + 0) + 1) _ z13 f13) hc ?_
            show XC call (mP 16) 49 [some (vR 2), some (vI x1), some (vI (x1 - x1 / 12 * 12)), some (vI ((1 + 0) + 1))] [vI r15, vI ((1 + 0) + 1)] (LW W z15 f15) res
            refine xc_if (it := 52) (ie := 50) (ls' := [some (vR 2), some (vI x1), some (vI (x1 - x1 / 12 * 12)), some (vI ((1 + 0) + 1))]) (st' := [vI ((1 + 0) + 1)]) (b16_17 call r15 ((1 + 0) + 1) _ _) (fun q27 => ?_) (fun q27 => ?_)
            · have H := H.1 (cI0t q27)
              refine xc_b (i' := 56) (ls' := [some (vR 2), some (vI x1), some (vI (x1 - x1 / 12 * 12)), some (vI (((1 + 0) + 1) + 0))]) (st' := [vI (((1 + 0) + 1) + 0)]) (L' := LW W z15 f15) 4 (b16_13 call x1 (x1 - x1 / 12 * 12) ((1 + 0) + 1) ((1 + 0) + 1) _) ?_
              subst H
              exact xc_ret (b16_14 call _ _ _)
            · have H := H.2 (cI0f q27)
              refine xc_b (i' := 56) (ls' := [some (vR 2), some (vI x1), some (vI (x1 - x1 / 12 * 12)), some (vI (((1 + 0) + 1) + 1))]) (st' := [vI (((1 + 0) + 1) + 1)]) (L' := LW W z15 f15) 5 (b16_18 call x1 (x1 - x1 / 12 * 12) ((1 + 0) + 1) ((1 + 0) + 1) _) ?_
              subst H
              exact xc_ret (b16_14 call _ _ _)
    · have H := H.2 (cI0f q19)
      refine xc_b (i' := 28) (ls' := [some (vR 2), some (vI x1), some (vI (x1 - x1 / 12 * 12)), some (vI (1 + 1))]) (st' := [vI (x1 - x1 / 12 * 12), vI (1 + 1)]) (L' := LW W z11 f11) 6 (b16_23 call x1 (x1 - x1 / 12 * 12) 1 1 _) ?_
      refine xc_if (it := 37) (ie := 29) (ls' := [some (vR 2), some (vI x1), some (vI (x1 - x1 / 12 * 12)), some (vI (1 + 1))]) (st' := [vI (1 + 1)]) (b16_10 call (x1 - x1 / 12 * 12) (1 + 1) _ _) (fun q28 => ?_) (fun q28 => ?_)
      · have H := H.1 (cI5t q28 rfl rfl)
        refine xc_b (i' := 43) (ls' := [some (vR 2), some (vI x1), some (vI (x1 - x1 / 12 * 12)), some (vI ((1 + 1) + 0))]) (st' := [vI 11, vI (x1 - x1 / 12 * 12), vI ((1 + 1) + 0)]) (L' := LW W z11 f11) 6 (b16_11 call x1 (x1 - x1 / 12 * 12) (1 + 1) (1 + 1) _) ?_
        refine xc_if (it := 52) (ie := 44) (ls' := [some (vR 2), some (vI x1), some (vI (x1 - x1 / 12 * 12)), some (vI ((1 + 1) + 0))]) (st' := [vI ((1 + 1) + 0)]) (b16_12 call (x1 - x1 / 12 * 12) 11 ((1 + 1) + 0) _ _) (fun q29 => ?_) (fun q29 => ?_)
        · have H := H.1 (cI3t q29 rfl rfl)
          refine xc_b (i' := 56) (ls' := [some (vR 2), some (vI x1), some (vI (x1 - x1 / 12 * 12)), some (vI (((1 + 1) + 0) + 0))]) (st' := [vI (((1 + 1) + 0) + 0)]) (L' := LW W z11 f11) 4 (b16_13 call x1 (x1 - x1 / 12 * 12) ((1 + 1) + 0) ((1 + 1) + 0) _) ?_
          subst H
          exact xc_ret (b16_14 call _ _ _)
        · have H := H.2 (cI3f q29 rfl rfl)
          refine xc_b (i' := 48) (ls' := [some (vR 2), some (vI x1), some (vI (x1 - x1 / 12 * 12)), some (vI ((1 + 1) + 0))]) (st' := [vI (x1 + 1), vR 2, vI ((1 + 1) + 0)]) (L' := LW W z11 f11) 4 (b16_15 call x1 (x1 - x1 / 12 * 12) ((1 + 1) + 0) ((1 + 1) + 0) _) ?_
          obtain ⟨r16, z16, f16, hc, H⟩ := H
          refine xc_call (t := 49) (ls' := [some (vR 2), some (vI x1), some (vI (x1 - x1 / 12 * 12)), some (vI ((1 + 1) + 0))]) (st' := [vI ((1 + 1) + 0)]) (b16_16 call (x1 + 1) ((1 + 1) + 0) _ z11 f11) hc ?_
          show XC call (mP 16) 49 [some (vR 2), some (vI x1), some (vI (x1 - x1 / 12 * 12)), some (vI ((1 + 1) + 0))] [vI r16, vI ((1 + 1) + 0)] (LW W z16 f16) res
          refine xc_if (it := 52) (ie := 50) (ls' := [some (vR 2), some (vI x1), some (vI (x1 - x1 / 12 * 12)), some (vI ((1 + 1) + 0))]) (st' := [vI ((1 + 1) + 0)]) (b16_17 call r16 ((1 + 1) + 0) _ _) (fun q30 => ?_) (fun q30 => ?_)
          · have H := H.1 (cI0t q30)
            refine xc_b (i' := 56) (ls' := [some (vR 2), some (vI x1), some (vI (x1 - x1 / 12 * 12)), some (vI (((1 + 1) + 0) + 0))]) (st' := [vI (((1 + 1) + 0) + 0)]) (L' := LW W z16 f16) 4 (b16_13 call x1 (x1 - x1 / 12 * 12) ((1 + 1) + 0) ((1 + 1) + 0) _) ?_
            subst H
            exact xc_ret (b16_14 call _ _ _)
          · have H := H.2 (cI0f q30)
            refine xc_b (i' := 56) (ls' := [some (vR 2), some (vI x1), some (vI (x1 - x1 / 12 * 12)), some (vI (((1 + 1) + 0) + 1))]) (st' := [vI (((1 + 1) + 0) + 1)]) (L' := LW W z16 f16) 5 (b16_18 call x1 (x1 - x1 / 12 * 12) ((1 + 1) + 0) ((1 + 1) + 0) _) ?_
            subst H
            exact xc_ret (b16_14 call _ _ _)
      · have H := H.2 (cI5f q28 rfl rfl)
        refine xc_b (i' := 33) (ls' := [some (vR 2), some (vI x1), some (vI (x1 - x1 / 12 * 12)), some (vI (1 + 1))]) (st' := [vI (x1 - 1), vR 2, vI (1 + 1)]) (L' := LW W z11 f11) 4 (b16_19 call x1 (x1 - x1 / 12 * 12) (1 + 1) (1 + 1) _) ?_
        obtain ⟨r17, z17, f17, hc, H⟩ := H
        refine xc_call (t := 34) (ls' := [some (vR 2), some (vI x1), some (vI (x1 - x1 / 12 * 12)), some (vI (1 + 1))]) (st' := [vI (1 + 1)]) (b16_20 call (x1 - 1) (1 + 1) _ z11 f11) hc ?_
        show XC call (mP 16) 34 [some (vR 2), some (vI x1), some (vI (x1 - x1 / 12 * 12)), some (vI (1 + 1))] [vI r17, vI (1 + 1)] (LW W z17 f17) res
        refine xc_if (it := 37) (ie := 35) (ls' := [some (vR 2), some (vI x1), some (vI (x1 - x1 / 12 * 12)), some (vI (1 + 1))]) (st' := [vI (1 + 1)]) (b16_21 call r17 (1 + 1) _ _) (fun q31 => ?_) (fun q31 => ?_)
        · have H := H.1 (cI0t q31)
          refine xc_b (i' := 43) (ls' := [some (vR 2), some (vI x1), some (vI (x1 - x1 / 12 * 12)), some (vI ((1 + 1) + 0))]) (st' := [vI 11, vI (x1 - x1 / 12 * 12), vI ((1 + 1) + 0)]) (L' := LW W z17 f17) 6 (b16_11 call x1 (x1 - x1 / 12 * 12) (1 + 1) (1 + 1) _) ?_
          refine xc_if (it := 52) (ie := 44) (ls' := [some (vR 2), some (vI x1), some (vI (x1 - x1 / 12 * 12)), some (vI ((1 + 1) + 0))]) (st' := [vI ((1 + 1) + 0)]) (b16_12 call (x1 - x1 / 12 * 12) 11 ((1 + 1) + 0) _ _) (fun q32 => ?_) (fun q32 => ?_)
          · have H := H.1 (cI3t q32 rfl rfl)
            refine xc_b (i' := 56) (ls' := [some (vR 2), some (vI x1), some (vI (x1 - x1 / 12 * 12)), some (vI (((1 + 1) + 0) + 0))]) (st' := [vI (((1 + 1) + 0) + 0)]) (L' := LW W z17 f17) 4 (b16_13 call x1 (x1 - x1 / 12 * 12) ((1 + 1) + 0) ((1 + 1) + 0) _) ?_
            subst H
            exact xc_ret (b16_14 call _ _ _)
          · have H := H.2 (cI3f q32 rfl rfl)
            refine xc_b (i' := 48) (ls' := [some (vR 2), some (vI x1), some (vI (x1 - x1 / 12 * 12)), some (vI ((1 + 1) + 0))]) (st' := [vI (x1 + 1), vR 2, vI ((1 + 1) + 0)]) (L' := LW W z17 f17) 4 (b16_15 call x1 (x1 - x1 / 12 * 12) ((1 + 1) + 0) ((1 + 1) + 0) _) ?_
            obtain ⟨r18, z18, f18, hc, H⟩ := H
            refine xc_call (t := 49) (ls' := [some (vR 2), some (vI x1), some (vI (x1 - x1 / 12 * 12)), some (vI ((1 + 1) + 0))]) (st' := [vI ((1 + 1) + 0)]) (b16_16 call (x1 + 1) ((1 + 1) + 0) _ z17 f17) hc ?_
            show XC call (mP 16) 49 [some (vR 2), some (vI x1), some (vI (x1 - x1 / 12 * 12)), some (vI ((1 + 1) + 0))] [vI r18, vI ((1 + 1) + 0)] (LW W z18 f18) res
            refine xc_if (it := 52) (ie := 50) (ls' := [some (vR 2), some (vI x1), some (vI (x1 - x1 / 12 * 12)), some (vI ((1 + 1) + 0))]) (st' := [vI ((1 + 1) + 0)]) (b16_17 call r18 ((1 + 1) + 0) _ _) (fun q33 => ?_) (fun q33 => ?_)
            · have H := H.1 (cI0t q33)
              refine xc_b (i' := 56) (ls' := [some (vR 2), some (vI x1), some (vI (x1 - x1 / 12 * 12)), some (vI (((1 + 1) + 0) + 0))]) (st' := [vI (((1 + 1) + 0) + 0)]) (L' := LW W z18 f18) 4 (b16_13 call x1 (x1 - x1 / 12 * 12) ((1 + 1) + 0) ((1 + 1) + 0) _) ?_
              subst H
              exact xc_ret (b16_14 call _ _ _)
            · have H := H.2 (cI0f q33)
              refine xc_b (i' := 56) (ls' := [some (vR 2), some (vI x1), some (vI (x1 - x1 / 12 * 12)), some (vI (((1 + 1) + 0) + 1))]) (st' := [vI (((1 + 1) + 0) + 1)]) (L' := LW W z18 f18) 5 (b16_18 call x1 (x1 - x1 / 12 * 12) ((1 + 1) + 0) ((1 + 1) + 0) _) ?_
              subst H
              exact xc_ret (b16_14 call _ _ _)
        · have H := H.2 (cI0f q31)
          refine xc_b (i' := 43) (ls' := [some (vR 2), some (vI x1), some (vI (x1 - x1 / 12 * 12)), some (vI ((1 + 1) + 1))]) (st' := [vI 11, vI (x1 - x1 / 12 * 12), vI ((1 + 1) + 1)]) (L' := LW W z17 f17) 7 (b16_22 call x1 (x1 - x1 / 12 * 12) (1 + 1) (1 + 1) _) ?_
          refine xc_if (it := 52) (ie := 44) (ls' := [some (vR 2), some (vI x1), some (vI (x1 - x1 / 12 * 12)), some (vI ((1 + 1) + 1))]) (st' := [vI ((1 + 1) + 1)]) (b16_12 call (x1 - x1 / 12 * 12) 11 ((1 + 1) + 1) _ _) (fun q34 => ?_) (fun q34 => ?_)
          · have H := H.1 (cI3t q34 rfl rfl)
            refine xc_b (i' := 56) (ls' := [some (vR 2), some (vI x1), some (vI (x1 - x1 / 12 * 12)), some (vI (((1 + 1) + 1) + 0))]) (st' := [vI (((1 + 1) + 1) + 0)]) (L' := LW W z17 f17) 4 (b16_13 call x1 (x1 - x1 / 12 * 12) ((1 + 1) + 1) ((1 + 1) + 1) _) ?_
            subst H
            exact xc_ret (b16_14 call _ _ _)
          · have H := H.2 (cI3f q34 rfl rfl)
            refine xc_b (i' := 48) (ls' := [some (vR 2), some (vI x1), some (vI (x1 - x1 / 12 * 12)), some (vI ((1 + 1) + 1))]) (st' := [vI (x1 + 1), vR 2, vI ((1 + 1) + 1)]) (L' := LW W z17 f17) 4 (b16_15 call x1 (x1 - x1 / 12 * 12) ((1 + 1) + 1) ((1 + 1) + 1) _) ?_
            obtain ⟨r19, z19, f19, hc, H⟩ := H
            refine xc_call (t := 49) (ls' := [some (vR 2), some (vI x1), some (vI (x1 - x1 / 12 * 12)), some (vI ((1 + 1) + 1))]) (st' := [vI ((1 + 1) + 1)]) (b16_16 call (x1 + 1) ((1 + 1) + 1) _ z17 f17) hc ?_
            show XC call (mP 16) 49 [some (vR 2), some (vI x1), some (vI (x1 - x1 / 12 * 12)), some (vI ((1 + 1) + 1))] [vI r19, vI ((1 + 1) + 1)] (LW W z19 f19) res
            refine xc_if (it := 52) (ie := 50) (ls' := [some (vR 2), some (vI x1), some (vI (x1 - x1 / 12 * 12)), some (vI ((1 + 1) + 1))]) (st' := [vI ((1 + 1) + 1)]) (b16_17 call r19 ((1 + 1) + 1) _ _) (fun q35 => ?_) (fun q35 => ?_)
            · have H := H.1 (cI0t q35)
              refine xc_b (i' := 56) (ls' := [some (vR 2), some (vI x1), some (vI (x1 - x1 / 12 * 12)), some (vI (((1 + 1) + 1) + 0))]) (st' := [vI (((1 + 1) + 1) + 0)]) (L' := LW W z19 f19) 4 (b16_13 call x1 (x1 - x1 / 12 * 12) ((1 + 1) + 1) ((1 + 1) + 1) _) ?_
              subst H
              exact xc_ret (b16_14 call _ _ _)
            · have H := H.2 (cI0f q35)
              refine xc_b (i' := 56) (ls' := [some (vR 2), some (vI x1), some (vI (x1 - x1 / 12 * 12)), some (vI (((1 + 1) + 1) + 1))]) (st' := [vI (((1 + 1) + 1) + 1)]) (L' := LW W z19 f19) 5 (b16_18 call x1 (x1 - x1 / 12 * 12) ((1 + 1) + 1) ((1 + 1) + 1) _) ?_
              subst H
              exact xc_ret (b16_14 call _ _ _)
set_option maxRecDepth 100000 in
theorem b83_1 (call : QC FA) (z : Nat → Int32) (f : Nat → FA) (F : Nat) : xnG call 83 (F + 7) 0 [some (vR 2)] [] (LW W z f) = xnG call 83 F 7 [some (vR 2)] [vI ((1664525 * (z 28)) + 1013904223), vR 2] (LW W z f) := rfl
set_option maxRecDepth 100000 in
theorem b83_2 (call : QC FA) (y : Int32) (ls : List (Option PV)) (z : Nat → Int32) (f : Nat → FA) (F : Nat) : xnG call 83 (F + 1) 7 ls [vI y, vR 2] (LW W z f) = xnG call 83 F 8 ls [] (LW W (uZ z 28 y) f) := rfl
set_option maxRecDepth 100000 in
theorem b83_3 (call : QC FA) (z : Nat → Int32) (f : Nat → FA) (F : Nat) : xnG call 83 (F + 5) 8 [some (vR 2)] [] (LW W z f) = xnG call 83 F 13 [some (vR 2)] [vI 1000, vI (pbin 8 (z 28) 8)] (LW W z f) := rfl
set_option maxRecDepth 100000 in
theorem b83_4 (call : QC FA) (x y : Int32) (ls : List (Option PV)) (L : QH FA) (F : Nat) : xnG call 83 (F + 1) 13 ls [vI y, vI x] L = bif pcmp 1 y 0 then xnG call 83 F 14 ls [vI (x - x / y * y)] L else none := rfl
set_option maxRecDepth 100000 in
theorem b83_5 (call : QC FA) (x : Int32) (ls : List (Option PV)) (L : QH FA) (F : Nat) : xnG call 83 (F + 1) 14 ls [vI x] L = some (some (vI x), L) := rfl
theorem vc83_0 (call : QC FA) (z : Nat → Int32) (f : Nat → FA) (res : Option PV × QH FA) (H : (¬ (1000 : Int32) = 0 ∧ res = (some (vI ((pbin 8 ((1664525 * (z 28)) + 1013904223) 8) - (pbin 8 ((1664525 * (z 28)) + 1013904223) 8) / 1000 * 1000)), LW W (uZ z 28 ((1664525 * (z 28)) + 1013904223)) f))) : XC call (mP 83) 0 [some (vR 2)] [] (LW W z f) res := by
  refine xc_b (i' := 7) (ls' := [some (vR 2)]) (st' := [vI ((1664525 * (z 28)) + 1013904223), vR 2]) (L' := LW W z f) 7 (b83_1 call z f) ?_
  refine xc_b (i' := 8) (ls' := [some (vR 2)]) (st' := []) (L' := LW W (uZ z 28 ((1664525 * (z 28)) + 1013904223)) f) 1 (b83_2 call ((1664525 * (z 28)) + 1013904223) _ z f) ?_
  refine xc_b (i' := 13) (ls' := [some (vR 2)]) (st' := [vI 1000, vI (pbin 8 ((1664525 * (z 28)) + 1013904223) 8)]) (L' := LW W (uZ z 28 ((1664525 * (z 28)) + 1013904223)) f) 5 (b83_3 call (uZ z 28 ((1664525 * (z 28)) + 1013904223)) f) ?_
  obtain ⟨g1, H⟩ := H
  refine xc_g (i' := 14) (ls' := [some (vR 2)]) (st' := [vI ((pbin 8 ((1664525 * (z 28)) + 1013904223) 8) - (pbin 8 ((1664525 * (z 28)) + 1013904223) 8) / 1000 * 1000)]) (L' := LW W (uZ z 28 ((1664525 * (z 28)) + 1013904223)) f) (b83_4 call (pbin 8 ((1664525 * (z 28)) + 1013904223) 8) 1000 _ _) (cmp_ne.trans (decide_eq_true g1)) ?_
  subst H
  exact xc_ret (b83_5 call _ _ _)
set_option maxRecDepth 100000 in
theorem b80_1 (call : QC FA) (x1 : Int32) (x2 : Int32) (o3 : Option PV) (o4 : Option PV) (L : QH FA) (F : Nat) : xnG call 80 (F + 4) 0 [some (vR 2), some (vI x1), some (vI x2), o3, o4] [] L = xnG call 80 F 4 [some (vR 2), some (vI x1), some (vI x2), some (vI 0), some (vI 0)] [] L := rfl
theorem vc80_0 (call : QC FA) (x1 : Int32) (x2 : Int32) (o3 : Option PV) (o4 : Option PV) (z : Nat → Int32) (f : Nat → FA) (res : Option PV × QH FA) (H : XC call (mP 80) 4 [some (vR 2), some (vI x1), some (vI x2), some (vI 0), some (vI 0)] [] (LW W z f) res) : XC call (mP 80) 0 [some (vR 2), some (vI x1), some (vI x2), o3, o4] [] (LW W z f) res := by
  refine xc_b (i' := 4) (ls' := [some (vR 2), some (vI x1), some (vI x2), some (vI 0), some (vI 0)]) (st' := []) (L' := LW W z f) 4 (b80_1 call x1 x2 o3 o4 _) ?_
  exact H
set_option maxRecDepth 100000 in
theorem bc4_80_1 (call : QC FA) (x1 : Int32) (x2 : Int32) (x3 : Int32) (x4 : Int32) (z : Nat → Int32) (f : Nat → FA) (F : Nat) : xnG call 80 (F + 3) 4 [some (vR 2), some (vI x1), some (vI x2), some (vI x3), some (vI x4)] [] (LW W z f) = xnG call 80 F 7 [some (vR 2), some (vI x1), some (vI x2), some (vI x3), some (vI x4)] [vI (z 22), vI x4] (LW W z f) := rfl
set_option maxRecDepth 100000 in
theorem bc4_80_2 (call : QC FA) (x y : Int32) (ls : List (Option PV)) (L : QH FA) (F : Nat) : xnG call 80 (F + 1) 7 ls [vI y, vI x] L = bif pcmp 3 x y then xnG call 80 F 25 ls [] L else xnG call 80 F 8 ls [] L := rfl
set_option maxRecDepth 100000 in
theorem bc4_80_3 (call : QC FA) (x1 : Int32) (x2 : Int32) (x3 : Int32) (x4 : Int32) (L : QH FA) (F : Nat) : xnG call 80 (F + 1) 25 [some (vR 2), some (vI x1), some (vI x2), some (vI x3), some (vI x4)] [] L = xnG call 80 F 26 [some (vR 2), some (vI x1), some (vI x2), some (vI x3), some (vI x4)] [vI x3] L := rfl
set_option maxRecDepth 100000 in
theorem bc4_80_4 (call : QC FA) (x : Int32) (ls : List (Option PV)) (L : QH FA) (F : Nat) : xnG call 80 (F + 1) 26 ls [vI x] L = some (some (vI x), L) := rfl
set_option maxRecDepth 100000 in
theorem bc4_80_5 (call : QC FA) (x1 : Int32) (x2 : Int32) (x3 : Int32) (x4 : Int32) (L : QH FA) (F : Nat) : xnG call 80 (F + 3) 8 [some (vR 2), some (vI x1), some (vI x2), some (vI x3), some (vI x4)] [] L = xnG call 80 F 11 [some (vR 2), some (vI x1), some (vI x2), some (vI x3), some (vI x4)] [vI 0, vI x4, vR 2] L := rfl
set_option maxRecDepth 100000 in
theorem bc4_80_6 (call : QC FA) (a0 : Int32) (a1 : Int32) (ls : List (Option PV)) (z : Nat → Int32) (f : Nat → FA) (F : Nat) : xnG call 80 (F + 1) 11 ls [vI a1, vI a0, vR 2] (LW W z f) = cbd (call 13 [vR 2, vI a0, vI a1] (LW W z f)) (fun r L' => xnG call 80 F 12 ls (r.toList ++ []) L') := pcY (ih := xnG call 80 F) (call := call) (a := 13) (b := 2) (v := 0) (t := 12) (x := 2) (ls := ls) (As := [vI a0, vI a1]) (st' := []) (L := LW W z f) rfl rfl rfl
set_option maxRecDepth 100000 in
theorem bc4_80_7 (call : QC FA) (x1 : Int32) (x2 : Int32) (x3 : Int32) (x4 : Int32) (s0 : Int32) (L : QH FA) (F : Nat) : xnG call 80 (F + 2) 12 [some (vR 2), some (vI x1), some (vI x2), some (vI x3), some (vI x4)] [vI s0] L = xnG call 80 F 14 [some (vR 2), some (vI x1), some (vI x2), some (vI x3), some (vI x4)] [vI (s0 ^^^ x1)] L := rfl
set_option maxRecDepth 100000 in
theorem bc4_80_8 (call : QC FA) (a0 : Int32) (ls : List (Option PV)) (z : Nat → Int32) (f : Nat → FA) (F : Nat) : xnG call 80 (F + 1) 14 ls [vI a0] (LW W z f) = cbd (call 79 [vI a0] (LW W z f)) (fun r L' => xnG call 80 F 15 ls (r.toList ++ []) L') := pcZ (ih := xnG call 80 F) (call := call) (a := 79) (b := 1) (t := 15) (ls := ls) (As := [vI a0]) (st' := []) (L := LW W z f) rfl rfl
set_option maxRecDepth 100000 in
theorem bc4_80_9 (call : QC FA) (x1 : Int32) (x2 : Int32) (x3 : Int32) (x4 : Int32) (s0 : Int32) (L : QH FA) (F : Nat) : xnG call 80 (F + 1) 15 [some (vR 2), some (vI x1), some (vI x2), some (vI x3), some (vI x4)] [vI s0] L = xnG call 80 F 16 [some (vR 2), some (vI x1), some (vI x2), some (vI x3), some (vI x4)] [vI x2, vI s0] L := rfl
set_option maxRecDepth 100000 in
theorem bc4_80_10 (call : QC FA) (x y : Int32) (ls : List (Option PV)) (L : QH FA) (F : Nat) : xnG call 80 (F + 1) 16 ls [vI y, vI x] L = bif pcmp 4 x y then xnG call 80 F 23 ls [] L else xnG call 80 F 17 ls [] L := rfl
set_option maxRecDepth 100000 in
theorem bc4_80_11 (call : QC FA) (x1 : Int32) (x2 : Int32) (x3 : Int32) (x4 : Int32) (L : QH FA) (F : Nat) : xnG call 80 (F + 1) 23 [some (vR 2), some (vI x1), some (vI x2), some (vI x3), some (vI x4)] [] L = xnG call 80 F 24 [some (vR 2), some (vI x1), some (vI x2), some (vI x3), some (vI (x4 + 1))] [] L := rfl
set_option maxRecDepth 100000 in
theorem bc4_80_12 (call : QC FA) (x1 : Int32) (x2 : Int32) (x3 : Int32) (x4 : Int32) (L : QH FA) (F : Nat) : xnG call 80 (F + 1) 24 [some (vR 2), some (vI x1), some (vI x2), some (vI x3), some (vI x4)] [] L = xnG call 80 F 4 [some (vR 2), some (vI x1), some (vI x2), some (vI x3), some (vI x4)] [] L := rfl
set_option maxRecDepth 100000 in
theorem bc4_80_13 (call : QC FA) (x1 : Int32) (x2 : Int32) (x3 : Int32) (x4 : Int32) (L : QH FA) (F : Nat) : xnG call 80 (F + 6) 17 [some (vR 2), some (vI x1), some (vI x2), some (vI x3), some (vI x4)] [] L = xnG call 80 F 23 [some (vR 2), some (vI x1), some (vI x2), some (vI (x3 ||| (1 <<< (x4 &&& 31)))), some (vI x4)] [] L := rfl
theorem vcc4_80_4 (call : QC FA) (x1 : Int32) (x2 : Int32) (x3 : Int32) (x4 : Int32) (z : Nat → Int32) (f : Nat → FA) (res : Option PV × QH FA) (H : ((I (z 22) ≤ I x4 → res = (some (vI x3), LW W z f)) ∧ (I x4 < I (z 22) → (∃ (r1 : Int32) (z1 : Nat → Int32) (f1 : Nat → FA), call 13 [vR 2, vI x4, vI 0] (LW W z f) = some (some (vI r1), LW W z1 f1) ∧ (∃ (r2 : Int32) (z2 : Nat → Int32) (f2 : Nat → FA), call 79 [vI (r1 ^^^ x1)] (LW W z1 f1) = some (some (vI r2), LW W z2 f2) ∧ ((I x2 < I r2 → XC call (mP 80) 4 [some (vR 2), some (vI x1), some (vI x2), some (vI x3), some (vI (x4 + 1))] [] (LW W z2 f2) res) ∧ (I r2 ≤ I x2 → XC call (mP 80) 4 [some (vR 2), some (vI x1), some (vI x2), some (vI (x3 ||| (1 <<< (x4 &&& 31)))), some (vI (x4 + 1))] [] (LW W z2 f2) res))))))) : XC call (mP 80) 4 [some (vR 2), some (vI x1), some (vI x2), some (vI x3), some (vI x4)] [] (LW W z f) res := by
  refine xc_b (i' := 7) (ls' := [some (vR 2), some (vI x1), some (vI x2), some (vI x3), some (vI x4)]) (st' := [vI (z 22), vI x4]) (L' := LW W z f) 3 (bc4_80_1 call x1 x2 x3 x4 z f) ?_
  refine xc_if (it := 25) (ie := 8) (ls' := [some (vR 2), some (vI x1), some (vI x2), some (vI x3), some (vI x4)]) (st' := []) (bc4_80_2 call x4 (z 22) _ _) (fun q1 => ?_) (fun q1 => ?_)
  · have H := H.1 (cI3t q1 rfl rfl)
    refine xc_b (i' := 26) (ls' := [some (vR 2), some (vI x1), some (vI x2), some (vI x3), some (vI x4)]) (st' := [vI x3]) (L' := LW W z f) 1 (bc4_80_3 call x1 x2 x3 x4 _) ?_
    subst H
    exact xc_ret (bc4_80_4 call _ _ _)
  · have H := H.2 (cI3f q1 rfl rfl)
    refine xc_b (i' := 11) (ls' := [some (vR 2), some (vI x1), some (vI x2), some (vI x3), some (vI x4)]) (st' := [vI 0, vI x4, vR 2]) (L' := LW W z f) 3 (bc4_80_5 call x1 x2 x3 x4 _) ?_
    obtain ⟨r1, z1, f1, hc, H⟩ := H
    refine xc_call (t := 12) (ls' := [some (vR 2), some (vI x1), some (vI x2), some (vI x3), some (vI x4)]) (st' := []) (bc4_80_6 call x4 0 _ z f) hc ?_
    show XC call (mP 80) 12 [some (vR 2), some (vI x1), some (vI x2), some (vI x3), some (vI x4)] [vI r1] (LW W z1 f1) res
    refine xc_b (i' := 14) (ls' := [some (vR 2), some (vI x1), some (vI x2), some (vI x3), some (vI x4)]) (st' := [vI (r1 ^^^ x1)]) (L' := LW W z1 f1) 2 (bc4_80_7 call x1 x2 x3 x4 r1 _) ?_
    obtain ⟨r2, z2, f2, hc, H⟩ := H
    refine xc_call (t := 15) (ls' := [some (vR 2), some (vI x1), some (vI x2), some (vI x3), some (vI x4)]) (st' := []) (bc4_80_8 call (r1 ^^^ x1) _ z1 f1) hc ?_
    show XC call (mP 80) 15 [some (vR 2), some (vI x1), some (vI x2), some (vI x3), some (vI x4)] [vI r2] (LW W z2 f2) res
    refine xc_b (i' := 16) (ls' := [some (vR 2), some (vI x1), some (vI x2), some (vI x3), some (vI x4)]) (st' := [vI x2, vI r2]) (L' := LW W z2 f2) 1 (bc4_80_9 call x1 x2 x3 x4 r2 _) ?_
    refine xc_if (it := 23) (ie := 17) (ls' := [some (vR 2), some (vI x1), some (vI x2), some (vI x3), some (vI x4)]) (st' := []) (bc4_80_10 call r2 x2 _ _) (fun q2 => ?_) (fun q2 => ?_)
    · have H := H.1 (cI4t q2 rfl rfl)
      refine xc_b (i' := 24) (ls' := [some (vR 2), some (vI x1), some (vI x2), some (vI x3), some (vI (x4 + 1))]) (st' := []) (L' := LW W z2 f2) 1 (bc4_80_11 call x1 x2 x3 x4 _) ?_
      refine xc_b (i' := 4) (ls' := [some (vR 2), some (vI x1), some (vI x2), some (vI x3), some (vI (x4 + 1))]) (st' := []) (L' := LW W z2 f2) 1 (bc4_80_12 call x1 x2 x3 (x4 + 1) _) ?_
      exact H
    · have H := H.2 (cI4f q2 rfl rfl)
      refine xc_b (i' := 23) (ls' := [some (vR 2), some (vI x1), some (vI x2), some (vI (x3 ||| (1 <<< (x4 &&& 31)))), some (vI x4)]) (st' := []) (L' := LW W z2 f2) 6 (bc4_80_13 call x1 x2 x3 x4 _) ?_
      refine xc_b (i' := 24) (ls' := [some (vR 2), some (vI x1), some (vI x2), some (vI (x3 ||| (1 <<< (x4 &&& 31)))), some (vI (x4 + 1))]) (st' := []) (L' := LW W z2 f2) 1 (bc4_80_11 call x1 x2 (x3 ||| (1 <<< (x4 &&& 31))) x4 _) ?_
      refine xc_b (i' := 4) (ls' := [some (vR 2), some (vI x1), some (vI x2), some (vI (x3 ||| (1 <<< (x4 &&& 31)))), some (vI (x4 + 1))]) (st' := []) (L' := LW W z2 f2) 1 (bc4_80_12 call x1 x2 (x3 ||| (1 <<< (x4 &&& 31))) (x4 + 1) _) ?_
      exact H
set_option maxRecDepth 100000 in
theorem b85_1 (call : QC FA) (x1 : Int32) (o2 : Option PV) (o3 : Option PV) (o4 : Option PV) (o5 : Option PV) (L : QH FA) (F : Nat) : xnG call 85 (F + 6) 0 [some (vR 2), some (vI x1), o2, o3, o4, o5] [] L = xnG call 85 F 6 [some (vR 2), some (vI x1), some (vI ((-1))), some (vI 9), some (vI 0), o5] [] L := rfl
theorem vc85_0 (call : QC FA) (x1 : Int32) (o2 : Option PV) (o3 : Option PV) (o4 : Option PV) (o5 : Option PV) (z : Nat → Int32) (f : Nat → FA) (res : Option PV × QH FA) (H : XC call (mP 85) 6 [some (vR 2), some (vI x1), some (vI ((-1))), some (vI 9), some (vI 0), o5] [] (LW W z f) res) : XC call (mP 85) 0 [some (vR 2), some (vI x1), o2, o3, o4, o5] [] (LW W z f) res := by
  refine xc_b (i' := 6) (ls' := [some (vR 2), some (vI x1), some (vI ((-1))), some (vI 9), some (vI 0), o5]) (st' := []) (L' := LW W z f) 6 (b85_1 call x1 o2 o3 o4 o5 _) ?_
  exact H
set_option maxRecDepth 100000 in
theorem bc6_85_1 (call : QC FA) (x1 : Int32) (x2 : Int32) (x3 : Int32) (x4 : Int32) (o5 : Option PV) (z : Nat → Int32) (f : Nat → FA) (F : Nat) : xnG call 85 (F + 3) 6 [some (vR 2), some (vI x1), some (vI x2), some (vI x3), some (vI x4), o5] [] (LW W z f) = xnG call 85 F 9 [some (vR 2), some (vI x1), some (vI x2), some (vI x3), some (vI x4), o5] [vI (z 22), vI x4] (LW W z f) := rfl
set_option maxRecDepth 100000 in
theorem bc6_85_2 (call : QC FA) (x y : Int32) (ls : List (Option PV)) (L : QH FA) (F : Nat) : xnG call 85 (F + 1) 9 ls [vI y, vI x] L = bif pcmp 3 x y then xnG call 85 F 27 ls [] L else xnG call 85 F 10 ls [] L := rfl
set_option maxRecDepth 100000 in
theorem bc6_85_3 (call : QC FA) (x1 : Int32) (x2 : Int32) (x3 : Int32) (x4 : Int32) (o5 : Option PV) (L : QH FA) (F : Nat) : xnG call 85 (F + 1) 27 [some (vR 2), some (vI x1), some (vI x2), some (vI x3), some (vI x4), o5] [] L = xnG call 85 F 28 [some (vR 2), some (vI x1), some (vI x2), some (vI x3), some (vI x4), o5] [vI x2] L := rfl
set_option maxRecDepth 100000 in
theorem bc6_85_4 (call : QC FA) (x : Int32) (ls : List (Option PV)) (L : QH FA) (F : Nat) : xnG call 85 (F + 1) 28 ls [vI x] L = some (some (vI x), L) := rfl
set_option maxRecDepth 100000 in
theorem bc6_85_5 (call : QC FA) (x1 : Int32) (x2 : Int32) (x3 : Int32) (x4 : Int32) (o5 : Option PV) (L : QH FA) (F : Nat) : xnG call 85 (F + 3) 10 [some (vR 2), some (vI x1), some (vI x2), some (vI x3), some (vI x4), o5] [] L = xnG call 85 F 13 [some (vR 2), some (vI x1), some (vI x2), some (vI x3), some (vI x4), o5] [vI 0, vI x4, vR 2] L := rfl
set_option maxRecDepth 100000 in
theorem bc6_85_6 (call : QC FA) (a0 : Int32) (a1 : Int32) (ls : List (Option PV)) (z : Nat → Int32) (f : Nat → FA) (F : Nat) : xnG call 85 (F + 1) 13 ls [vI a1, vI a0, vR 2] (LW W z f) = cbd (call 13 [vR 2, vI a0, vI a1] (LW W z f)) (fun r L' => xnG call 85 F 14 ls (r.toList ++ []) L') := pcY (ih := xnG call 85 F) (call := call) (a := 13) (b := 2) (v := 0) (t := 14) (x := 2) (ls := ls) (As := [vI a0, vI a1]) (st' := []) (L := LW W z f) rfl rfl rfl
set_option maxRecDepth 100000 in
theorem bc6_85_7 (call : QC FA) (x1 : Int32) (x2 : Int32) (x3 : Int32) (x4 : Int32) (o5 : Option PV) (s0 : Int32) (L : QH FA) (F : Nat) : xnG call 85 (F + 2) 14 [some (vR 2), some (vI x1), some (vI x2), some (vI x3), some (vI x4), o5] [vI s0] L = xnG call 85 F 16 [some (vR 2), some (vI x1), some (vI x2), some (vI x3), some (vI x4), o5] [vI (s0 ^^^ x1)] L := rfl
set_option maxRecDepth 100000 in
theorem bc6_85_8 (call : QC FA) (a0 : Int32) (ls : List (Option PV)) (z : Nat → Int32) (f : Nat → FA) (F : Nat) : xnG call 85 (F + 1) 16 ls [vI a0] (LW W z f) = cbd (call 79 [vI a0] (LW W z f)) (fun r L' => xnG call 85 F 17 ls (r.toList ++ []) L') := pcZ (ih := xnG call 85 F) (call := call) (a := 79) (b := 1) (t := 17) (ls := ls) (As := [vI a0]) (st' := []) (L := LW W z f) rfl rfl
set_option maxRecDepth 100000 in
theorem bc6_85_9 (call : QC FA) (x1 : Int32) (x2 : Int32) (x3 : Int32) (x4 : Int32) (o5 : Option PV) (s0 : Int32) (L : QH FA) (F : Nat) : xnG call 85 (F + 3) 17 [some (vR 2), some (vI x1), some (vI x2), some (vI x3), some (vI x4), o5] [vI s0] L = xnG call 85 F 20 [some (vR 2), some (vI x1), some (vI x2), some (vI x3), some (vI x4), some (vI s0)] [vI x3, vI s0] L := rfl
set_option maxRecDepth 100000 in
theorem bc6_85_10 (call : QC FA) (x y : Int32) (ls : List (Option PV)) (L : QH FA) (F : Nat) : xnG call 85 (F + 1) 20 ls [vI y, vI x] L = bif pcmp 3 x y then xnG call 85 F 25 ls [] L else xnG call 85 F 21 ls [] L := rfl
set_option maxRecDepth 100000 in
theorem bc6_85_11 (call : QC FA) (x1 : Int32) (x2 : Int32) (x3 : Int32) (x4 : Int32) (x5 : Int32) (L : QH FA) (F : Nat) : xnG call 85 (F + 1) 25 [some (vR 2), some (vI x1), some (vI x2), some (vI x3), some (vI x4), some (vI x5)] [] L = xnG call 85 F 26 [some (vR 2), some (vI x1), some (vI x2), some (vI x3), some (vI (x4 + 1)), some (vI x5)] [] L := rfl
set_option maxRecDepth 100000 in
theorem bc6_85_12 (call : QC FA) (x1 : Int32) (x2 : Int32) (x3 : Int32) (x4 : Int32) (x5 : Int32) (L : QH FA) (F : Nat) : xnG call 85 (F + 1) 26 [some (vR 2), some (vI x1), some (vI x2), some (vI x3), some (vI x4), some (vI x5)] [] L = xnG call 85 F 6 [some (vR 2), some (vI x1), some (vI x2), some (vI x3), some (vI x4), some (vI x5)] [] L := rfl
set_option maxRecDepth 100000 in
theorem bc6_85_13 (call : QC FA) (x1 : Int32) (x2 : Int32) (x3 : Int32) (x4 : Int32) (x5 : Int32) (L : QH FA) (F : Nat) : xnG call 85 (F + 4) 21 [some (vR 2), some (vI x1), some (vI x2), some (vI x3), some (vI x4), some (vI x5)] [] L = xnG call 85 F 25 [some (vR 2), some (vI x1), some (vI x4), some (vI x5), some (vI x4), some (vI x5)] [] L := rfl
theorem vcc6_85_6 (call : QC FA) (x1 : Int32) (x2 : Int32) (x3 : Int32) (x4 : Int32) (o5 : Option PV) (z : Nat → Int32) (f : Nat → FA) (res : Option PV × QH FA) (H : ((I (z 22) ≤ I x4 → res = (some (vI x2), LW W z f)) ∧ (I x4 < I (z 22) → (∃ (r1 : Int32) (z1 : Nat → Int32) (f1 : Nat → FA), call 13 [vR 2, vI x4, vI 0] (LW W z f) = some (some (vI r1), LW W z1 f1) ∧ (∃ (r2 : Int32) (z2 : Nat → Int32) (f2 : Nat → FA), call 79 [vI (r1 ^^^ x1)] (LW W z1 f1) = some (some (vI r2), LW W z2 f2) ∧ ((I x3 ≤ I r2 → XC call (mP 85) 6 [some (vR 2), some (vI x1), some (vI x2), some (vI x3), some (vI (x4 + 1)), some (vI r2)] [] (LW W z2 f2) res) ∧ (I r2 < I x3 → XC call (mP 85) 6 [some (vR 2), some (vI x1), some (vI x4), some (vI r2), some (vI (x4 + 1)), some (vI r2)] [] (LW W z2 f2) res))))))) : XC call (mP 85) 6 [some (vR 2), some (vI x1), some (vI x2), some (vI x3), some (vI x4), o5] [] (LW W z f) res := by
  refine xc_b (i' := 9) (ls' := [some (vR 2), some (vI x1), some (vI x2), some (vI x3), some (vI x4), o5]) (st' := [vI (z 22), vI x4]) (L' := LW W z f) 3 (bc6_85_1 call x1 x2 x3 x4 o5 z f) ?_
  refine xc_if (it := 27) (ie := 10) (ls' := [some (vR 2), some (vI x1), some (vI x2), some (vI x3), some (vI x4), o5]) (st' := []) (bc6_85_2 call x4 (z 22) _ _) (fun q1 => ?_) (fun q1 => ?_)
  · have H := H.1 (cI3t q1 rfl rfl)
    refine xc_b (i' := 28) (ls' := [some (vR 2), some (vI x1), some (vI x2), some (vI x3), some (vI x4), o5]) (st' := [vI x2]) (L' := LW W z f) 1 (bc6_85_3 call x1 x2 x3 x4 o5 _) ?_
    subst H
    exact xc_ret (bc6_85_4 call _ _ _)
  · have H := H.2 (cI3f q1 rfl rfl)
    refine xc_b (i' := 13) (ls' := [some (vR 2), some (vI x1), some (vI x2), some (vI x3), some (vI x4), o5]) (st' := [vI 0, vI x4, vR 2]) (L' := LW W z f) 3 (bc6_85_5 call x1 x2 x3 x4 o5 _) ?_
    obtain ⟨r1, z1, f1, hc, H⟩ := H
    refine xc_call (t := 14) (ls' := [some (vR 2), some (vI x1), some (vI x2), some (vI x3), some (vI x4), o5]) (st' := []) (bc6_85_6 call x4 0 _ z f) hc ?_
    show XC call (mP 85) 14 [some (vR 2), some (vI x1), some (vI x2), some (vI x3), some (vI x4), o5] [vI r1] (LW W z1 f1) res
    refine xc_b (i' := 16) (ls' := [some (vR 2), some (vI x1), some (vI x2), some (vI x3), some (vI x4), o5]) (st' := [vI (r1 ^^^ x1)]) (L' := LW W z1 f1) 2 (bc6_85_7 call x1 x2 x3 x4 o5 r1 _) ?_
    obtain ⟨r2, z2, f2, hc, H⟩ := H
    refine xc_call (t := 17) (ls' := [some (vR 2), some (vI x1), some (vI x2), some (vI x3), some (vI x4), o5]) (st' := []) (bc6_85_8 call (r1 ^^^ x1) _ z1 f1) hc ?_
    show XC call (mP 85) 17 [some (vR 2), some (vI x1), some (vI x2), some (vI x3), some (vI x4), o5] [vI r2] (LW W z2 f2) res
    refine xc_b (i' := 20) (ls' := [some (vR 2), some (vI x1), some (vI x2), some (vI x3), some (vI x4), some (vI r2)]) (st' := [vI x3, vI r2]) (L' := LW W z2 f2) 3 (bc6_85_9 call x1 x2 x3 x4 o5 r2 _) ?_
    refine xc_if (it := 25) (ie := 21) (ls' := [some (vR 2), some (vI x1), some (vI x2), some (vI x3), some (vI x4), some (vI r2)]) (st' := []) (bc6_85_10 call r2 x3 _ _) (fun q2 => ?_) (fun q2 => ?_)
    · have H := H.1 (cI3t q2 rfl rfl)
      refine xc_b (i' := 26) (ls' := [some (vR 2), some (vI x1), some (vI x2), some (vI x3), some (vI (x4 + 1)), some (vI r2)]) (st' := []) (L' := LW W z2 f2) 1 (bc6_85_11 call x1 x2 x3 x4 r2 _) ?_
      refine xc_b (i' := 6) (ls' := [some (vR 2), some (vI x1), some (vI x2), some (vI x3), some (vI (x4 + 1)), some (vI r2)]) (st' := []) (L' := LW W z2 f2) 1 (bc6_85_12 call x1 x2 x3 (x4 + 1) r2 _) ?_
      exact H
    · have H := H.2 (cI3f q2 rfl rfl)
      refine xc_b (i' := 25) (ls' := [some (vR 2), some (vI x1), some (vI x4), some (vI r2), some (vI x4), some (vI r2)]) (st' := []) (L' := LW W z2 f2) 4 (bc6_85_13 call x1 x2 x3 x4 r2 _) ?_
      refine xc_b (i' := 26) (ls' := [some (vR 2), some (vI x1), some (vI x4), some (vI r2), some (vI (x4 + 1)), some (vI r2)]) (st' := []) (L' := LW W z2 f2) 1 (bc6_85_11 call x1 x4 r2 x4 r2 _) ?_
      refine xc_b (i' := 6) (ls' := [some (vR 2), some (vI x1), some (vI x4), some (vI r2), some (vI (x4 + 1)), some (vI r2)]) (st' := []) (L' := LW W z2 f2) 1 (bc6_85_12 call x1 x4 r2 (x4 + 1) r2 _) ?_
      exact H
set_option maxRecDepth 100000 in
theorem b18_1 (call : QC FA) (x1 : Int32) (x2 : Int32) (o3 : Option PV) (L : QH FA) (F : Nat) : xnG call 18 (F + 1) 0 [some (vR (wJ W kt + 42)), some (vI x1), some (vI x2), o3] [] L = xnG call 18 F 1 [some (vR (wJ W kt + 42)), some (vI x1), some (vI x2), o3] [vI x1] L := rfl
set_option maxRecDepth 100000 in
theorem b18_2 (call : QC FA) (x : Int32) (ls : List (Option PV)) (L : QH FA) (F : Nat) : xnG call 18 (F + 1) 1 ls [vI x] L = bif pcmp 2 x 0 then xnG call 18 F 22 ls [] L else xnG call 18 F 2 ls [] L := rfl
set_option maxRecDepth 100000 in
theorem b18_3 (call : QC FA) (x1 : Int32) (x2 : Int32) (o3 : Option PV) (L : QH FA) (F : Nat) : xnG call 18 (F + 3) 22 [some (vR (wJ W kt + 42)), some (vI x1), some (vI x2), o3] [] L = xnG call 18 F 25 [some (vR (wJ W kt + 42)), some (vI x1), some (vI x2), some (vI 0)] [vI 0] L := rfl
set_option maxRecDepth 100000 in
theorem b18_4 (call : QC FA) (x : Int32) (ls : List (Option PV)) (L : QH FA) (F : Nat) : xnG call 18 (F + 1) 25 ls [vI x] L = bif pcmp 0 x 0 then xnG call 18 F 35 ls [] L else xnG call 18 F 26 ls [] L := rfl
set_option maxRecDepth 100000 in
theorem b18_5 (call : QC FA) (x1 : Int32) (x2 : Int32) (x3 : Int32) (L : QH FA) (F : Nat) : xnG call 18 (F + 1) 35 [some (vR (wJ W kt + 42)), some (vI x1), some (vI x2), some (vI x3)] [] L = xnG call 18 F 36 [some (vR (wJ W kt + 42)), some (vI x1), some (vI x2), some (vI x3)] [vI 0] L := rfl
set_option maxRecDepth 100000 in
theorem b18_6 (call : QC FA) (x : Int32) (ls : List (Option PV)) (L : QH FA) (F : Nat) : xnG call 18 (F + 1) 36 ls [vI x] L = some (some (vI x), L) := rfl
set_option maxRecDepth 100000 in
theorem b18_7 (call : QC FA) (x1 : Int32) (x2 : Int32) (o3 : Option PV) (L : QH FA) (F : Nat) : xnG call 18 (F + 2) 2 [some (vR (wJ W kt + 42)), some (vI x1), some (vI x2), o3] [] L = xnG call 18 F 4 [some (vR (wJ W kt + 42)), some (vI x1), some (vI x2), o3] [vR (wJ W kt + 42), vI x1] L := rfl
set_option maxRecDepth 100000 in
theorem b18_8 (hW : WTX W) (hk : kt < 4) (call : QC FA) (s0 : Int32) (ls : List (Option PV)) (z : Nat → Int32) (f : Nat → FA) (F : Nat) : xnG call 18 (F + 1) 4 ls [vR (wJ W kt + 42), vI s0] (LW W z f) = xnG call 18 F 5 ls [vI (wn W kt), vI s0] (LW W z f) := gt_1 (ih := xnG call 18 F) (t := 5) (st := [vI s0]) hW hk
set_option maxRecDepth 100000 in
theorem b18_9 (call : QC FA) (x y : Int32) (ls : List (Option PV)) (L : QH FA) (F : Nat) : xnG call 18 (F + 1) 5 ls [vI y, vI x] L = bif pcmp 3 x y then xnG call 18 F 22 ls [] L else xnG call 18 F 6 ls [] L := rfl
set_option maxRecDepth 100000 in
theorem b18_10 (call : QC FA) (x1 : Int32) (x2 : Int32) (o3 : Option PV) (L : QH FA) (F : Nat) : xnG call 18 (F + 1) 6 [some (vR (wJ W kt + 42)), some (vI x1), some (vI x2), o3] [] L = xnG call 18 F 7 [some (vR (wJ W kt + 42)), some (vI x1), some (vI x2), o3] [vI x2] L := rfl
set_option maxRecDepth 100000 in
theorem b18_11 (call : QC FA) (x : Int32) (ls : List (Option PV)) (L : QH FA) (F : Nat) : xnG call 18 (F + 1) 7 ls [vI x] L = bif pcmp 2 x 0 then xnG call 18 F 22 ls [] L else xnG call 18 F 8 ls [] L := rfl
set_option maxRecDepth 100000 in
theorem b18_12 (call : QC FA) (x1 : Int32) (x2 : Int32) (o3 : Option PV) (L : QH FA) (F : Nat) : xnG call 18 (F + 2) 8 [some (vR (wJ W kt + 42)), some (vI x1), some (vI x2), o3] [] L = xnG call 18 F 10 [some (vR (wJ W kt + 42)), some (vI x1), some (vI x2), o3] [vI 5, vI x2] L := rfl
set_option maxRecDepth 100000 in
theorem b18_13 (call : QC FA) (x y : Int32) (ls : List (Option PV)) (L : QH FA) (F : Nat) : xnG call 18 (F + 1) 10 ls [vI y, vI x] L = bif pcmp 3 x y then xnG call 18 F 22 ls [] L else xnG call 18 F 11 ls [] L := rfl
set_option maxRecDepth 100000 in
theorem b18_14 (call : QC FA) (x1 : Int32) (x2 : Int32) (o3 : Option PV) (L : QH FA) (F : Nat) : xnG call 18 (F + 6) 11 [some (vR (wJ W kt + 42)), some (vI x1), some (vI x2), o3] [] L = xnG call 18 F 17 [some (vR (wJ W kt + 42)), some (vI x1), some (vI x2), o3] [vR (wJ W kt + 42), vI ((x1 * 5) + x2)] L := rfl
set_option maxRecDepth 100000 in
theorem b18_15 (hW : WTX W) (hk : kt < 4) (call : QC FA) (s0 : Int32) (ls : List (Option PV)) (z : Nat → Int32) (f : Nat → FA) (F : Nat) : xnG call 18 (F + 1) 17 ls [vR (wJ W kt + 42), vI s0] (LW W z f) = xnG call 18 F 18 ls [vR (wA W kt + 42), vI s0] (LW W z f) := gt_0 (ih := xnG call 18 F) (t := 18) (st := [vI s0]) hW hk
set_option maxRecDepth 100000 in
theorem b18_16 (hW : WTX W) (hk : kt < 4) (call : QC FA) (s0 : Int32) (ls : List (Option PV)) (z : Nat → Int32) (f : Nat → FA) (F : Nat) : xnG call 18 (F + 1) 18 ls [vR (wA W kt + 42), vI s0] (LW W z f) = xnG call 18 F 19 ls [vI (nI (wN W kt)), vI s0] (LW W z f) := ga_g (ih := xnG call 18 F) (t := 19) (st := [vI s0]) hW hk
set_option maxRecDepth 100000 in
theorem b18_17 (call : QC FA) (x y : Int32) (ls : List (Option PV)) (L : QH FA) (F : Nat) : xnG call 18 (F + 1) 19 ls [vI y, vI x] L = bif pcmp 3 x y then xnG call 18 F 22 ls [] L else xnG call 18 F 20 ls [] L := rfl
set_option maxRecDepth 100000 in
theorem b18_18 (call : QC FA) (x1 : Int32) (x2 : Int32) (o3 : Option PV) (L : QH FA) (F : Nat) : xnG call 18 (F + 4) 20 [some (vR (wJ W kt + 42)), some (vI x1), some (vI x2), o3] [] L = xnG call 18 F 25 [some (vR (wJ W kt + 42)), some (vI x1), some (vI x2), some (vI 1)] [vI 1] L := rfl
set_option maxRecDepth 100000 in
theorem b18_19 (call : QC FA) (x1 : Int32) (x2 : Int32) (x3 : Int32) (L : QH FA) (F : Nat) : xnG call 18 (F + 1) 26 [some (vR (wJ W kt + 42)), some (vI x1), some (vI x2), some (vI x3)] [] L = xnG call 18 F 27 [some (vR (wJ W kt + 42)), some (vI x1), some (vI x2), some (vI x3)] [vR (wJ W kt + 42)] L := rfl
set_option maxRecDepth 100000 in
theorem b18_20 (hW : WTX W) (hk : kt < 4) (call : QC FA) (ls : List (Option PV)) (z : Nat → Int32) (f : Nat → FA) (F : Nat) : xnG call 18 (F + 1) 27 ls [vR (wJ W kt + 42)] (LW W z f) = xnG call 18 F 28 ls [vR (wA W kt + 42)] (LW W z f) := gt_0 (ih := xnG call 18 F) (t := 28) (st := []) hW hk
set_option maxRecDepth 100000 in
theorem b18_21 (call : QC FA) (x1 : Int32) (x2 : Int32) (x3 : Int32) (L : QH FA) (F : Nat) : xnG call 18 (F + 5) 28 [some (vR (wJ W kt + 42)), some (vI x1), some (vI x2), some (vI x3)] [vR (wA W kt + 42)] L = xnG call 18 F 33 [some (vR (wJ W kt + 42)), some (vI x1), some (vI x2), some (vI x3)] [vI ((x1 * 5) + x2), vR (wA W kt + 42)] L := rfl
set_option maxRecDepth 100000 in
theorem b18_22 (hW : WTX W) (hk : kt < 4) (call : QC FA) (x : Int32) (ls : List (Option PV)) (z : Nat → Int32) (f : Nat → FA) (F : Nat) : xnG call 18 (F + 1) 33 ls [vI x, vR (wA W kt + 42)] (LW W z f) = bif pin x (wN W kt) then xnG call 18 F 34 ls [vI (wg W kt (ix x))] (LW W z f) else none := gl_g (ih := xnG call 18 F) (t := 34) (st := []) hW hk x
set_option maxRecDepth 100000 in
theorem b18_23 (call : QC FA) (x1 : Int32) (x2 : Int32) (x3 : Int32) (s0 : Int32) (L : QH FA) (F : Nat) : xnG call 18 (F + 1) 34 [some (vR (wJ W kt + 42)), some (vI x1), some (vI x2), some (vI x3)] [vI s0] L = xnG call 18 F 36 [some (vR (wJ W kt + 42)), some (vI x1), some (vI x2), some (vI x3)] [vI s0] L := rfl
theorem vc18_0 (hW : WTX W) (hk : kt < 4) (call : QC FA) (x1 : Int32) (x2 : Int32) (o3 : Option PV) (z : Nat → Int32) (f : Nat → FA) (res : Option PV × QH FA) (H : ((I x1 < 0 → res = (some (vI 0), LW W z f)) ∧ (0 ≤ I x1 → ((I (wn W kt) ≤ I x1 → res = (some (vI 0), LW W z f)) ∧ (I x1 < I (wn W kt) → ((I x2 < 0 → res = (some (vI 0), LW W z f)) ∧ (0 ≤ I x2 → ((5 ≤ I x2 → res = (some (vI 0), LW W z f)) ∧ (I x2 < 5 → ((I (nI (wN W kt)) ≤ I ((x1 * 5) + x2) → res = (some (vI 0), LW W z f)) ∧ (I ((x1 * 5) + x2) < I (nI (wN W kt)) → (pin ((x1 * 5) + x2) (wN W kt) = true ∧ res = (some (vI (wg W kt (ix ((x1 * 5) + x2)))), LW W z f))))))))))))) : XC call (mP 18) 0 [some (vR (wJ W kt + 42)), some (vI x1), some (vI x2), o3] [] (LW W z f) res := by
  refine xc_b (i' := 1) (ls' := [some (vR (wJ W kt + 42)), some (vI x1), some (vI x2), o3]) (st' := [vI x1]) (L' := LW W z f) 1 (b18_1 call x1 x2 o3 _) ?_
  refine xc_if (it := 22) (ie := 2) (ls' := [some (vR (wJ W kt + 42)), some (vI x1), some (vI x2), o3]) (st' := []) (b18_2 call x1 _ _) (fun q1 => ?_) (fun q1 => ?_)
  · have H := H.1 (cI2t q1 rfl rfl)
    refine xc_b (i' := 25) (ls' := [some (vR (wJ W kt + 42)), some (vI x1), some (vI x2), some (vI 0)]) (st' := [vI 0]) (L' := LW W z f) 3 (b18_3 call x1 x2 o3 _) ?_
    refine xc_t (it := 35) (ie := 26) (ls' := [some (vR (wJ W kt + 42)), some (vI x1), some (vI x2), some (vI 0)]) (st' := []) (b18_4 call 0 _ _) (by decide) ?_
    refine xc_b (i' := 36) (ls' := [some (vR (wJ W kt + 42)), some (vI x1), some (vI x2), some (vI 0)]) (st' := [vI 0]) (L' := LW W z f) 1 (b18_5 call x1 x2 0 _) ?_
    subst H
    exact xc_ret (b18_6 call _ _ _)
  · have H := H.2 (cI2f q1 rfl rfl)
    refine xc_b (i' := 4) (ls' := [some (vR (wJ W kt + 42)), some (vI x1), some (vI x2), o3]) (st' := [vR (wJ W kt + 42), vI x1]) (L' := LW W z f) 2 (b18_7 call x1 x2 o3 _) ?_
    refine xc_b (i' := 5) (ls' := [some (vR (wJ W kt + 42)), some (vI x1), some (vI x2), o3]) (st' := [vI (wn W kt), vI x1]) (L' := LW W z f) 1 (b18_8 hW hk call x1 _ z f) ?_
    refine xc_if (it := 22) (ie := 6) (ls' := [some (vR (wJ W kt + 42)), some (vI x1), some (vI x2), o3]) (st' := []) (b18_9 call x1 (wn W kt) _ _) (fun q2 => ?_) (fun q2 => ?_)
    · have H := H.1 (cI3t q2 rfl rfl)
      refine xc_b (i' := 25) (ls' := [some (vR (wJ W kt + 42)), some (vI x1), some (vI x2), some (vI 0)]) (st' := [vI 0]) (L' := LW W z f) 3 (b18_3 call x1 x2 o3 _) ?_
      refine xc_t (it := 35) (ie := 26) (ls' := [some (vR (wJ W kt + 42)), some (vI x1), some (vI x2), some (vI 0)]) (st' := []) (b18_4 call 0 _ _) (by decide) ?_
      refine xc_b (i' := 36) (ls' := [some (vR (wJ W kt + 42)), some (vI x1), some (vI x2), some (vI 0)]) (st' := [vI 0]) (L' := LW W z f) 1 (b18_5 call x1 x2 0 _) ?_
      subst H
      exact xc_ret (b18_6 call _ _ _)
    · have H := H.2 (cI3f q2 rfl rfl)
      refine xc_b (i' := 7) (ls' := [some (vR (wJ W kt + 42)), some (vI x1), some (vI x2), o3]) (st' := [vI x2]) (L' := LW W z f) 1 (b18_10 call x1 x2 o3 _) ?_
      refine xc_if (it := 22) (ie := 8) (ls' := [some (vR (wJ W kt + 42)), some (vI x1), some (vI x2), o3]) (st' := []) (b18_11 call x2 _ _) (fun q3 => ?_) (fun q3 => ?_)
      · have H := H.1 (cI2t q3 rfl rfl)
        refine xc_b (i' := 25) (ls' := [some (vR (wJ W kt + 42)), some (vI x1), some (vI x2), some (vI 0)]) (st' := [vI 0]) (L' := LW W z f) 3 (b18_3 call x1 x2 o3 _) ?_
        refine xc_t (it := 35) (ie := 26) (ls' := [some (vR (wJ W kt + 42)), some (vI x1), some (vI x2), some (vI 0)]) (st' := []) (b18_4 call 0 _ _) (by decide) ?_
        refine xc_b (i' := 36) (ls' := [some (vR (wJ W kt + 42)), some (vI x1), some (vI x2), some (vI 0)]) (st' := [vI 0]) (L' := LW W z f) 1 (b18_5 call x1 x2 0 _) ?_
        subst H
        exact xc_ret (b18_6 call _ _ _)
      · have H := H.2 (cI2f q3 rfl rfl)
        refine xc_b (i' := 10) (ls' := [some (vR (wJ W kt + 42)), some (vI x1), some (vI x2), o3]) (st' := [vI 5, vI x2]) (L' := LW W z f) 2 (b18_12 call x1 x2 o3 _) ?_
        refine xc_if (it := 22) (ie := 11) (ls' := [some (vR (wJ W kt + 42)), some (vI x1), some (vI x2), o3]) (st' := []) (b18_13 call x2 5 _ _) (fun q4 => ?_) (fun q4 => ?_)
        · have H := H.1 (cI3t q4 rfl rfl)
          refine xc_b (i' := 25) (ls' := [some (vR (wJ W kt + 42)), some (vI x1), some (vI x2), some (vI 0)]) (st' := [vI 0]) (L' := LW W z f) 3 (b18_3 call x1 x2 o3 _) ?_
          refine xc_t (it := 35) (ie := 26) (ls' := [some (vR (wJ W kt + 42)), some (vI x1), some (vI x2), some (vI 0)]) (st' := []) (b18_4 call 0 _ _) (by decide) ?_
          refine xc_b (i' := 36) (ls' := [some (vR (wJ W kt + 42)), some (vI x1), some (vI x2), some (vI 0)]) (st' := [vI 0]) (L' := LW W z f) 1 (b18_5 call x1 x2 0 _) ?_
          subst H
          exact xc_ret (b18_6 call _ _ _)
        · have H := H.2 (cI3f q4 rfl rfl)
          refine xc_b (i' := 17) (ls' := [some (vR (wJ W kt + 42)), some (vI x1), some (vI x2), o3]) (st' := [vR (wJ W kt + 42), vI ((x1 * 5) + x2)]) (L' := LW W z f) 6 (b18_14 call x1 x2 o3 _) ?_
          refine xc_b (i' := 18) (ls' := [some (vR (wJ W kt + 42)), some (vI x1), some (vI x2), o3]) (st' := [vR (wA W kt + 42), vI ((x1 * 5) + x2)]) (L' := LW W z f) 1 (b18_15 hW hk call ((x1 * 5) + x2) _ z f) ?_
          refine xc_b (i' := 19) (ls' := [some (vR (wJ W kt + 42)), some (vI x1), some (vI x2), o3]) (st' := [vI (nI (wN W kt)), vI ((x1 * 5) + x2)]) (L' := LW W z f) 1 (b18_16 hW hk call ((x1 * 5) + x2) _ z f) ?_
          refine xc_if (it := 22) (ie := 20) (ls' := [some (vR (wJ W kt + 42)), some (vI x1), some (vI x2), o3]) (st' := []) (b18_17 call ((x1 * 5) + x2) (nI (wN W kt)) _ _) (fun q5 => ?_) (fun q5 => ?_)
          · have H := H.1 (cI3t q5 rfl rfl)
            refine xc_b (i' := 25) (ls' := [some (vR (wJ W kt + 42)), some (vI x1), some (vI x2), some (vI 0)]) (st' := [vI 0]) (L' := LW W z f) 3 (b18_3 call x1 x2 o3 _) ?_
            refine xc_t (it := 35) (ie := 26) (ls' := [some (vR (wJ W kt + 42)), some (vI x1), some (vI x2), some (vI 0)]) (st' := []) (b18_4 call 0 _ _) (by decide) ?_
            refine xc_b (i' := 36) (ls' := [some (vR (wJ W kt + 42)), some (vI x1), some (vI x2), some (vI 0)]) (st' := [vI 0]) (L' := LW W z f) 1 (b18_5 call x1 x2 0 _) ?_
            subst H
            exact xc_ret (b18_6 call _ _ _)
          · have H := H.2 (cI3f q5 rfl rfl)
            refine xc_b (i' := 25) (ls' := [some (vR (wJ W kt + 42)), some (vI x1), some (vI x2), some (vI 1)]) (st' := [vI 1]) (L' := LW W z f) 4 (b18_18 call x1 x2 o3 _) ?_
            refine xc_f (it := 35) (ie := 26) (ls' := [some (vR (wJ W kt + 42)), some (vI x1), some (vI x2), some (vI 1)]) (st' := []) (b18_4 call 1 _ _) (by decide) ?_
            refine xc_b (i' := 27) (ls' := [some (vR (wJ W kt + 42)), some (vI x1), some (vI x2), some (vI 1)]) (st' := [vR (wJ W kt + 42)]) (L' := LW W z f) 1 (b18_19 call x1 x2 1 _) ?_
            refine xc_b (i' := 28) (ls' := [some (vR (wJ W kt + 42)), some (vI x1), some (vI x2), some (vI 1)]) (st' := [vR (wA W kt + 42)]) (L' := LW W z f) 1 (b18_20 hW hk call _ z f) ?_
            refine xc_b (i' := 33) (ls' := [some (vR (wJ W kt + 42)), some (vI x1), some (vI x2), some (vI 1)]) (st' := [vI ((x1 * 5) + x2), vR (wA W kt + 42)]) (L' := LW W z f) 5 (b18_21 call x1 x2 1 _) ?_
            obtain ⟨g1, H⟩ := H
            refine xc_g (i' := 34) (ls' := [some (vR (wJ W kt + 42)), some (vI x1), some (vI x2), some (vI 1)]) (st' := [vI (wg W kt (ix ((x1 * 5) + x2)))]) (L' := LW W z f) (b18_22 hW hk call ((x1 * 5) + x2) _ z f) g1 ?_
            refine xc_b (i' := 36) (ls' := [some (vR (wJ W kt + 42)), some (vI x1), some (vI x2), some (vI 1)]) (st' := [vI (wg W kt (ix ((x1 * 5) + x2)))]) (L' := LW W z f) 1 (b18_23 call x1 x2 1 (wg W kt (ix ((x1 * 5) + x2))) _) ?_
            subst H
            exact xc_ret (b18_6 call _ _ _)
set_option maxRecDepth 100000 in
theorem b17_1 (call : QC FA) (x1 : Int32) (x2 : Int32) (o5 : Option PV) (o6 : Option PV) (o7 : Option PV) (o8 : Option PV) (L : QH FA) (F : Nat) : xnG call 17 (F + 2) 0 [some (vR (wJ W kt + 42)), some (vI x1), some (vI x2), some (vR 9), some (vR 10), o5, o6, o7, o8] [] L = xnG call 17 F 2 [some (vR (wJ W kt + 42)), some (vI x1), some (vI x2), some (vR 9), some (vR 10), some (vI 0), o6, o7, o8] [] L := rfl
theorem vc17_0 (call : QC FA) (x1 : Int32) (x2 : Int32) (o5 : Option PV) (o6 : Option PV) (o7 : Option PV) (o8 : Option PV) (z : Nat → Int32) (f : Nat → FA) (res : Option PV × QH FA) (H : XC call (mP 17) 2 [some (vR (wJ W kt + 42)), some (vI x1), some (vI x2), some (vR 9), some (vR 10), some (vI 0), o6, o7, o8] [] (LW W z f) res) : XC call (mP 17) 0 [some (vR (wJ W kt + 42)), some (vI x1), some (vI x2), some (vR 9), some (vR 10), o5, o6, o7, o8] [] (LW W z f) res := by
  refine xc_b (i' := 2) (ls' := [some (vR (wJ W kt + 42)), some (vI x1), some (vI x2), some (vR 9), some (vR 10), some (vI 0), o6, o7, o8]) (st' := []) (L' := LW W z f) 2 (b17_1 call x1 x2 o5 o6 o7 o8 _) ?_
  exact H
set_option maxRecDepth 100000 in
theorem bc2_17_1 (call : QC FA) (x1 : Int32) (x2 : Int32) (x5 : Int32) (o6 : Option PV) (o7 : Option PV) (o8 : Option PV) (L : QH FA) (F : Nat) : xnG call 17 (F + 2) 2 [some (vR (wJ W kt + 42)), some (vI x1), some (vI x2), some (vR 9), some (vR 10), some (vI x5), o6, o7, o8] [] L = xnG call 17 F 4 [some (vR (wJ W kt + 42)), some (vI x1), some (vI x2), some (vR 9), some (vR 10), some (vI x5), o6, o7, o8] [vR (wJ W kt + 42), vI x5] L := rfl
set_option maxRecDepth 100000 in
theorem bc2_17_2 (hW : WTX W) (hk : kt < 4) (call : QC FA) (s0 : Int32) (ls : List (Option PV)) (z : Nat → Int32) (f : Nat → FA) (F : Nat) : xnG call 17 (F + 1) 4 ls [vR (wJ W kt + 42), vI s0] (LW W z f) = xnG call 17 F 5 ls [vI (wn W kt), vI s0] (LW W z f) := gt_1 (ih := xnG call 17 F) (t := 5) (st := [vI s0]) hW hk
set_option maxRecDepth 100000 in
theorem bc2_17_3 (call : QC FA) (x y : Int32) (ls : List (Option PV)) (L : QH FA) (F : Nat) : xnG call 17 (F + 1) 5 ls [vI y, vI x] L = bif pcmp 3 x y then xnG call 17 F 46 ls [] L else xnG call 17 F 6 ls [] L := rfl
set_option maxRecDepth 100000 in
theorem bc2_17_4 (call : QC FA) (x1 : Int32) (x2 : Int32) (x5 : Int32) (o6 : Option PV) (o7 : Option PV) (o8 : Option PV) (L : QH FA) (F : Nat) : xnG call 17 (F + 1) 46 [some (vR (wJ W kt + 42)), some (vI x1), some (vI x2), some (vR 9), some (vR 10), some (vI x5), o6, o7, o8] [] L = xnG call 17 F 47 [some (vR (wJ W kt + 42)), some (vI x1), some (vI x2), some (vR 9), some (vR 10), some (vI x5), o6, o7, o8] [vI x2] L := rfl
set_option maxRecDepth 100000 in
theorem bc2_17_5 (call : QC FA) (x : Int32) (ls : List (Option PV)) (L : QH FA) (F : Nat) : xnG call 17 (F + 1) 47 ls [vI x] L = some (some (vI x), L) := rfl
set_option maxRecDepth 100000 in
theorem bc2_17_6 (call : QC FA) (x1 : Int32) (x2 : Int32) (x5 : Int32) (o6 : Option PV) (o7 : Option PV) (o8 : Option PV) (L : QH FA) (F : Nat) : xnG call 17 (F + 3) 6 [some (vR (wJ W kt + 42)), some (vI x1), some (vI x2), some (vR 9), some (vR 10), some (vI x5), o6, o7, o8] [] L = xnG call 17 F 9 [some (vR (wJ W kt + 42)), some (vI x1), some (vI x2), some (vR 9), some (vR 10), some (vI x5), o6, o7, o8] [vI 0, vI x5, vR (wJ W kt + 42)] L := rfl
set_option maxRecDepth 100000 in
theorem bc2_17_7 (hW : WTX W) (hk : kt < 4) (call : QC FA) (a0 : Int32) (a1 : Int32) (ls : List (Option PV)) (z : Nat → Int32) (f : Nat → FA) (F : Nat) : xnG call 17 (F + 1) 9 ls [vI a1, vI a0, vR (wJ W kt + 42)] (LW W z f) = cbd (call 18 [vR (wJ W kt + 42), vI a0, vI a1] (LW W z f)) (fun r L' => xnG call 17 F 10 ls (r.toList ++ []) L') := pcY (ih := xnG call 17 F) (call := call) (a := 18) (b := 2) (v := 8) (t := 10) (x := wJ W kt + 42) (ls := ls) (As := [vI a0, vI a1]) (st' := []) (L := LW W z f) rfl (gj_t hW hk) rfl
set_option maxRecDepth 100000 in
theorem bc2_17_8 (call : QC FA) (x1 : Int32) (x2 : Int32) (x5 : Int32) (o6 : Option PV) (o7 : Option PV) (o8 : Option PV) (s0 : Int32) (L : QH FA) (F : Nat) : xnG call 17 (F + 1) 10 [some (vR (wJ W kt + 42)), some (vI x1), some (vI x2), some (vR 9), some (vR 10), some (vI x5), o6, o7, o8] [vI s0] L = xnG call 17 F 11 [some (vR (wJ W kt + 42)), some (vI x1), some (vI x2), some (vR 9), some (vR 10), some (vI x5), o6, o7, o8] [vI x1, vI s0] L := rfl
set_option maxRecDepth 100000 in
theorem bc2_17_9 (call : QC FA) (x y : Int32) (ls : List (Option PV)) (L : QH FA) (F : Nat) : xnG call 17 (F + 1) 11 ls [vI y, vI x] L = bif pcmp 1 x y then xnG call 17 F 44 ls [] L else xnG call 17 F 12 ls [] L := rfl
set_option maxRecDepth 100000 in
theorem bc2_17_10 (call : QC FA) (x1 : Int32) (x2 : Int32) (x5 : Int32) (o6 : Option PV) (o7 : Option PV) (o8 : Option PV) (L : QH FA) (F : Nat) : xnG call 17 (F + 1) 44 [some (vR (wJ W kt + 42)), some (vI x1), some (vI x2), some (vR 9), some (vR 10), some (vI x5), o6, o7, o8] [] L = xnG call 17 F 45 [some (vR (wJ W kt + 42)), some (vI x1), some (vI x2), some (vR 9), some (vR 10), some (vI (x5 + 1)), o6, o7, o8] [] L := rfl
set_option maxRecDepth 100000 in
theorem bc2_17_11 (call : QC FA) (x1 : Int32) (x2 : Int32) (x5 : Int32) (o6 : Option PV) (o7 : Option PV) (o8 : Option PV) (L : QH FA) (F : Nat) : xnG call 17 (F + 1) 45 [some (vR (wJ W kt + 42)), some (vI x1), some (vI x2), some (vR 9), some (vR 10), some (vI x5), o6, o7, o8] [] L = xnG call 17 F 2 [some (vR (wJ W kt + 42)), some (vI x1), some (vI x2), some (vR 9), some (vR 10), some (vI x5), o6, o7, o8] [] L := rfl
set_option maxRecDepth 100000 in
theorem bc2_17_12 (call : QC FA) (x1 : Int32) (x2 : Int32) (x5 : Int32) (o6 : Option PV) (o7 : Option PV) (o8 : Option PV) (L : QH FA) (F : Nat) : xnG call 17 (F + 3) 12 [some (vR (wJ W kt + 42)), some (vI x1), some (vI x2), some (vR 9), some (vR 10), some (vI x5), o6, o7, o8] [] L = xnG call 17 F 15 [some (vR (wJ W kt + 42)), some (vI x1), some (vI x2), some (vR 9), some (vR 10), some (vI x5), o6, o7, o8] [vI 1, vI x5, vR (wJ W kt + 42)] L := rfl
set_option maxRecDepth 100000 in
theorem bc2_17_13 (hW : WTX W) (hk : kt < 4) (call : QC FA) (a0 : Int32) (a1 : Int32) (ls : List (Option PV)) (z : Nat → Int32) (f : Nat → FA) (F : Nat) : xnG call 17 (F + 1) 15 ls [vI a1, vI a0, vR (wJ W kt + 42)] (LW W z f) = cbd (call 18 [vR (wJ W kt + 42), vI a0, vI a1] (LW W z f)) (fun r L' => xnG call 17 F 16 ls (r.toList ++ []) L') := pcY (ih := xnG call 17 F) (call := call) (a := 18) (b := 2) (v := 8) (t := 16) (x := wJ W kt + 42) (ls := ls) (As := [vI a0, vI a1]) (st' := []) (L := LW W z f) rfl (gj_t hW hk) rfl
set_option maxRecDepth 100000 in
theorem bc2_17_14 (call : QC FA) (x1 : Int32) (x2 : Int32) (x5 : Int32) (o6 : Option PV) (o7 : Option PV) (o8 : Option PV) (s0 : Int32) (L : QH FA) (F : Nat) : xnG call 17 (F + 4) 16 [some (vR (wJ W kt + 42)), some (vI x1), some (vI x2), some (vR 9), some (vR 10), some (vI x5), o6, o7, o8] [vI s0] L = xnG call 17 F 20 [some (vR (wJ W kt + 42)), some (vI x1), some (vI x2), some (vR 9), some (vR 10), some (vI x5), some (vI s0), o7, o8] [vI 2, vI x5, vR (wJ W kt + 42)] L := rfl
set_option maxRecDepth 100000 in
theorem bc2_17_15 (hW : WTX W) (hk : kt < 4) (call : QC FA) (a0 : Int32) (a1 : Int32) (ls : List (Option PV)) (z : Nat → Int32) (f : Nat → FA) (F : Nat) : xnG call 17 (F + 1) 20 ls [vI a1, vI a0, vR (wJ W kt + 42)] (LW W z f) = cbd (call 18 [vR (wJ W kt + 42), vI a0, vI a1] (LW W z f)) (fun r L' => xnG call 17 F 21 ls (r.toList ++ []) L') := pcY (ih := xnG call 17 F) (call := call) (a := 18) (b := 2) (v := 8) (t := 21) (x := wJ W kt + 42) (ls := ls) (As := [vI a0, vI a1]) (st' := []) (L := LW W z f) rfl (gj_t hW hk) rfl
set_option maxRecDepth 100000 in
theorem bc2_17_16 (call : QC FA) (x1 : Int32) (x2 : Int32) (x5 : Int32) (x6 : Int32) (o7 : Option PV) (o8 : Option PV) (s0 : Int32) (L : QH FA) (F : Nat) : xnG call 17 (F + 4) 21 [some (vR (wJ W kt + 42)), some (vI x1), some (vI x2), some (vR 9), some (vR 10), some (vI x5), some (vI x6), o7, o8] [vI s0] L = xnG call 17 F 25 [some (vR (wJ W kt + 42)), some (vI x1), some (vI x2), some (vR 9), some (vR 10), some (vI x5), some (vI x6), some (vI s0), o8] [vI 3, vI x5, vR (wJ W kt + 42)] L := rfl
set_option maxRecDepth 100000 in
theorem bc2_17_17 (hW : WTX W) (hk : kt < 4) (call : QC FA) (a0 : Int32) (a1 : Int32) (ls : List (Option PV)) (z : Nat → Int32) (f : Nat → FA) (F : Nat) : xnG call 17 (F + 1) 25 ls [vI a1, vI a0, vR (wJ W kt + 42)] (LW W z f) = cbd (call 18 [vR (wJ W kt + 42), vI a0, vI a1] (LW W z f)) (fun r L' => xnG call 17 F 26 ls (r.toList ++ []) L') := pcY (ih := xnG call 17 F) (call := call) (a := 18) (b := 2) (v := 8) (t := 26) (x := wJ W kt + 42) (ls := ls) (As := [vI a0, vI a1]) (st' := []) (L := LW W z f) rfl (gj_t hW hk) rfl
set_option maxRecDepth 100000 in
theorem bc2_17_18 (call : QC FA) (x1 : Int32) (x2 : Int32) (x5 : Int32) (x6 : Int32) (x7 : Int32) (o8 : Option PV) (s0 : Int32) (L : QH FA) (F : Nat) : xnG call 17 (F + 3) 26 [some (vR (wJ W kt + 42)), some (vI x1), some (vI x2), some (vR 9), some (vR 10), some (vI x5), some (vI x6), some (vI x7), o8] [vI s0] L = xnG call 17 F 29 [some (vR (wJ W kt + 42)), some (vI x1), some (vI x2), some (vR 9), some (vR 10), some (vI x5), some (vI x6), some (vI x7), some (vI s0)] [vI s0, vI x7] L := rfl
set_option maxRecDepth 100000 in
theorem bc2_17_19 (call : QC FA) (x y : Int32) (ls : List (Option PV)) (L : QH FA) (F : Nat) : xnG call 17 (F + 1) 29 ls [vI y, vI x] L = bif pcmp 0 x y then xnG call 17 F 37 ls [] L else xnG call 17 F 30 ls [] L := rfl
set_option maxRecDepth 100000 in
theorem bc2_17_20 (call : QC FA) (x1 : Int32) (x2 : Int32) (x5 : Int32) (x6 : Int32) (x7 : Int32) (x8 : Int32) (L : QH FA) (F : Nat) : xnG call 17 (F + 5) 37 [some (vR (wJ W kt + 42)), some (vI x1), some (vI x2), some (vR 9), some (vR 10), some (vI x5), some (vI x6), some (vI x7), some (vI x8)] [] L = xnG call 17 F 42 [some (vR (wJ W kt + 42)), some (vI x1), some (vI x2), some (vR 9), some (vR 10), some (vI x5), some (vI x6), some (vI x7), some (vI x8)] [vR 10, vR 9, vI x7, vI x6, vR (wJ W kt + 42)] L := rfl
set_option maxRecDepth 100000 in
theorem bc2_17_21 (hW : WTX W) (hk : kt < 4) (call : QC FA) (a0 : Int32) (a1 : Int32) (ls : List (Option PV)) (z : Nat → Int32) (f : Nat → FA) (F : Nat) : xnG call 17 (F + 1) 42 ls [vR 10, vR 9, vI a1, vI a0, vR (wJ W kt + 42)] (LW W z f) = cbd (call 19 [vR (wJ W kt + 42), vI a0, vI a1, vR 9, vR 10] (LW W z f)) (fun r L' => xnG call 17 F 43 ls (r.toList ++ []) L') := pcY (ih := xnG call 17 F) (call := call) (a := 19) (b := 4) (v := 8) (t := 43) (x := wJ W kt + 42) (ls := ls) (As := [vI a0, vI a1, vR 9, vR 10]) (st' := []) (L := LW W z f) rfl (gj_t hW hk) rfl
set_option maxRecDepth 100000 in
theorem bc2_17_22 (call : QC FA) (x : Int32) (ls : List (Option PV)) (L : QH FA) (F : Nat) : xnG call 17 (F + 1) 43 ls [vI x] L = some (some (vI x), L) := rfl
set_option maxRecDepth 100000 in
theorem bc2_17_23 (call : QC FA) (x1 : Int32) (x2 : Int32) (x5 : Int32) (x6 : Int32) (x7 : Int32) (x8 : Int32) (L : QH FA) (F : Nat) : xnG call 17 (F + 5) 30 [some (vR (wJ W kt + 42)), some (vI x1), some (vI x2), some (vR 9), some (vR 10), some (vI x5), some (vI x6), some (vI x7), some (vI x8)] [] L = xnG call 17 F 35 [some (vR (wJ W kt + 42)), some (vI x1), some (vI x2), some (vR 9), some (vR 10), some (vI x5), some (vI x6), some (vI x7), some (vI x8)] [vR 10, vR 9, vI x8, vI x7, vR (wJ W kt + 42)] L := rfl
set_option maxRecDepth 100000 in
theorem bc2_17_24 (hW : WTX W) (hk : kt < 4) (call : QC FA) (a0 : Int32) (a1 : Int32) (ls : List (Option PV)) (z : Nat → Int32) (f : Nat → FA) (F : Nat) : xnG call 17 (F + 1) 35 ls [vR 10, vR 9, vI a1, vI a0, vR (wJ W kt + 42)] (LW W z f) = cbd (call 19 [vR (wJ W kt + 42), vI a0, vI a1, vR 9, vR 10] (LW W z f)) (fun r L' => xnG call 17 F 36 ls (r.toList ++ []) L') := pcY (ih := xnG call 17 F) (call := call) (a := 19) (b := 4) (v := 8) (t := 36) (x := wJ W kt + 42) (ls := ls) (As := [vI a0, vI a1, vR 9, vR 10]) (st' := []) (L := LW W z f) rfl (gj_t hW hk) rfl
set_option maxRecDepth 100000 in
theorem bc2_17_25 (call : QC FA) (x : Int32) (ls : List (Option PV)) (L : QH FA) (F : Nat) : xnG call 17 (F + 1) 36 ls [vI x] L = bif pcmp 0 x 0 then xnG call 17 F 44 ls [] L else xnG call 17 F 37 ls [] L := rfl
set_option maxRecDepth 100000 in
theorem bc2_17_26 (call : QC FA) (x1 : Int32) (x2 : Int32) (x5 : Int32) (x6 : Int32) (x7 : Int32) (x8 : Int32) (L : QH FA) (F : Nat) : xnG call 17 (F + 1) 44 [some (vR (wJ W kt + 42)), some (vI x1), some (vI x2), some (vR 9), some (vR 10), some (vI x5), some (vI x6), some (vI x7), some (vI x8)] [] L = xnG call 17 F 45 [some (vR (wJ W kt + 42)), some (vI x1), some (vI x2), some (vR 9), some (vR 10), some (vI (x5 + 1)), some (vI x6), some (vI x7), some (vI x8)] [] L := rfl
set_option maxRecDepth 100000 in
theorem bc2_17_27 (call : QC FA) (x1 : Int32) (x2 : Int32) (x5 : Int32) (x6 : Int32) (x7 : Int32) (x8 : Int32) (L : QH FA) (F : Nat) : xnG call 17 (F + 1) 45 [some (vR (wJ W kt + 42)), some (vI x1), some (vI x2), some (vR 9), some (vR 10), some (vI x5), some (vI x6), some (vI x7), some (vI x8)] [] L = xnG call 17 F 2 [some (vR (wJ W kt + 42)), some (vI x1), some (vI x2), some (vR 9), some (vR 10), some (vI x5), some (vI x6), some (vI x7), some (vI x8)] [] L := rfl
theorem vcc2_17_2 (hW : WTX W) (hk : kt < 4) (call : QC FA) (x1 : Int32) (x2 : Int32) (x5 : Int32) (o6 : Option PV) (o7 : Option PV) (o8 : Option PV) (z : Nat → Int32) (f : Nat → FA) (res : Option PV × QH FA) (H : ((I (wn W kt) ≤ I x5 → res = (some (vI x2), LW W z f)) ∧ (I x5 < I (wn W kt) → (∃ (r1 : Int32) (z1 : Nat → Int32) (f1 : Nat → FA), call 18 [vR (wJ W kt + 42), vI x5, vI 0] (LW W z f) = some (some (vI r1), LW W z1 f1) ∧ ((¬ r1 = x1 → XC call (mP 17) 2 [some (vR (wJ W kt + 42)), some (vI x1), some (vI x2), some (vR 9), some (vR 10), some (vI (x5 + 1)), o6, o7, o8] [] (LW W z1 f1) res) ∧ (r1 = x1 → (∃ (r2 : Int32) (z2 : Nat → Int32) (f2 : Nat → FA), call 18 [vR (wJ W kt + 42), vI x5, vI 1] (LW W z1 f1) = some (some (vI r2), LW W z2 f2) ∧ (∃ (r3 : Int32) (z3 : Nat → Int32) (f3 : Nat → FA), call 18 [vR (wJ W kt + 42), vI x5, vI 2] (LW W z2 f2) = some (some (vI r3), LW W z3 f3) ∧ (∃ (r4 : Int32) (z4 : Nat → Int32) (f4 : Nat → FA), call 18 [vR (wJ W kt + 42), vI x5, vI 3] (LW W z3 f3) = some (some (vI r4), LW W z4 f4) ∧ ((r3 = r4 → (∃ (r5 : Int32) (z5 : Nat → Int32) (f5 : Nat → FA), call 19 [vR (wJ W kt + 42), vI r2, vI r3, vR 9, vR 10] (LW W z4 f4) = some (some (vI r5), LW W z5 f5) ∧ res = (some (vI r5), LW W z5 f5))) ∧ (¬ r3 = r4 → (∃ (r6 : Int32) (z6 : Nat → Int32) (f6 : Nat → FA), call 19 [vR (wJ W kt + 42), vI r3, vI r4, vR 9, vR 10] (LW W z4 f4) = some (some (vI r6), LW W z6 f6) ∧ ((r6 = 0 → XC call (mP 17) 2 [some (vR (wJ W kt + 42)), some (vI x1), some (vI x2), some (vR 9), some (vR 10), some (vI (x5 + 1)), some (vI r2), some (vI r3), some (vI r4)] [] (LW W z6 f6) res) ∧ (¬ r6 = 0 → (∃ (r7 : Int32) (z7 : Nat → Int32) (f7 : Nat → FA), call 19 [vR (wJ W kt + 42), vI r2, vI r3, vR 9, vR 10] (LW W z6 f6) = some (some (vI r7), LW W z7 f7) ∧ res = (some (vI r7), LW W z7 f7)))))))))))))))) : XC call (mP 17) 2 [some (vR (wJ W kt + 42)), some (vI x1), some (vI x2), some (vR 9), some (vR 10), some (vI x5), o6, o7, o8] [] (LW W z f) res := by
  refine xc_b (i' := 4) (ls' := [some (vR (wJ W kt + 42)), some (vI x1), some (vI x2), some (vR 9), some (vR 10), some (vI x5), o6, o7, o8]) (st' := [vR (wJ W kt + 42), vI x5]) (L' := LW W z f) 2 (bc2_17_1 call x1 x2 x5 o6 o7 o8 _) ?_
  refine xc_b (i' := 5) (ls' := [some (vR (wJ W kt + 42)), some (vI x1), some (vI x2), some (vR 9), some (vR 10), some (vI x5), o6, o7, o8]) (st' := [vI (wn W kt), vI x5]) (L' := LW W z f) 1 (bc2_17_2 hW hk call x5 _ z f) ?_
  refine xc_if (it := 46) (ie := 6) (ls' := [some (vR (wJ W kt + 42)), some (vI x1), some (vI x2), some (vR 9), some (vR 10), some (vI x5), o6, o7, o8]) (st' := []) (bc2_17_3 call x5 (wn W kt) _ _) (fun q1 => ?_) (fun q1 => ?_)
  · have H := H.1 (cI3t q1 rfl rfl)
    refine xc_b (i' := 47) (ls' := [some (vR (wJ W kt + 42)), some (vI x1), some (vI x2), some (vR 9), some (vR 10), some (vI x5), o6, o7, o8]) (st' := [vI x2]) (L' := LW W z f) 1 (bc2_17_4 call x1 x2 x5 o6 o7 o8 _) ?_
    subst H
    exact xc_ret (bc2_17_5 call _ _ _)
  · have H := H.2 (cI3f q1 rfl rfl)
    refine xc_b (i' := 9) (ls' := [some (vR (wJ W kt + 42)), some (vI x1), some (vI x2), some (vR 9), some (vR 10), some (vI x5), o6, o7, o8]) (st' := [vI 0, vI x5, vR (wJ W kt + 42)]) (L' := LW W z f) 3 (bc2_17_6 call x1 x2 x5 o6 o7 o8 _) ?_
    obtain ⟨r1, z1, f1, hc, H⟩ := H
    refine xc_call (t := 10) (ls' := [some (vR (wJ W kt + 42)), some (vI x1), some (vI x2), some (vR 9), some (vR 10), some (vI x5), o6, o7, o8]) (st' := []) (bc2_17_7 hW hk call x5 0 _ z f) hc ?_
    show XC call (mP 17) 10 [some (vR (wJ W kt + 42)), some (vI x1), some (vI x2), some (vR 9), some (vR 10), some (vI x5), o6, o7, o8] [vI r1] (LW W z1 f1) res
    refine xc_b (i' := 11) (ls' := [some (vR (wJ W kt + 42)), some (vI x1), some (vI x2), some (vR 9), some (vR 10), some (vI x5), o6, o7, o8]) (st' := [vI x1, vI r1]) (L' := LW W z1 f1) 1 (bc2_17_8 call x1 x2 x5 o6 o7 o8 r1 _) ?_
    refine xc_if (it := 44) (ie := 12) (ls' := [some (vR (wJ W kt + 42)), some (vI x1), some (vI x2), some (vR 9), some (vR 10), some (vI x5), o6, o7, o8]) (st' := []) (bc2_17_9 call r1 x1 _ _) (fun q2 => ?_) (fun q2 => ?_)
    · have H := H.1 (cI1t q2)
      refine xc_b (i' := 45) (ls' := [some (vR (wJ W kt + 42)), some (vI x1), some (vI x2), some (vR 9), some (vR 10), some (vI (x5 + 1)), o6, o7, o8]) (st' := []) (L' := LW W z1 f1) 1 (bc2_17_10 call x1 x2 x5 o6 o7 o8 _) ?_
      refine xc_b (i' := 2) (ls' := [some (vR (wJ W kt + 42)), some (vI x1), some (vI x2), some (vR 9), some (vR 10), some (vI (x5 + 1)), o6, o7, o8]) (st' := []) (L' := LW W z1 f1) 1 (bc2_17_11 call x1 x2 (x5 + 1) o6 o7 o8 _) ?_
      exact H
    · have H := H.2 (cI1f q2)
      refine xc_b (i' := 15) (ls' := [some (vR (wJ W kt + 42)), some (vI x1), some (vI x2), some (vR 9), some (vR 10), some (vI x5), o6, o7, o8]) (st' := [vI 1, vI x5, vR (wJ W kt + 42)]) (L' := LW W z1 f1) 3 (bc2_17_12 call x1 x2 x5 o6 o7 o8 _) ?_
      obtain ⟨r2, z2, f2, hc, H⟩ := H
      refine xc_call (t := 16) (ls' := [some (vR (wJ W kt + 42)), some (vI x1), some (vI x2), some (vR 9), some (vR 10), some (vI x5), o6, o7, o8]) (st' := []) (bc2_17_13 hW hk call x5 1 _ z1 f1) hc ?_
      show XC call (mP 17) 16 [some (vR (wJ W kt + 42)), some (vI x1), some (vI x2), some (vR 9), some (vR 10), some (vI x5), o6, o7, o8] [vI r2] (LW W z2 f2) res
      refine xc_b (i' := 20) (ls' := [some (vR (wJ W kt + 42)), some (vI x1), some (vI x2), some (vR 9), some (vR 10), some (vI x5), some (vI r2), o7, o8]) (st' := [vI 2, vI x5, vR (wJ W kt + 42)]) (L' := LW W z2 f2) 4 (bc2_17_14 call x1 x2 x5 o6 o7 o8 r2 _) ?_
      obtain ⟨r3, z3, f3, hc, H⟩ := H
      refine xc_call (t := 21) (ls' := [some (vR (wJ W kt + 42)), some (vI x1), some (vI x2), some (vR 9), some (vR 10), some (vI x5), some (vI r2), o7, o8]) (st' := []) (bc2_17_15 hW hk call x5 2 _ z2 f2) hc ?_
      show XC call (mP 17) 21 [some (vR (wJ W kt + 42)), some (vI x1), some (vI x2), some (vR 9), some (vR 10), some (vI x5), some (vI r2), o7, o8] [vI r3] (LW W z3 f3) res
      refine xc_b (i' := 25) (ls' := [some (vR (wJ W kt + 42)), some (vI x1), some (vI x2), some (vR 9), some (vR 10), some (vI x5), some (vI r2), some (vI r3), o8]) (st' := [vI 3, vI x5, vR (wJ W kt + 42)]) (L' := LW W z3 f3) 4 (bc2_17_16 call x1 x2 x5 r2 o7 o8 r3 _) ?_
      obtain ⟨r4, z4, f4, hc, H⟩ := H
      refine xc_call (t := 26) (ls' := [some (vR (wJ W kt + 42)), some (vI x1), some (vI x2), some (vR 9), some (vR 10), some (vI x5), some (vI r2), some (vI r3), o8]) (st' := []) (bc2_17_17 hW hk call x5 3 _ z3 f3) hc ?_
      show XC call (mP 17) 26 [some (vR (wJ W kt + 42)), some (vI x1), some (vI x2), some (vR 9), some (vR 10), some (vI x5), some (vI r2), some (vI r3), o8] [vI r4] (LW W z4 f4) res
      refine xc_b (i' := 29) (ls' := [some (vR (wJ W kt + 42)), some (vI x1), some (vI x2), some (vR 9), some (vR 10), some (vI x5), some (vI r2), some (vI r3), some (vI r4)]) (st' := [vI r4, vI r3]) (L' := LW W z4 f4) 3 (bc2_17_18 call x1 x2 x5 r2 r3 o8 r4 _) ?_
      refine xc_if (it := 37) (ie := 30) (ls' := [some (vR (wJ W kt + 42)), some (vI x1), some (vI x2), some (vR 9), some (vR 10), some (vI x5), some (vI r2), some (vI r3), some (vI r4)]) (st' := []) (bc2_17_19 call r3 r4 _ _) (fun q3 => ?_) (fun q3 => ?_)
      · have H := H.1 (cI0t q3)
        refine xc_b (i' := 42) (ls' := [some (vR (wJ W kt + 42)), some (vI x1), some (vI x2), some (vR 9), some (vR 10), some (vI x5), some (vI r2), some (vI r3), some (vI r4)]) (st' := [vR 10, vR 9, vI r3, vI r2, vR (wJ W kt + 42)]) (L' := LW W z4 f4) 5 (bc2_17_20 call x1 x2 x5 r2 r3 r4 _) ?_
        obtain ⟨r5, z5, f5, hc, H⟩ := H
        refine xc_call (t := 43) (ls' := [some (vR (wJ W kt + 42)), some (vI x1), some (vI x2), some (vR 9), some (vR 10), some (vI x5), some (vI r2), some (vI r3), some (vI r4)]) (st' := []) (bc2_17_21 hW hk call r2 r3 _ z4 f4) hc ?_
        show XC call (mP 17) 43 [some (vR (wJ W kt + 42)), some (vI x1), some (vI x2), some (vR 9), some (vR 10), some (vI x5), some (vI r2), some (vI r3), some (vI r4)] [vI r5] (LW W z5 f5) res
        subst H
        exact xc_ret (bc2_17_22 call _ _ _)
      · have H := H.2 (cI0f q3)
        refine xc_b (i' := 35) (ls' := [some (vR (wJ W kt + 42)), some (vI x1), some (vI x2), some (vR 9), some (vR 10), some (vI x5), some (vI r2), some (vI r3), some (vI r4)]) (st' := [vR 10, vR 9, vI r4, vI r3, vR (wJ W kt + 42)]) (L' := LW W z4 f4) 5 (bc2_17_23 call x1 x2 x5 r2 r3 r4 _) ?_
        obtain ⟨r6, z6, f6, hc, H⟩ := H
        refine xc_call (t := 36) (ls' := [some (vR (wJ W kt + 42)), some (vI x1), some (vI x2), some (vR 9), some (vR 10), some (vI x5), some (vI r2), some (vI r3), some (vI r4)]) (st' := []) (bc2_17_24 hW hk call r3 r4 _ z4 f4) hc ?_
        show XC call (mP 17) 36 [some (vR (wJ W kt + 42)), some (vI x1), some (vI x2), some (vR 9), some (vR 10), some (vI x5), some (vI r2), some (vI r3), some (vI r4)] [vI r6] (LW W z6 f6) res
        refine xc_if (it := 44) (ie := 37) (ls' := [some (vR (wJ W kt + 42)), some (vI x1), some (vI x2), some (vR 9), some (vR 10), some (vI x5), some (vI r2), some (vI r3), some (vI r4)]) (st' := []) (bc2_17_25 call r6 _ _) (fun q4 => ?_) (fun q4 => ?_)
        · have H := H.1 (cI0t q4)
          refine xc_b (i' := 45) (ls' := [some (vR (wJ W kt + 42)), some (vI x1), some (vI x2), some (vR 9), some (vR 10), some (vI (x5 + 1)), some (vI r2), some (vI r3), some (vI r4)]) (st' := []) (L' := LW W z6 f6) 1 (bc2_17_26 call x1 x2 x5 r2 r3 r4 _) ?_
          refine xc_b (i' := 2) (ls' := [some (vR (wJ W kt + 42)), some (vI x1), some (vI x2), some (vR 9), some (vR 10), some (vI (x5 + 1)), some (vI r2), some (vI r3), some (vI r4)]) (st' := []) (L' := LW W z6 f6) 1 (bc2_17_27 call x1 x2 (x5 + 1) r2 r3 r4 _) ?_
          exact H
        · have H := H.2 (cI0f q4)
          refine xc_b (i' := 42) (ls' := [some (vR (wJ W kt + 42)), some (vI x1), some (vI x2), some (vR 9), some (vR 10), some (vI x5), some (vI r2), some (vI r3), some (vI r4)]) (st' := [vR 10, vR 9, vI r3, vI r2, vR (wJ W kt + 42)]) (L' := LW W z6 f6) 5 (bc2_17_20 call x1 x2 x5 r2 r3 r4 _) ?_
          obtain ⟨r7, z7, f7, hc, H⟩ := H
          refine xc_call (t := 43) (ls' := [some (vR (wJ W kt + 42)), some (vI x1), some (vI x2), some (vR 9), some (vR 10), some (vI x5), some (vI r2), some (vI r3), some (vI r4)]) (st' := []) (bc2_17_21 hW hk call r2 r3 _ z6 f6) hc ?_
          show XC call (mP 17) 43 [some (vR (wJ W kt + 42)), some (vI x1), some (vI x2), some (vR 9), some (vR 10), some (vI x5), some (vI r2), some (vI r3), some (vI r4)] [vI r7] (LW W z7 f7) res
          subst H
          exact xc_ret (bc2_17_22 call _ _ _)
set_option maxRecDepth 100000 in
theorem b19_1 (call : QC FA) (x1 : Int32) (x2 : Int32) (o5 : Option PV) (o6 : Option PV) (o7 : Option PV) (o8 : Option PV) (L : QH FA) (F : Nat) : xnG call 19 (F + 4) 0 [some (vR (wJ W kt + 42)), some (vI x1), some (vI x2), some (vR 9), some (vR 10), o5, o6, o7, o8] [] L = xnG call 19 F 4 [some (vR (wJ W kt + 42)), some (vI x1), some (vI x2), some (vR 9), some (vR 10), some (vI 0), o6, o7, o8] [vI 0, vI x1] L := rfl
set_option maxRecDepth 100000 in
theorem b19_2 (call : QC FA) (x y : Int32) (ls : List (Option PV)) (L : QH FA) (F : Nat) : xnG call 19 (F + 1) 4 ls [vI y, vI x] L = bif pcmp 2 x y then xnG call 19 F 5 ls [vI y] L else xnG call 19 F 5 ls [vI x] L := pmxr (xnG call 19 F) 5 x y ls [] L rfl
set_option maxRecDepth 100000 in
theorem b19_3 (call : QC FA) (x1 : Int32) (x2 : Int32) (x5 : Int32) (o6 : Option PV) (o7 : Option PV) (o8 : Option PV) (s0 : Int32) (L : QH FA) (F : Nat) : xnG call 19 (F + 1) 5 [some (vR (wJ W kt + 42)), some (vI x1), some (vI x2), some (vR 9), some (vR 10), some (vI x5), o6, o7, o8] [vI s0] L = xnG call 19 F 6 [some (vR (wJ W kt + 42)), some (vI x1), some (vI x2), some (vR 9), some (vR 10), some (vI x5), some (vI s0), o7, o8] [] L := rfl
theorem vc19_0 (call : QC FA) (x1 : Int32) (x2 : Int32) (o5 : Option PV) (o6 : Option PV) (o7 : Option PV) (o8 : Option PV) (z : Nat → Int32) (f : Nat → FA) (res : Option PV × QH FA) (H : ((I x1 < 0 → XC call (mP 19) 6 [some (vR (wJ W kt + 42)), some (vI x1), some (vI x2), some (vR 9), some (vR 10), some (vI 0), some (vI 0), o7, o8] [] (LW W z f) res) ∧ (0 ≤ I x1 → XC call (mP 19) 6 [some (vR (wJ W kt + 42)), some (vI x1), some (vI x2), some (vR 9), some (vR 10), some (vI 0), some (vI x1), o7, o8] [] (LW W z f) res))) : XC call (mP 19) 0 [some (vR (wJ W kt + 42)), some (vI x1), some (vI x2), some (vR 9), some (vR 10), o5, o6, o7, o8] [] (LW W z f) res := by
  refine xc_b (i' := 4) (ls' := [some (vR (wJ W kt + 42)), some (vI x1), some (vI x2), some (vR 9), some (vR 10), some (vI 0), o6, o7, o8]) (st' := [vI 0, vI x1]) (L' := LW W z f) 4 (b19_1 call x1 x2 o5 o6 o7 o8 _) ?_
  refine xc_if2 (it := 5) (ie := 5) (ls' := [some (vR (wJ W kt + 42)), some (vI x1), some (vI x2), some (vR 9), some (vR 10), some (vI 0), o6, o7, o8]) (st1 := [vI 0]) (st2 := [vI x1]) (b19_2 call x1 0 _ _) (fun q1 => ?_) (fun q1 => ?_)
  · have H := H.1 (cI2t q1 rfl rfl)
    refine xc_b (i' := 6) (ls' := [some (vR (wJ W kt + 42)), some (vI x1), some (vI x2), some (vR 9), some (vR 10), some (vI 0), some (vI 0), o7, o8]) (st' := []) (L' := LW W z f) 1 (b19_3 call x1 x2 0 o6 o7 o8 0 _) ?_
    exact H
  · have H := H.2 (cI2f q1 rfl rfl)
    refine xc_b (i' := 6) (ls' := [some (vR (wJ W kt + 42)), some (vI x1), some (vI x2), some (vR 9), some (vR 10), some (vI 0), some (vI x1), o7, o8]) (st' := []) (L' := LW W z f) 1 (b19_3 call x1 x2 0 o6 o7 o8 x1 _) ?_
    exact H
set_option maxRecDepth 100000 in
theorem bc6_19_1 (call : QC FA) (o1 : Option PV) (x2 : Int32) (x5 : Int32) (x6 : Int32) (o7 : Option PV) (o8 : Option PV) (L : QH FA) (F : Nat) : xnG call 19 (F + 2) 6 [some (vR (wJ W kt + 42)), o1, some (vI x2), some (vR 9), some (vR 10), some (vI x5), some (vI x6), o7, o8] [] L = xnG call 19 F 8 [some (vR (wJ W kt + 42)), o1, some (vI x2), some (vR 9), some (vR 10), some (vI x5), some (vI x6), o7, o8] [vI x2, vI x6] L := rfl
set_option maxRecDepth 100000 in
theorem bc6_19_2 (call : QC FA) (x y : Int32) (ls : List (Option PV)) (L : QH FA) (F : Nat) : xnG call 19 (F + 1) 8 ls [vI y, vI x] L = bif pcmp 3 x y then xnG call 19 F 109 ls [] L else xnG call 19 F 9 ls [] L := rfl
set_option maxRecDepth 100000 in
theorem bc6_19_3 (call : QC FA) (o1 : Option PV) (x2 : Int32) (x5 : Int32) (x6 : Int32) (o7 : Option PV) (o8 : Option PV) (L : QH FA) (F : Nat) : xnG call 19 (F + 1) 109 [some (vR (wJ W kt + 42)), o1, some (vI x2), some (vR 9), some (vR 10), some (vI x5), some (vI x6), o7, o8] [] L = xnG call 19 F 110 [some (vR (wJ W kt + 42)), o1, some (vI x2), some (vR 9), some (vR 10), some (vI x5), some (vI x6), o7, o8] [vI x5] L := rfl
set_option maxRecDepth 100000 in
theorem bc6_19_4 (call : QC FA) (x : Int32) (ls : List (Option PV)) (L : QH FA) (F : Nat) : xnG call 19 (F + 1) 110 ls [vI x] L = bif pcmp 5 x 0 then xnG call 19 F 115 ls [] L else xnG call 19 F 111 ls [] L := rfl
set_option maxRecDepth 100000 in
theorem bc6_19_5 (call : QC FA) (o1 : Option PV) (x2 : Int32) (x5 : Int32) (x6 : Int32) (o7 : Option PV) (o8 : Option PV) (L : QH FA) (F : Nat) : xnG call 19 (F + 1) 115 [some (vR (wJ W kt + 42)), o1, some (vI x2), some (vR 9), some (vR 10), some (vI x5), some (vI x6), o7, o8] [] L = xnG call 19 F 116 [some (vR (wJ W kt + 42)), o1, some (vI x2), some (vR 9), some (vR 10), some (vI x5), some (vI x6), o7, o8] [vI 0] L := rfl
set_option maxRecDepth 100000 in
theorem bc6_19_6 (call : QC FA) (x : Int32) (ls : List (Option PV)) (L : QH FA) (F : Nat) : xnG call 19 (F + 1) 116 ls [vI x] L = some (some (vI x), L) := rfl
set_option maxRecDepth 100000 in
theorem bc6_19_7 (call : QC FA) (o1 : Option PV) (x2 : Int32) (x5 : Int32) (x6 : Int32) (o7 : Option PV) (o8 : Option PV) (L : QH FA) (F : Nat) : xnG call 19 (F + 2) 111 [some (vR (wJ W kt + 42)), o1, some (vI x2), some (vR 9), some (vR 10), some (vI x5), some (vI x6), o7, o8] [] L = xnG call 19 F 113 [some (vR (wJ W kt + 42)), o1, some (vI x2), some (vR 9), some (vR 10), some (vI x5), some (vI x6), o7, o8] [vI 0, vR 10] L := rfl
set_option maxRecDepth 100000 in
theorem bc6_19_8 (call : QC FA) (x : Int32) (ls : List (Option PV)) (z : Nat → Int32) (f : Nat → FA) (F : Nat) : xnG call 19 (F + 1) 113 ls [vI x, vR 10] (LW W z f) = bif (Nat.beq 0 0 && pin x 32) then xnG call 19 F 114 ls [vI (f 10 (ix x))] (LW W z f) else none := rfl
set_option maxRecDepth 100000 in
theorem bc6_19_9 (call : QC FA) (o1 : Option PV) (x2 : Int32) (x5 : Int32) (x6 : Int32) (o7 : Option PV) (o8 : Option PV) (s0 : Int32) (L : QH FA) (F : Nat) : xnG call 19 (F + 1) 114 [some (vR (wJ W kt + 42)), o1, some (vI x2), some (vR 9), some (vR 10), some (vI x5), some (vI x6), o7, o8] [vI s0] L = xnG call 19 F 116 [some (vR (wJ W kt + 42)), o1, some (vI x2), some (vR 9), some (vR 10), some (vI x5), some (vI x6), o7, o8] [vI s0] L := rfl
set_option maxRecDepth 100000 in
theorem bc6_19_10 (call : QC FA) (o1 : Option PV) (x2 : Int32) (x5 : Int32) (x6 : Int32) (o7 : Option PV) (o8 : Option PV) (L : QH FA) (F : Nat) : xnG call 19 (F + 2) 9 [some (vR (wJ W kt + 42)), o1, some (vI x2), some (vR 9), some (vR 10), some (vI x5), some (vI x6), o7, o8] [] L = xnG call 19 F 11 [some (vR (wJ W kt + 42)), o1, some (vI x2), some (vR 9), some (vR 10), some (vI x5), some (vI x6), o7, o8] [vR (wJ W kt + 42), vI x6] L := rfl
set_option maxRecDepth 100000 in
theorem bc6_19_11 (hW : WTX W) (hk : kt < 4) (call : QC FA) (s0 : Int32) (ls : List (Option PV)) (z : Nat → Int32) (f : Nat → FA) (F : Nat) : xnG call 19 (F + 1) 11 ls [vR (wJ W kt + 42), vI s0] (LW W z f) = xnG call 19 F 12 ls [vR (wC W kt + 42), vI s0] (LW W z f) := gt_2 (ih := xnG call 19 F) (t := 12) (st := [vI s0]) hW hk
set_option maxRecDepth 100000 in
theorem bc6_19_12 (hW : WTX W) (hk : kt < 4) (call : QC FA) (s0 : Int32) (ls : List (Option PV)) (z : Nat → Int32) (f : Nat → FA) (F : Nat) : xnG call 19 (F + 1) 12 ls [vR (wC W kt + 42), vI s0] (LW W z f) = xnG call 19 F 13 ls [vI (nI (wM W kt)), vI s0] (LW W z f) := ga_h (ih := xnG call 19 F) (t := 13) (st := [vI s0]) hW hk
set_option maxRecDepth 100000 in
theorem bc6_19_13 (call : QC FA) (x y : Int32) (ls : List (Option PV)) (L : QH FA) (F : Nat) : xnG call 19 (F + 1) 13 ls [vI y, vI x] L = bif pcmp 3 x y then xnG call 19 F 109 ls [] L else xnG call 19 F 14 ls [] L := rfl
set_option maxRecDepth 100000 in
theorem bc6_19_14 (call : QC FA) (o1 : Option PV) (x2 : Int32) (x5 : Int32) (x6 : Int32) (o7 : Option PV) (o8 : Option PV) (L : QH FA) (F : Nat) : xnG call 19 (F + 1) 14 [some (vR (wJ W kt + 42)), o1, some (vI x2), some (vR 9), some (vR 10), some (vI x5), some (vI x6), o7, o8] [] L = xnG call 19 F 15 [some (vR (wJ W kt + 42)), o1, some (vI x2), some (vR 9), some (vR 10), some (vI x5), some (vI x6), o7, o8] [vR (wJ W kt + 42)] L := rfl
set_option maxRecDepth 100000 in
theorem bc6_19_15 (hW : WTX W) (hk : kt < 4) (call : QC FA) (ls : List (Option PV)) (z : Nat → Int32) (f : Nat → FA) (F : Nat) : xnG call 19 (F + 1) 15 ls [vR (wJ W kt + 42)] (LW W z f) = xnG call 19 F 16 ls [vR (wC W kt + 42)] (LW W z f) := gt_2 (ih := xnG call 19 F) (t := 16) (st := []) hW hk
set_option maxRecDepth 100000 in
theorem bc6_19_16 (call : QC FA) (o1 : Option PV) (x2 : Int32) (x5 : Int32) (x6 : Int32) (o7 : Option PV) (o8 : Option PV) (L : QH FA) (F : Nat) : xnG call 19 (F + 1) 16 [some (vR (wJ W kt + 42)), o1, some (vI x2), some (vR 9), some (vR 10), some (vI x5), some (vI x6), o7, o8] [vR (wC W kt + 42)] L = xnG call 19 F 17 [some (vR (wJ W kt + 42)), o1, some (vI x2), some (vR 9), some (vR 10), some (vI x5), some (vI x6), o7, o8] [vI x6, vR (wC W kt + 42)] L := rfl
set_option maxRecDepth 100000 in
theorem bc6_19_17 (hW : WTX W) (hk : kt < 4) (call : QC FA) (x : Int32) (ls : List (Option PV)) (z : Nat → Int32) (f : Nat → FA) (F : Nat) : xnG call 19 (F + 1) 17 ls [vI x, vR (wC W kt + 42)] (LW W z f) = bif pin x (wM W kt) then xnG call 19 F 18 ls [vI (wh W kt (ix x))] (LW W z f) else none := gl_h (ih := xnG call 19 F) (t := 18) (st := []) hW hk x
set_option maxRecDepth 100000 in
theorem bc6_19_18 (call : QC FA) (o1 : Option PV) (x2 : Int32) (x5 : Int32) (x6 : Int32) (o7 : Option PV) (o8 : Option PV) (s0 : Int32) (L : QH FA) (F : Nat) : xnG call 19 (F + 4) 18 [some (vR (wJ W kt + 42)), o1, some (vI x2), some (vR 9), some (vR 10), some (vI x5), some (vI x6), o7, o8] [vI s0] L = xnG call 19 F 22 [some (vR (wJ W kt + 42)), o1, some (vI x2), some (vR 9), some (vR 10), some (vI x5), some (vI x6), some (vI (s0 &&& 15)), o8] [vR (wJ W kt + 42)] L := rfl
set_option maxRecDepth 100000 in
theorem bc6_19_19 (hW : WTX W) (hk : kt < 4) (call : QC FA) (ls : List (Option PV)) (z : Nat → Int32) (f : Nat → FA) (F : Nat) : xnG call 19 (F + 1) 22 ls [vR (wJ W kt + 42)] (LW W z f) = xnG call 19 F 23 ls [vR (wC W kt + 42)] (LW W z f) := gt_2 (ih := xnG call 19 F) (t := 23) (st := []) hW hk
set_option maxRecDepth 100000 in
theorem bc6_19_20 (call : QC FA) (o1 : Option PV) (x2 : Int32) (x5 : Int32) (x6 : Int32) (x7 : Int32) (o8 : Option PV) (L : QH FA) (F : Nat) : xnG call 19 (F + 1) 23 [some (vR (wJ W kt + 42)), o1, some (vI x2), some (vR 9), some (vR 10), some (vI x5), some (vI x6), some (vI x7), o8] [vR (wC W kt + 42)] L = xnG call 19 F 24 [some (vR (wJ W kt + 42)), o1, some (vI x2), some (vR 9), some (vR 10), some (vI x5), some (vI x6), some (vI x7), o8] [vI x6, vR (wC W kt + 42)] L := rfl
set_option maxRecDepth 100000 in
theorem bc6_19_21 (hW : WTX W) (hk : kt < 4) (call : QC FA) (x : Int32) (ls : List (Option PV)) (z : Nat → Int32) (f : Nat → FA) (F : Nat) : xnG call 19 (F + 1) 24 ls [vI x, vR (wC W kt + 42)] (LW W z f) = bif pin x (wM W kt) then xnG call 19 F 25 ls [vI (wh W kt (ix x))] (LW W z f) else none := gl_h (ih := xnG call 19 F) (t := 25) (st := []) hW hk x
set_option maxRecDepth 100000 in
theorem bc6_19_22 (call : QC FA) (o1 : Option PV) (x2 : Int32) (x5 : Int32) (x6 : Int32) (x7 : Int32) (o8 : Option PV) (s0 : Int32) (L : QH FA) (F : Nat) : xnG call 19 (F + 4) 25 [some (vR (wJ W kt + 42)), o1, some (vI x2), some (vR 9), some (vR 10), some (vI x5), some (vI x6), some (vI x7), o8] [vI s0] L = xnG call 19 F 29 [some (vR (wJ W kt + 42)), o1, some (vI x2), some (vR 9), some (vR 10), some (vI x5), some (vI x6), some (vI x7), some (vI (s0 >>> (4 &&& 31)))] [vI x7] L := rfl
set_option maxRecDepth 100000 in
theorem bc6_19_23 (call : QC FA) (x : Int32) (ls : List (Option PV)) (L : QH FA) (F : Nat) : xnG call 19 (F + 1) 29 ls [vI x] L = bif pcmp 0 x 0 then xnG call 19 F 33 ls [] L else xnG call 19 F 30 ls [] L := rfl
set_option maxRecDepth 100000 in
theorem bc6_19_24 (call : QC FA) (o1 : Option PV) (x2 : Int32) (x5 : Int32) (x6 : Int32) (x7 : Int32) (x8 : Int32) (z : Nat → Int32) (f : Nat → FA) (F : Nat) : xnG call 19 (F + 3) 33 [some (vR (wJ W kt + 42)), o1, some (vI x2), some (vR 9), some (vR 10), some (vI x5), some (vI x6), some (vI x7), some (vI x8)] [] (LW W z f) = xnG call 19 F 36 [some (vR (wJ W kt + 42)), o1, some (vI x2), some (vR 9), some (vR 10), some (vI x5), some (vI x6), some (vI x7), some (vI x8)] [vI (nI 32), vI x5] (LW W z f) := rfl
set_option maxRecDepth 100000 in
theorem bc6_19_25 (call : QC FA) (x y : Int32) (ls : List (Option PV)) (L : QH FA) (F : Nat) : xnG call 19 (F + 1) 36 ls [vI y, vI x] L = bif pcmp 3 x y then xnG call 19 F 107 ls [] L else xnG call 19 F 37 ls [] L := rfl
set_option maxRecDepth 100000 in
theorem bc6_19_26 (call : QC FA) (o1 : Option PV) (x2 : Int32) (x5 : Int32) (x6 : Int32) (x7 : Int32) (x8 : Int32) (L : QH FA) (F : Nat) : xnG call 19 (F + 1) 107 [some (vR (wJ W kt + 42)), o1, some (vI x2), some (vR 9), some (vR 10), some (vI x5), some (vI x6), some (vI x7), some (vI x8)] [] L = xnG call 19 F 108 [some (vR (wJ W kt + 42)), o1, some (vI x2), some (vR 9), some (vR 10), some (vI x5), some (vI (x6 + 1)), some (vI x7), some (vI x8)] [] L := rfl
set_option maxRecDepth 100000 in
theorem bc6_19_27 (call : QC FA) (o1 : Option PV) (x2 : Int32) (x5 : Int32) (x6 : Int32) (x7 : Int32) (x8 : Int32) (L : QH FA) (F : Nat) : xnG call 19 (F + 1) 108 [some (vR (wJ W kt + 42)), o1, some (vI x2), some (vR 9), some (vR 10), some (vI x5), some (vI x6), some (vI x7), some (vI x8)] [] L = xnG call 19 F 6 [some (vR (wJ W kt + 42)), o1, some (vI x2), some (vR 9), some (vR 10), some (vI x5), some (vI x6), some (vI x7), some (vI x8)] [] L := rfl
set_option maxRecDepth 100000 in
theorem bc6_19_28 (call : QC FA) (o1 : Option PV) (x2 : Int32) (x5 : Int32) (x6 : Int32) (x7 : Int32) (x8 : Int32) (L : QH FA) (F : Nat) : xnG call 19 (F + 1) 37 [some (vR (wJ W kt + 42)), o1, some (vI x2), some (vR 9), some (vR 10), some (vI x5), some (vI x6), some (vI x7), some (vI x8)] [] L = xnG call 19 F 38 [some (vR (wJ W kt + 42)), o1, some (vI x2), some (vR 9), some (vR 10), some (vI x5), some (vI x6), some (vI x7), some (vI x8)] [vI x8] L := rfl
set_option maxRecDepth 100000 in
theorem bc6_19_29 (call : QC FA) (x : Int32) (ls : List (Option PV)) (L : QH FA) (F : Nat) : xnG call 19 (F + 1) 38 ls [vI x] L = bif pcmp 2 x 0 then xnG call 19 F 107 ls [] L else xnG call 19 F 39 ls [] L := rfl
set_option maxRecDepth 100000 in
theorem bc6_19_30 (call : QC FA) (o1 : Option PV) (x2 : Int32) (x5 : Int32) (x6 : Int32) (x7 : Int32) (x8 : Int32) (L : QH FA) (F : Nat) : xnG call 19 (F + 4) 39 [some (vR (wJ W kt + 42)), o1, some (vI x2), some (vR 9), some (vR 10), some (vI x5), some (vI x6), some (vI x7), some (vI x8)] [] L = xnG call 19 F 43 [some (vR (wJ W kt + 42)), o1, some (vI x2), some (vR 9), some (vR 10), some (vI x5), some (vI x6), some (vI x7), some (vI x8)] [vI 1, vI x7, vI x5, vR 10] L := rfl
set_option maxRecDepth 100000 in
theorem bc6_19_31 (call : QC FA) (x y : Int32) (s0 : Int32) (ls : List (Option PV)) (L : QH FA) (F : Nat) : xnG call 19 (F + 1) 43 ls [vI y, vI x, vI s0, vR 10] L = bif pcmp 1 x y then xnG call 19 F 52 ls [vI s0, vR 10] L else xnG call 19 F 44 ls [vI s0, vR 10] L := rfl
set_option maxRecDepth 100000 in
theorem bc6_19_32 (call : QC FA) (o1 : Option PV) (x2 : Int32) (x5 : Int32) (x6 : Int32) (x7 : Int32) (x8 : Int32) (s0 : Int32) (L : QH FA) (F : Nat) : xnG call 19 (F + 1) 52 [some (vR (wJ W kt + 42)), o1, some (vI x2), some (vR 9), some (vR 10), some (vI x5), some (vI x6), some (vI x7), some (vI x8)] [vI s0, vR 10] L = xnG call 19 F 53 [some (vR (wJ W kt + 42)), o1, some (vI x2), some (vR 9), some (vR 10), some (vI x5), some (vI x6), some (vI x7), some (vI x8)] [vI x8, vI s0, vR 10] L := rfl
set_option maxRecDepth 100000 in
theorem bc6_19_33 (call : QC FA) (x y : Int32) (ls : List (Option PV)) (z : Nat → Int32) (f : Nat → FA) (F : Nat) : xnG call 19 (F + 1) 53 ls [vI y, vI x, vR 10] (LW W z f) = bif (Nat.beq 0 0 && pin x 32) then xnG call 19 F 54 ls [] (LW W z (uA f 10 (upd (f 10) (ix x) y))) else none := rfl
set_option maxRecDepth 100000 in
theorem bc6_19_34 (call : QC FA) (o1 : Option PV) (x2 : Int32) (x5 : Int32) (x6 : Int32) (x7 : Int32) (x8 : Int32) (L : QH FA) (F : Nat) : xnG call 19 (F + 1) 54 [some (vR (wJ W kt + 42)), o1, some (vI x2), some (vR 9), some (vR 10), some (vI x5), some (vI x6), some (vI x7), some (vI x8)] [] L = xnG call 19 F 55 [some (vR (wJ W kt + 42)), o1, some (vI x2), some (vR 9), some (vR 10), some (vI (x5 + 1)), some (vI x6), some (vI x7), some (vI x8)] [] L := rfl
set_option maxRecDepth 100000 in
theorem bc6_19_35 (call : QC FA) (o1 : Option PV) (x2 : Int32) (x5 : Int32) (x6 : Int32) (x7 : Int32) (x8 : Int32) (L : QH FA) (F : Nat) : xnG call 19 (F + 1) 55 [some (vR (wJ W kt + 42)), o1, some (vI x2), some (vR 9), some (vR 10), some (vI x5), some (vI x6), some (vI x7), some (vI x8)] [] L = xnG call 19 F 107 [some (vR (wJ W kt + 42)), o1, some (vI x2), some (vR 9), some (vR 10), some (vI x5), some (vI x6), some (vI x7), some (vI x8)] [] L := rfl
set_option maxRecDepth 100000 in
theorem bc6_19_36 (call : QC FA) (o1 : Option PV) (x2 : Int32) (x5 : Int32) (x6 : Int32) (x7 : Int32) (x8 : Int32) (s0 : Int32) (z : Nat → Int32) (f : Nat → FA) (F : Nat) : xnG call 19 (F + 3) 44 [some (vR (wJ W kt + 42)), o1, some (vI x2), some (vR 9), some (vR 10), some (vI x5), some (vI x6), some (vI x7), some (vI x8)] [vI s0, vR 10] (LW W z f) = xnG call 19 F 47 [some (vR (wJ W kt + 42)), o1, some (vI x2), some (vR 9), some (vR 10), some (vI x5), some (vI x6), some (vI x7), some (vI x8)] [vI (nI 10), vI x8, vI s0, vR 10] (LW W z f) := rfl
set_option maxRecDepth 100000 in
theorem bc6_19_37 (call : QC FA) (x y : Int32) (s0 : Int32) (ls : List (Option PV)) (L : QH FA) (F : Nat) : xnG call 19 (F + 1) 47 ls [vI y, vI x, vI s0, vR 10] L = bif pcmp 3 x y then xnG call 19 F 52 ls [vI s0, vR 10] L else xnG call 19 F 48 ls [vI s0, vR 10] L := rfl
set_option maxRecDepth 100000 in
theorem bc6_19_38 (call : QC FA) (o1 : Option PV) (x2 : Int32) (x5 : Int32) (x6 : Int32) (x7 : Int32) (x8 : Int32) (s0 : Int32) (L : QH FA) (F : Nat) : xnG call 19 (F + 2) 48 [some (vR (wJ W kt + 42)), o1, some (vI x2), some (vR 9), some (vR 10), some (vI x5), some (vI x6), some (vI x7), some (vI x8)] [vI s0, vR 10] L = xnG call 19 F 50 [some (vR (wJ W kt + 42)), o1, some (vI x2), some (vR 9), some (vR 10), some (vI x5), some (vI x6), some (vI x7), some (vI x8)] [vI x8, vR 9, vI s0, vR 10] L := rfl
set_option maxRecDepth 100000 in
theorem bc6_19_39 (call : QC FA) (x : Int32) (s0 : Int32) (ls : List (Option PV)) (z : Nat → Int32) (f : Nat → FA) (F : Nat) : xnG call 19 (F + 1) 50 ls [vI x, vR 9, vI s0, vR 10] (LW W z f) = bif (Nat.beq 0 0 && pin x 10) then xnG call 19 F 51 ls [vI (f 9 (ix x)), vI s0, vR 10] (LW W z f) else none := rfl
set_option maxRecDepth 100000 in
theorem bc6_19_40 (call : QC FA) (o1 : Option PV) (x2 : Int32) (x5 : Int32) (x6 : Int32) (x7 : Int32) (x8 : Int32) (s0 : Int32) (s1 : Int32) (L : QH FA) (F : Nat) : xnG call 19 (F + 1) 51 [some (vR (wJ W kt + 42)), o1, some (vI x2), some (vR 9), some (vR 10), some (vI x5), some (vI x6), some (vI x7), some (vI x8)] [vI s0, vI s1, vR 10] L = xnG call 19 F 53 [some (vR (wJ W kt + 42)), o1, some (vI x2), some (vR 9), some (vR 10), some (vI x5), some (vI x6), some (vI x7), some (vI x8)] [vI s0, vI s1, vR 10] L := rfl
set_option maxRecDepth 100000 in
theorem bc6_19_41 (call : QC FA) (o1 : Option PV) (x2 : Int32) (x5 : Int32) (x6 : Int32) (x7 : Int32) (x8 : Int32) (L : QH FA) (F : Nat) : xnG call 19 (F + 2) 30 [some (vR (wJ W kt + 42)), o1, some (vI x2), some (vR 9), some (vR 10), some (vI x5), some (vI x6), some (vI x7), some (vI x8)] [] L = xnG call 19 F 32 [some (vR (wJ W kt + 42)), o1, some (vI x2), some (vR 9), some (vR 10), some (vI x5), some (vI x6), some (vI x7), some (vI x8)] [vI 1, vI x7] L := rfl
set_option maxRecDepth 100000 in
theorem bc6_19_42 (call : QC FA) (x y : Int32) (ls : List (Option PV)) (L : QH FA) (F : Nat) : xnG call 19 (F + 1) 32 ls [vI y, vI x] L = bif pcmp 1 x y then xnG call 19 F 56 ls [] L else xnG call 19 F 33 ls [] L := rfl
set_option maxRecDepth 100000 in
theorem bc6_19_43 (call : QC FA) (o1 : Option PV) (x2 : Int32) (x5 : Int32) (x6 : Int32) (x7 : Int32) (x8 : Int32) (L : QH FA) (F : Nat) : xnG call 19 (F + 2) 56 [some (vR (wJ W kt + 42)), o1, some (vI x2), some (vR 9), some (vR 10), some (vI x5), some (vI x6), some (vI x7), some (vI x8)] [] L = xnG call 19 F 58 [some (vR (wJ W kt + 42)), o1, some (vI x2), some (vR 9), some (vR 10), some (vI x5), some (vI x6), some (vI x7), some (vI x8)] [vI 2, vI x7] L := rfl
set_option maxRecDepth 100000 in
theorem bc6_19_44 (call : QC FA) (x y : Int32) (ls : List (Option PV)) (L : QH FA) (F : Nat) : xnG call 19 (F + 1) 58 ls [vI y, vI x] L = bif pcmp 0 x y then xnG call 19 F 62 ls [] L else xnG call 19 F 59 ls [] L := rfl
set_option maxRecDepth 100000 in
theorem bc6_19_45 (call : QC FA) (o1 : Option PV) (x2 : Int32) (x5 : Int32) (x6 : Int32) (x7 : Int32) (x8 : Int32) (L : QH FA) (F : Nat) : xnG call 19 (F + 1) 62 [some (vR (wJ W kt + 42)), o1, some (vI x2), some (vR 9), some (vR 10), some (vI x5), some (vI x6), some (vI x7), some (vI x8)] [] L = xnG call 19 F 63 [some (vR (wJ W kt + 42)), o1, some (vI x2), some (vR 9), some (vR 10), some (vI x5), some (vI x6), some (vI x7), some (vI x8)] [vI x5] L := rfl
set_option maxRecDepth 100000 in
theorem bc6_19_46 (call : QC FA) (x : Int32) (ls : List (Option PV)) (L : QH FA) (F : Nat) : xnG call 19 (F + 1) 63 ls [vI x] L = bif pcmp 5 x 0 then xnG call 19 F 107 ls [] L else xnG call 19 F 64 ls [] L := rfl
set_option maxRecDepth 100000 in
theorem bc6_19_47 (call : QC FA) (o1 : Option PV) (x2 : Int32) (x5 : Int32) (x6 : Int32) (x7 : Int32) (x8 : Int32) (L : QH FA) (F : Nat) : xnG call 19 (F + 6) 64 [some (vR (wJ W kt + 42)), o1, some (vI x2), some (vR 9), some (vR 10), some (vI x5), some (vI x6), some (vI x7), some (vI x8)] [] L = xnG call 19 F 70 [some (vR (wJ W kt + 42)), o1, some (vI x2), some (vR 9), some (vR 10), some (vI x5), some (vI x6), some (vI x7), some (vI x8)] [vI 3, vI x7, vI (x5 - 1), vR 10] L := rfl
set_option maxRecDepth 100000 in
theorem bc6_19_48 (call : QC FA) (x y : Int32) (s0 : Int32) (ls : List (Option PV)) (L : QH FA) (F : Nat) : xnG call 19 (F + 1) 70 ls [vI y, vI x, vI s0, vR 10] L = bif pcmp 1 x y then xnG call 19 F 79 ls [vI s0, vR 10] L else xnG call 19 F 71 ls [vI s0, vR 10] L := rfl
set_option maxRecDepth 100000 in
theorem bc6_19_49 (call : QC FA) (o1 : Option PV) (x2 : Int32) (x5 : Int32) (x6 : Int32) (x7 : Int32) (x8 : Int32) (s0 : Int32) (L : QH FA) (F : Nat) : xnG call 19 (F + 4) 79 [some (vR (wJ W kt + 42)), o1, some (vI x2), some (vR 9), some (vR 10), some (vI x5), some (vI x6), some (vI x7), some (vI x8)] [vI s0, vR 10] L = xnG call 19 F 83 [some (vR (wJ W kt + 42)), o1, some (vI x2), some (vR 9), some (vR 10), some (vI x5), some (vI x6), some (vI x7), some (vI x8)] [vI (x5 - 1), vR 10, vI s0, vR 10] L := rfl
set_option maxRecDepth 100000 in
theorem bc6_19_50 (call : QC FA) (x : Int32) (s0 : Int32) (ls : List (Option PV)) (z : Nat → Int32) (f : Nat → FA) (F : Nat) : xnG call 19 (F + 1) 83 ls [vI x, vR 10, vI s0, vR 10] (LW W z f) = bif (Nat.beq 0 0 && pin x 32) then xnG call 19 F 84 ls [vI (f 10 (ix x)), vI s0, vR 10] (LW W z f) else none := rfl
set_option maxRecDepth 100000 in
theorem bc6_19_51 (call : QC FA) (o1 : Option PV) (x2 : Int32) (x5 : Int32) (x6 : Int32) (x7 : Int32) (x8 : Int32) (s0 : Int32) (s1 : Int32) (L : QH FA) (F : Nat) : xnG call 19 (F + 1) 84 [some (vR (wJ W kt + 42)), o1, some (vI x2), some (vR 9), some (vR 10), some (vI x5), some (vI x6), some (vI x7), some (vI x8)] [vI s0, vI s1, vR 10] L = xnG call 19 F 85 [some (vR (wJ W kt + 42)), o1, some (vI x2), some (vR 9), some (vR 10), some (vI x5), some (vI x6), some (vI x7), some (vI x8)] [vI x8, vI s0, vI s1, vR 10] L := rfl
set_option maxRecDepth 100000 in
theorem bc6_19_52 (call : QC FA) (a0 : Int32) (a1 : Int32) (s0 : Int32) (ls : List (Option PV)) (z : Nat → Int32) (f : Nat → FA) (F : Nat) : xnG call 19 (F + 1) 85 ls [vI a1, vI a0, vI s0, vR 10] (LW W z f) = cbd (call 20 [vI a0, vI a1] (LW W z f)) (fun r L' => xnG call 19 F 86 ls (r.toList ++ [vI s0, vR 10]) L') := pcZ (ih := xnG call 19 F) (call := call) (a := 20) (b := 2) (t := 86) (ls := ls) (As := [vI a0, vI a1]) (st' := [vI s0, vR 10]) (L := LW W z f) rfl rfl
set_option maxRecDepth 100000 in
theorem bc6_19_53 (call : QC FA) (x y : Int32) (ls : List (Option PV)) (z : Nat → Int32) (f : Nat → FA) (F : Nat) : xnG call 19 (F + 1) 86 ls [vI y, vI x, vR 10] (LW W z f) = bif (Nat.beq 0 0 && pin x 32) then xnG call 19 F 87 ls [] (LW W z (uA f 10 (upd (f 10) (ix x) y))) else none := rfl
set_option maxRecDepth 100000 in
theorem bc6_19_54 (call : QC FA) (o1 : Option PV) (x2 : Int32) (x5 : Int32) (x6 : Int32) (x7 : Int32) (x8 : Int32) (L : QH FA) (F : Nat) : xnG call 19 (F + 1) 87 [some (vR (wJ W kt + 42)), o1, some (vI x2), some (vR 9), some (vR 10), some (vI x5), some (vI x6), some (vI x7), some (vI x8)] [] L = xnG call 19 F 107 [some (vR (wJ W kt + 42)), o1, some (vI x2), some (vR 9), some (vR 10), some (vI x5), some (vI x6), some (vI x7), some (vI x8)] [] L := rfl
set_option maxRecDepth 100000 in
theorem bc6_19_55 (call : QC FA) (o1 : Option PV) (x2 : Int32) (x5 : Int32) (x6 : Int32) (x7 : Int32) (x8 : Int32) (s0 : Int32) (L : QH FA) (F : Nat) : xnG call 19 (F + 5) 71 [some (vR (wJ W kt + 42)), o1, some (vI x2), some (vR 9), some (vR 10), some (vI x5), some (vI x6), some (vI x7), some (vI x8)] [vI s0, vR 10] L = xnG call 19 F 76 [some (vR (wJ W kt + 42)), o1, some (vI x2), some (vR 9), some (vR 10), some (vI x5), some (vI x6), some (vI x7), some (vI x8)] [vI (x5 - 1), vR 10, vI 1, vI s0, vR 10] L := rfl
set_option maxRecDepth 100000 in
theorem bc6_19_56 (call : QC FA) (x : Int32) (s0 : Int32) (s1 : Int32) (ls : List (Option PV)) (z : Nat → Int32) (f : Nat → FA) (F : Nat) : xnG call 19 (F + 1) 76 ls [vI x, vR 10, vI s0, vI s1, vR 10] (LW W z f) = bif (Nat.beq 0 0 && pin x 32) then xnG call 19 F 77 ls [vI (f 10 (ix x)), vI s0, vI s1, vR 10] (LW W z f) else none := rfl
set_option maxRecDepth 100000 in
theorem bc6_19_57 (call : QC FA) (o1 : Option PV) (x2 : Int32) (x5 : Int32) (x6 : Int32) (x7 : Int32) (x8 : Int32) (s0 : Int32) (s1 : Int32) (s2 : Int32) (L : QH FA) (F : Nat) : xnG call 19 (F + 2) 77 [some (vR (wJ W kt + 42)), o1, some (vI x2), some (vR 9), some (vR 10), some (vI x5), some (vI x6), some (vI x7), some (vI x8)] [vI s0, vI s1, vI s2, vR 10] L = xnG call 19 F 86 [some (vR (wJ W kt + 42)), o1, some (vI x2), some (vR 9), some (vR 10), some (vI x5), some (vI x6), some (vI x7), some (vI x8)] [vI (s1 - s0), vI s2, vR 10] L := rfl
set_option maxRecDepth 100000 in
theorem bc6_19_58 (call : QC FA) (o1 : Option PV) (x2 : Int32) (x5 : Int32) (x6 : Int32) (x7 : Int32) (x8 : Int32) (L : QH FA) (F : Nat) : xnG call 19 (F + 2) 59 [some (vR (wJ W kt + 42)), o1, some (vI x2), some (vR 9), some (vR 10), some (vI x5), some (vI x6), some (vI x7), some (vI x8)] [] L = xnG call 19 F 61 [some (vR (wJ W kt + 42)), o1, some (vI x2), some (vR 9), some (vR 10), some (vI x5), some (vI x6), some (vI x7), some (vI x8)] [vI 3, vI x7] L := rfl
set_option maxRecDepth 100000 in
theorem bc6_19_59 (call : QC FA) (x y : Int32) (ls : List (Option PV)) (L : QH FA) (F : Nat) : xnG call 19 (F + 1) 61 ls [vI y, vI x] L = bif pcmp 1 x y then xnG call 19 F 88 ls [] L else xnG call 19 F 62 ls [] L := rfl
set_option maxRecDepth 100000 in
theorem bc6_19_60 (call : QC FA) (o1 : Option PV) (x2 : Int32) (x5 : Int32) (x6 : Int32) (x7 : Int32) (x8 : Int32) (L : QH FA) (F : Nat) : xnG call 19 (F + 2) 88 [some (vR (wJ W kt + 42)), o1, some (vI x2), some (vR 9), some (vR 10), some (vI x5), some (vI x6), some (vI x7), some (vI x8)] [] L = xnG call 19 F 90 [some (vR (wJ W kt + 42)), o1, some (vI x2), some (vR 9), some (vR 10), some (vI x5), some (vI x6), some (vI x7), some (vI x8)] [vI 1, vI x5] L := rfl
set_option maxRecDepth 100000 in
theorem bc6_19_61 (call : QC FA) (x y : Int32) (ls : List (Option PV)) (L : QH FA) (F : Nat) : xnG call 19 (F + 1) 90 ls [vI y, vI x] L = bif pcmp 5 x y then xnG call 19 F 107 ls [] L else xnG call 19 F 91 ls [] L := rfl
theorem bc6_19_62i (ih : QK FA) (t : Nat) (v x : Int32) (l0 l1 l2 l3 l4 l6 l7 l8 : Option PV) (st : List PV) (L : QH FA) : p_iinc ih fzF 5 v t [l0, l1, l2, l3, l4, some (vI x), l6, l7, l8] st L = ih t [l0, l1, l2, l3, l4, some (vI (x + v)), l6, l7, l8] st L := rfl
set_option maxRecDepth 100000 in
theorem bc6_19_62 (call : QC FA) (o1 : Option PV) (x2 : Int32) (x5 : Int32) (x6 : Int32) (x7 : Int32) (x8 : Int32) (L : QH FA) (F : Nat) : xnG call 19 (F + 1) 91 [some (vR (wJ W kt + 42)), o1, some (vI x2), some (vR 9), some (vR 10), some (vI x5), some (vI x6), some (vI x7), some (vI x8)] [] L = xnG call 19 F 92 [some (vR (wJ W kt + 42)), o1, some (vI x2), some (vR 9), some (vR 10), some (vI (x5 + (-1))), some (vI x6), some (vI x7), some (vI x8)] [] L := bc6_19_62i (xnG call 19 F) 92 (-1) x5 _ _ _ _ _ _ _ _ _ _
set_option maxRecDepth 100000 in
theorem bc6_19_63 (call : QC FA) (o1 : Option PV) (x2 : Int32) (x5 : Int32) (x6 : Int32) (x7 : Int32) (x8 : Int32) (L : QH FA) (F : Nat) : xnG call 19 (F + 9) 92 [some (vR (wJ W kt + 42)), o1, some (vI x2), some (vR 9), some (vR 10), some (vI x5), some (vI x6), some (vI x7), some (vI x8)] [] L = xnG call 19 F 101 [some (vR (wJ W kt + 42)), o1, some (vI x2), some (vR 9), some (vR 10), some (vI x5), some (vI x6), some (vI x7), some (vI x8)] [vI (x5 - 1), vR 10, vI x7, vI (x5 - 1), vR 10] L := rfl
set_option maxRecDepth 100000 in
theorem bc6_19_64 (call : QC FA) (x : Int32) (s0 : Int32) (s1 : Int32) (ls : List (Option PV)) (z : Nat → Int32) (f : Nat → FA) (F : Nat) : xnG call 19 (F + 1) 101 ls [vI x, vR 10, vI s0, vI s1, vR 10] (LW W z f) = bif (Nat.beq 0 0 && pin x 32) then xnG call 19 F 102 ls [vI (f 10 (ix x)), vI s0, vI s1, vR 10] (LW W z f) else none := rfl
set_option maxRecDepth 100000 in
theorem bc6_19_65 (call : QC FA) (o1 : Option PV) (x2 : Int32) (x5 : Int32) (x6 : Int32) (x7 : Int32) (x8 : Int32) (s0 : Int32) (s1 : Int32) (s2 : Int32) (L : QH FA) (F : Nat) : xnG call 19 (F + 2) 102 [some (vR (wJ W kt + 42)), o1, some (vI x2), some (vR 9), some (vR 10), some (vI x5), some (vI x6), some (vI x7), some (vI x8)] [vI s0, vI s1, vI s2, vR 10] L = xnG call 19 F 104 [some (vR (wJ W kt + 42)), o1, some (vI x2), some (vR 9), some (vR 10), some (vI x5), some (vI x6), some (vI x7), some (vI x8)] [vI x5, vR 10, vI s0, vI s1, vI s2, vR 10] L := rfl
set_option maxRecDepth 100000 in
theorem bc6_19_66 (call : QC FA) (x : Int32) (s0 : Int32) (s1 : Int32) (s2 : Int32) (ls : List (Option PV)) (z : Nat → Int32) (f : Nat → FA) (F : Nat) : xnG call 19 (F + 1) 104 ls [vI x, vR 10, vI s0, vI s1, vI s2, vR 10] (LW W z f) = bif (Nat.beq 0 0 && pin x 32) then xnG call 19 F 105 ls [vI (f 10 (ix x)), vI s0, vI s1, vI s2, vR 10] (LW W z f) else none := rfl
set_option maxRecDepth 100000 in
theorem bc6_19_67 (call : QC FA) (a0 : Int32) (a1 : Int32) (a2 : Int32) (s0 : Int32) (ls : List (Option PV)) (z : Nat → Int32) (f : Nat → FA) (F : Nat) : xnG call 19 (F + 1) 105 ls [vI a2, vI a1, vI a0, vI s0, vR 10] (LW W z f) = cbd (call 21 [vI a0, vI a1, vI a2] (LW W z f)) (fun r L' => xnG call 19 F 106 ls (r.toList ++ [vI s0, vR 10]) L') := pcZ (ih := xnG call 19 F) (call := call) (a := 21) (b := 3) (t := 106) (ls := ls) (As := [vI a0, vI a1, vI a2]) (st' := [vI s0, vR 10]) (L := LW W z f) rfl rfl
set_option maxRecDepth 100000 in
theorem bc6_19_68 (call : QC FA) (x y : Int32) (ls : List (Option PV)) (z : Nat → Int32) (f : Nat → FA) (F : Nat) : xnG call 19 (F + 1) 106 ls [vI y, vI x, vR 10] (LW W z f) = bif (Nat.beq 0 0 && pin x 32) then xnG call 19 F 107 ls [] (LW W z (uA f 10 (upd (f 10) (ix x) y))) else none := rfl
theorem vcc6_19_6 (hW : WTX W) (hk : kt < 4) (call : QC FA) (o1 : Option PV) (x2 : Int32) (x5 : Int32) (x6 : Int32) (o7 : Option PV) (o8 : Option PV) (z : Nat → Int32) (f : Nat → FA) (res : Option PV × QH FA) (H : ((I x2 ≤ I x6 → ((I x5 ≤ 0 → res = (some (vI 0), LW W z f)) ∧ (0 < I x5 → (pin 0 32 = true ∧ res = (some (vI (f 10 (ix 0))), LW W z f))))) ∧ (I x6 < I x2 → ((I (nI (wM W kt)) ≤ I x6 → ((I x5 ≤ 0 → res = (some (vI 0), LW W z f)) ∧ (0 < I x5 → (pin 0 32 = true ∧ res = (some (vI (f 10 (ix 0))), LW W z f))))) ∧ (I x6 < I (nI (wM W kt)) → (pin x6 (wM W kt) = true ∧ (pin x6 (wM W kt) = true ∧ (((wh W kt (ix x6)) &&& 15 = 0 → ((I (nI 32) ≤ I x5 → XC call (mP 19) 6 [some (vR (wJ W kt + 42)), o1, some (vI x2), some (vR 9), some (vR 10), some (vI x5), some (vI (x6 + 1)), some (vI ((wh W kt (ix x6)) &&& 15)), some (vI ((wh W kt (ix x6)) >>> (4 &&& 31)))] [] (LW W z f) res) ∧ (I x5 < I (nI 32) → ((I ((wh W kt (ix x6)) >>> (4 &&& 31)) < 0 → XC call (mP 19) 6 [some (vR (wJ W kt + 42)), o1, some (vI x2), some (vR 9), some (vR 10), some (vI x5), some (vI (x6 + 1)), some (vI ((wh W kt (ix x6)) &&& 15)), some (vI ((wh W kt (ix x6)) >>> (4 &&& 31)))] [] (LW W z f) res) ∧ (0 ≤ I ((wh W kt (ix x6)) >>> (4 &&& 31)) → ((¬ (wh W kt (ix x6)) &&& 15 = 1 → (pin x5 32 = true ∧ XC call (mP 19) 6 [some (vR (wJ W kt + 42)), o1, some (vI x2), some (vR 9), some (vR 10), some (vI (x5 + 1)), some (vI (x6 + 1)), some (vI ((wh W kt (ix x6)) &&& 15)), some (vI ((wh W kt (ix x6)) >>> (4 &&& 31)))] [] (LW W z (uA f 10 (upd (f 10) (ix x5) ((wh W kt (ix x6)) >>> (4 &&& 31))))) res)) ∧ ((wh W kt (ix x6)) &&& 15 = 1 → ((I (nI 10) ≤ I ((wh W kt (ix x6)) >>> (4 &&& 31)) → (pin x5 32 = true ∧ XC call (mP 19) 6 [some (vR (wJ W kt + 42)), o1, some (vI x2), some (vR 9), some (vR 10), some (vI (x5 + 1)), some (vI (x6 + 1)), some (vI ((wh W kt (ix x6)) &&& 15)), some (vI ((wh W kt (ix x6)) >>> (4 &&& 31)))] [] (LW W z (uA f 10 (upd (f 10) (ix x5) ((wh W kt (ix x6)) >>> (4 &&& 31))))) res)) ∧ (I ((wh W kt (ix x6)) >>> (4 &&& 31)) < I (nI 10) → (pin ((wh W kt (ix x6)) >>> (4 &&& 31)) 10 = true ∧ (pin x5 32 = true ∧ XC call (mP 19) 6 [some (vR (wJ W kt + 42)), o1, some (vI x2), some (vR 9), some (vR 10), some (vI (x5 + 1)), some (vI (x6 + 1)), some (vI ((wh W kt (ix x6)) &&& 15)), some (vI ((wh W kt (ix x6)) >>> (4 &&& 31)))] [] (LW W z (uA f 10 (upd (f 10) (ix x5) (f 9 (ix ((wh W kt (ix x6)) >>> (4 &&& 31))))))) res))))))))))) ∧ (¬ (wh W kt (ix x6)) &&& 15 = 0 → ((¬ (wh W kt (ix x6)) &&& 15 = 1 → (((wh W kt (ix x6)) &&& 15 = 2 → ((I x5 ≤ 0 → XC call (mP 19) 6 [some (vR (wJ W kt + 42)), o1, some (vI x2), some (vR 9), some (vR 10), some (vI x5), some (vI (x6 + 1)), some (vI ((wh W kt (ix x6)) &&& 15)), some (vI ((wh W kt (ix x6)) >>> (4 &&& 31)))] [] (LW W z f) res) ∧ (0 < I x5 → ((¬ (wh W kt (ix x6)) &&& 15 = 3 → (pin (x5 - 1) 32 = true ∧ (∃ (r1 : Int32) (z1 : Nat → Int32) (f1 : Nat → FA), call 20 [vI (f 10 (ix (x5 - 1))), vI ((wh W kt (ix x6)) >>> (4 &&& 31))] (LW W z f) = some (some (vI r1), LW W z1 f1) ∧ (pin (x5 - 1) 32 = true ∧ XC call (mP 19) 6 [some (vR (wJ W kt + 42)), o1, some (vI x2), some (vR 9), some (vR 10), some (vI x5), some (vI (x6 + 1)), some (vI ((wh W kt (ix x6)) &&& 15)), some (vI ((wh W kt (ix x6)) >>> (4 &&& 31)))] [] (LW W z1 (uA f1 10 (upd (f1 10) (ix (x5 - 1)) r1))) res)))) ∧ ((wh W kt (ix x6)) &&& 15 = 3 → (pin (x5 - 1) 32 = true ∧ (pin (x5 - 1) 32 = true ∧ XC call (mP 19) 6 [some (vR (wJ W kt + 42)), o1, some (vI x2), some (vR 9), some (vR 10), some (vI x5), some (vI (x6 + 1)), some (vI ((wh W kt (ix x6)) &&& 15)), some (vI ((wh W kt (ix x6)) >>> (4 &&& 31)))] [] (LW W z (uA f 10 (upd (f 10) (ix (x5 - 1)) (1 - (f 10 (ix (x5 - 1))))))) res))))))) ∧ (¬ (wh W kt (ix x6)) &&& 15 = 2 → ((¬ (wh W kt (ix x6)) &&& 15 = 3 → ((I x5 ≤ 1 → XC call (mP 19) 6 [some (vR (wJ W kt + 42)), o1, some (vI x2), some (vR 9), some (vR 10), some (vI x5), some (vI (x6 + 1)), some (vI ((wh W kt (ix x6)) &&& 15)), some (vI ((wh W kt (ix x6)) >>> (4 &&& 31)))] [] (LW W z f) res) ∧ (1 < I x5 → (pin ((x5 + (-1)) - 1) 32 = true ∧ (pin (x5 + (-1)) 32 = true ∧ (∃ (r2 : Int32) (z2 : Nat → Int32) (f2 : Nat → FA), call 21 [vI ((wh W kt (ix x6)) &&& 15), vI (f 10 (ix ((x5 + (-1)) - 1))), vI (f 10 (ix (x5 + (-1))))] (LW W z f) = some (some (vI r2), LW W z2 f2) ∧ (pin ((x5 + (-1)) - 1) 32 = true ∧ XC call (mP 19) 6 [some (vR (wJ W kt + 42)), o1, some (vI x2), some (vR 9), some (vR 10), some (vI (x5 + (-1))), some (vI (x6 + 1)), some (vI ((wh W kt (ix x6)) &&& 15)), some (vI ((wh W kt (ix x6)) >>> (4 &&& 31)))] [] (LW W z2 (uA f2 10 (upd (f2 10) (ix ((x5 + (-1)) - 1)) r2))) res))))))) ∧ ((wh W kt (ix x6)) &&& 15 = 3 → ((I x5 ≤ 0 → XC call (mP 19) 6 [some (vR (wJ W kt + 42)), o1, some (vI x2), some (vR 9), some (vR 10), some (vI x5), some (vI (x6 + 1)), some (vI ((wh W kt (ix x6)) &&& 15)), some (vI ((wh W kt (ix x6)) >>> (4 &&& 31)))] [] (LW W z f) res) ∧ (0 < I x5 → (pin (x5 - 1) 32 = true ∧ (pin (x5 - 1) 32 = true ∧ XC call (mP 19) 6 [some (vR (wJ W kt + 42)), o1, some (vI x2), some (vR 9), some (vR 10), some (vI x5), some (vI (x6 + 1)), some (vI ((wh W kt (ix x6)) &&& 15)), some (vI ((wh W kt (ix x6)) >>> (4 &&& 31)))] [] (LW W z (uA f 10 (upd (f 10) (ix (x5 - 1)) (1 - (f 10 (ix (x5 - 1))))))) res))))))))) ∧ ((wh W kt (ix x6)) &&& 15 = 1 → ((I (nI 32) ≤ I x5 → XC call (mP 19) 6 [some (vR (wJ W kt + 42)), o1, some (vI x2), some (vR 9), some (vR 10), some (vI x5), some (vI (x6 + 1)), some (vI ((wh W kt (ix x6)) &&& 15)), some (vI ((wh W kt (ix x6)) >>> (4 &&& 31)))] [] (LW W z f) res) ∧ (I x5 < I (nI 32) → ((I ((wh W kt (ix x6)) >>> (4 &&& 31)) < 0 → XC call (mP 19) 6 [some (vR (wJ W kt + 42)), o1, some (vI x2), some (vR 9), some (vR 10), some (vI x5), some (vI (x6 + 1)), some (vI ((wh W kt (ix x6)) &&& 15)), some (vI ((wh W kt (ix x6)) >>> (4 &&& 31)))] [] (LW W z f) res) ∧ (0 ≤ I ((wh W kt (ix x6)) >>> (4 &&& 31)) → ((I (nI 10) ≤ I ((wh W kt (ix x6)) >>> (4 &&& 31)) → (pin x5 32 = true ∧ XC call (mP 19) 6 [some (vR (wJ W kt + 42)), o1, some (vI x2), some (vR 9), some (vR 10), some (vI (x5 + 1)), some (vI (x6 + 1)), some (vI ((wh W kt (ix x6)) &&& 15)), some (vI ((wh W kt (ix x6)) >>> (4 &&& 31)))] [] (LW W z (uA f 10 (upd (f 10) (ix x5) ((wh W kt (ix x6)) >>> (4 &&& 31))))) res)) ∧ (I ((wh W kt (ix x6)) >>> (4 &&& 31)) < I (nI 10) → (pin ((wh W kt (ix x6)) >>> (4 &&& 31)) 10 = true ∧ (pin x5 32 = true ∧ XC call (mP 19) 6 [some (vR (wJ W kt + 42)), o1, some (vI x2), some (vR 9), some (vR 10), some (vI (x5 + 1)), some (vI (x6 + 1)), some (vI ((wh W kt (ix x6)) &&& 15)), some (vI ((wh W kt (ix x6)) >>> (4 &&& 31)))] [] (LW W z (uA f 10 (upd (f 10) (ix x5) (f 9 (ix ((wh W kt (ix x6)) >>> (4 &&& 31))))))) res))))))))))))))))))) : XC call (mP 19) 6 [some (vR (wJ W kt + 42)), o1, some (vI x2), some (vR 9), some (vR 10), some (vI x5), some (vI x6), o7, o8] [] (LW W z f) res := by
  refine xc_b (i' := 8) (ls' := [some (vR (wJ W kt + 42)), o1, some (vI x2), some (vR 9), some (vR 10), some (vI x5), some (vI x6), o7, o8]) (st' := [vI x2, vI x6]) (L' := LW W z f) 2 (bc6_19_1 call o1 x2 x5 x6 o7 o8 _) ?_
  refine xc_if (it := 109) (ie := 9) (ls' := [some (vR (wJ W kt + 42)), o1, some (vI x2), some (vR 9), some (vR 10), some (vI x5), some (vI x6), o7, o8]) (st' := []) (bc6_19_2 call x6 x2 _ _) (fun q1 => ?_) (fun q1 => ?_)
  · have H := H.1 (cI3t q1 rfl rfl)
    refine xc_b (i' := 110) (ls' := [some (vR (wJ W kt + 42)), o1, some (vI x2), some (vR 9), some (vR 10), some (vI x5), some (vI x6), o7, o8]) (st' := [vI x5]) (L' := LW W z f) 1 (bc6_19_3 call o1 x2 x5 x6 o7 o8 _) ?_
    refine xc_if (it := 115) (ie := 111) (ls' := [some (vR (wJ W kt + 42)), o1, some (vI x2), some (vR 9), some (vR 10), some (vI x5), some (vI x6), o7, o8]) (st' := []) (bc6_19_4 call x5 _ _) (fun q2 => ?_) (fun q2 => ?_)
    · have H := H.1 (cI5t q2 rfl rfl)
      refine xc_b (i' := 116) (ls' := [some (vR (wJ W kt + 42)), o1, some (vI x2), some (vR 9), some (vR 10), some (vI x5), some (vI x6), o7, o8]) (st' := [vI 0]) (L' := LW W z f) 1 (bc6_19_5 call o1 x2 x5 x6 o7 o8 _) ?_
      subst H
      exact xc_ret (bc6_19_6 call _ _ _)
    · have H := H.2 (cI5f q2 rfl rfl)
      refine xc_b (i' := 113) (ls' := [some (vR (wJ W kt + 42)), o1, some (vI x2), some (vR 9), some (vR 10), some (vI x5), some (vI x6), o7, o8]) (st' := [vI 0, vR 10]) (L' := LW W z f) 2 (bc6_19_7 call o1 x2 x5 x6 o7 o8 _) ?_
      obtain ⟨g1, H⟩ := H
      refine xc_g (i' := 114) (ls' := [some (vR (wJ W kt + 42)), o1, some (vI x2), some (vR 9), some (vR 10), some (vI x5), some (vI x6), o7, o8]) (st' := [vI (f 10 (ix 0))]) (L' := LW W z f) (bc6_19_8 call 0 _ z f) (pinG g1) ?_
      refine xc_b (i' := 116) (ls' := [some (vR (wJ W kt + 42)), o1, some (vI x2), some (vR 9), some (vR 10), some (vI x5), some (vI x6), o7, o8]) (st' := [vI (f 10 (ix 0))]) (L' := LW W z f) 1 (bc6_19_9 call o1 x2 x5 x6 o7 o8 (f 10 (ix 0)) _) ?_
      subst H
      exact xc_ret (bc6_19_6 call _ _ _)
  · have H := H.2 (cI3f q1 rfl rfl)
    refine xc_b (i' := 11) (ls' := [some (vR (wJ W kt + 42)), o1, some (vI x2), some (vR 9), some (vR 10), some (vI x5), some (vI x6), o7, o8]) (st' := [vR (wJ W kt + 42), vI x6]) (L' := LW W z f) 2 (bc6_19_10 call o1 x2 x5 x6 o7 o8 _) ?_
    refine xc_b (i' := 12) (ls' := [some (vR (wJ W kt + 42)), o1, some (vI x2), some (vR 9), some (vR 10), some (vI x5), some (vI x6), o7, o8]) (st' := [vR (wC W kt + 42), vI x6]) (L' := LW W z f) 1 (bc6_19_11 hW hk call x6 _ z f) ?_
    refine xc_b (i' := 13) (ls' := [some (vR (wJ W kt + 42)), o1, some (vI x2), some (vR 9), some (vR 10), some (vI x5), some (vI x6), o7, o8]) (st' := [vI (nI (wM W kt)), vI x6]) (L' := LW W z f) 1 (bc6_19_12 hW hk call x6 _ z f) ?_
    refine xc_if (it := 109) (ie := 14) (ls' := [some (vR (wJ W kt + 42)), o1, some (vI x2), some (vR 9), some (vR 10), some (vI x5), some (vI x6), o7, o8]) (st' := []) (bc6_19_13 call x6 (nI (wM W kt)) _ _) (fun q3 => ?_) (fun q3 => ?_)
    · have H := H.1 (cI3t q3 rfl rfl)
      refine xc_b (i' := 110) (ls' := [some (vR (wJ W kt + 42)), o1, some (vI x2), some (vR 9), some (vR 10), some (vI x5), some (vI x6), o7, o8]) (st' := [vI x5]) (L' := LW W z f) 1 (bc6_19_3 call o1 x2 x5 x6 o7 o8 _) ?_
      refine xc_if (it := 115) (ie := 111) (ls' := [some (vR (wJ W kt + 42)), o1, some (vI x2), some (vR 9), some (vR 10), some (vI x5), some (vI x6), o7, o8]) (st' := []) (bc6_19_4 call x5 _ _) (fun q4 => ?_) (fun q4 => ?_)
      · have H := H.1 (cI5t q4 rfl rfl)
        refine xc_b (i' := 116) (ls' := [some (vR (wJ W kt + 42)), o1, some (vI x2), some (vR 9), some (vR 10), some (vI x5), some (vI x6), o7, o8]) (st' := [vI 0]) (L' := LW W z f) 1 (bc6_19_5 call o1 x2 x5 x6 o7 o8 _) ?_
        subst H
        exact xc_ret (bc6_19_6 call _ _ _)
      · have H := H.2 (cI5f q4 rfl rfl)
        refine xc_b (i' := 113) (ls' := [some (vR (wJ W kt + 42)), o1, some (vI x2), some (vR 9), some (vR 10), some (vI x5), some (vI x6), o7, o8]) (st' := [vI 0, vR 10]) (L' := LW W z f) 2 (bc6_19_7 call o1 x2 x5 x6 o7 o8 _) ?_
        obtain ⟨g1, H⟩ := H
        refine xc_g (i' := 114) (ls' := [some (vR (wJ W kt + 42)), o1, some (vI x2), some (vR 9), some (vR 10), some (vI x5), some (vI x6), o7, o8]) (st' := [vI (f 10 (ix 0))]) (L' := LW W z f) (bc6_19_8 call 0 _ z f) (pinG g1) ?_
        refine xc_b (i' := 116) (ls' := [some (vR (wJ W kt + 42)), o1, some (vI x2), some (vR 9), some (vR 10), some (vI x5), some (vI x6), o7, o8]) (st' := [vI (f 10 (ix 0))]) (L' := LW W z f) 1 (bc6_19_9 call o1 x2 x5 x6 o7 o8 (f 10 (ix 0)) _) ?_
        subst H
        exact xc_ret (bc6_19_6 call _ _ _)
    · have H := H.2 (cI3f q3 rfl rfl)
      refine xc_b (i' := 15) (ls' := [some (vR (wJ W kt + 42)), o1, some (vI x2), some (vR 9), some (vR 10), some (vI x5), some (vI x6), o7, o8]) (st' := [vR (wJ W kt + 42)]) (L' := LW W z f) 1 (bc6_19_14 call o1 x2 x5 x6 o7 o8 _) ?_
      refine xc_b (i' := 16) (ls' := [some (vR (wJ W kt + 42)), o1, some (vI x2), some (vR 9), some (vR 10), some (vI x5), some (vI x6), o7, o8]) (st' := [vR (wC W kt + 42)]) (L' := LW W z f) 1 (bc6_19_15 hW hk call _ z f) ?_
      refine xc_b (i' := 17) (ls' := [some (vR (wJ W kt + 42)), o1, some (vI x2), some (vR 9), some (vR 10), some (vI x5), some (vI x6), o7, o8]) (st' := [vI x6, vR (wC W kt + 42)]) (L' := LW W z f) 1 (bc6_19_16 call o1 x2 x5 x6 o7 o8 _) ?_
      obtain ⟨g1, H⟩ := H
      refine xc_g (i' := 18) (ls' := [some (vR (wJ W kt + 42)), o1, some (vI x2), some (vR 9), some (vR 10), some (vI x5), some (vI x6), o7, o8]) (st' := [vI (wh W kt (ix x6))]) (L' := LW W z f) (bc6_19_17 hW hk call x6 _ z f) g1 ?_
      refine xc_b (i' := 22) (ls' := [some (vR (wJ W kt + 42)), o1, some (vI x2), some (vR 9), some (vR 10), some (vI x5), some (vI x6), some (vI ((wh W kt (ix x6)) &&& 15)), o8]) (st' := [vR (wJ W kt + 42)]) (L' := LW W z f) 4 (bc6_19_18 call o1 x2 x5 x6 o7 o8 (wh W kt (ix x6)) _) ?_
      refine xc_b (i' := 23) (ls' := [some (vR (wJ W kt + 42)), o1, some (vI x2), some (vR 9), some (vR 10), some (vI x5), some (vI x6), some (vI ((wh W kt (ix x6)) &&& 15)), o8]) (st' := [vR (wC W kt + 42)]) (L' := LW W z f) 1 (bc6_19_19 hW hk call _ z f) ?_
      refine xc_b (i' := 24) (ls' := [some (vR (wJ W kt + 42)), o1, some (vI x2), some (vR 9), some (vR 10), some (vI x5), some (vI x6), some (vI ((wh W kt (ix x6)) &&& 15)), o8]) (st' := [vI x6, vR (wC W kt + 42)]) (L' := LW W z f) 1 (bc6_19_20 call o1 x2 x5 x6 ((wh W kt (ix x6)) &&& 15) o8 _) ?_
      obtain ⟨g1, H⟩ := H
      refine xc_g (i' := 25) (ls' := [some (vR (wJ W kt + 42)), o1, some (vI x2), some (vR 9), some (vR 10), some (vI x5), some (vI x6), some (vI ((wh W kt (ix x6)) &&& 15)), o8]) (st' := [vI (wh W kt (ix x6))]) (L' := LW W z f) (bc6_19_21 hW hk call x6 _ z f) g1 ?_
      refine xc_b (i' := 29) (ls' := [some (vR (wJ W kt + 42)), o1, some (vI x2), some (vR 9), some (vR 10), some (vI x5), some (vI x6), some (vI ((wh W kt (ix x6)) &&& 15)), some (vI ((wh W kt (ix x6)) >>> (4 &&& 31)))]) (st' := [vI ((wh W kt (ix x6)) &&& 15)]) (L' := LW W z f) 4 (bc6_19_22 call o1 x2 x5 x6 ((wh W kt (ix x6)) &&& 15) o8 (wh W kt (ix x6)) _) ?_
      refine xc_if (it := 33) (ie := 30) (ls' := [some (vR (wJ W kt + 42)), o1, some (vI x2), some (vR 9), some (vR 10), some (vI x5), some (vI x6), some (vI ((wh W kt (ix x6)) &&& 15)), some (vI ((wh W kt (ix x6)) >>> (4 &&& 31)))]) (st' := []) (bc6_19_23 call ((wh W kt (ix x6)) &&& 15) _ _) (fun q5 => ?_) (fun q5 => ?_)
      · have H := H.1 (cI0t q5)
        refine xc_b (i' := 36) (ls' := [some (vR (wJ W kt + 42)), o1, some (vI x2), some (vR 9), some (vR 10), some (vI x5), some (vI x6), some (vI ((wh W kt (ix x6)) &&& 15)), some (vI ((wh W kt (ix x6)) >>> (4 &&& 31)))]) (st' := [vI (nI 32), vI x5]) (L' := LW W z f) 3 (bc6_19_24 call o1 x2 x5 x6 ((wh W kt (ix x6)) &&& 15) ((wh W kt (ix x6)) >>> (4 &&& 31)) z f) ?_
        refine xc_if (it := 107) (ie := 37) (ls' := [some (vR (wJ W kt + 42)), o1, some (vI x2), some (vR 9), some (vR 10), some (vI x5), some (vI x6), some (vI ((wh W kt (ix x6)) &&& 15)), some (vI ((wh W kt (ix x6)) >>> (4 &&& 31)))]) (st' := []) (bc6_19_25 call x5 (nI 32) _ _) (fun q6 => ?_) (fun q6 => ?_)
        · have H := H.1 (cI3t q6 rfl rfl)
          refine xc_b (i' := 108) (ls' := [some (vR (wJ W kt + 42)), o1, some (vI x2), some (vR 9), some (vR 10), some (vI x5), some (vI (x6 + 1)), some (vI ((wh W kt (ix x6)) &&& 15)), some (vI ((wh W kt (ix x6)) >>> (4 &&& 31)))]) (st' := []) (L' := LW W z f) 1 (bc6_19_26 call o1 x2 x5 x6 ((wh W kt (ix x6)) &&& 15) ((wh W kt (ix x6)) >>> (4 &&& 31)) _) ?_
          refine xc_b (i' := 6) (ls' := [some (vR (wJ W kt + 42)), o1, some (vI x2), some (vR 9), some (vR 10), some (vI x5), some (vI (x6 + 1)), some (vI ((wh W kt (ix x6)) &&& 15)), some (vI ((wh W kt (ix x6)) >>> (4 &&& 31)))]) (st' := []) (L' := LW W z f) 1 (bc6_19_27 call o1 x2 x5 (x6 + 1) ((wh W kt (ix x6)) &&& 15) ((wh W kt (ix x6)) >>> (4 &&& 31)) _) ?_
          exact H
        · have H := H.2 (cI3f q6 rfl rfl)
          refine xc_b (i' := 38) (ls' := [some (vR (wJ W kt + 42)), o1, some (vI x2), some (vR 9), some (vR 10), some (vI x5), some (vI x6), some (vI ((wh W kt (ix x6)) &&& 15)), some (vI ((wh W kt (ix x6)) >>> (4 &&& 31)))]) (st' := [vI ((wh W kt (ix x6)) >>> (4 &&& 31))]) (L' := LW W z f) 1 (bc6_19_28 call o1 x2 x5 x6 ((wh W kt (ix x6)) &&& 15) ((wh W kt (ix x6)) >>> (4 &&& 31)) _) ?_
          refine xc_if (it := 107) (ie := 39) (ls' := [some (vR (wJ W kt + 42)), o1, some (vI x2), some (vR 9), some (vR 10), some (vI x5), some (vI x6), some (vI ((wh W kt (ix x6)) &&& 15)), some (vI ((wh W kt (ix x6)) >>> (4 &&& 31)))]) (st' := []) (bc6_19_29 call ((wh W kt (ix x6)) >>> (4 &&& 31)) _ _) (fun q7 => ?_) (fun q7 => ?_)
          · have H := H.1 (cI2t q7 rfl rfl)
            refine xc_b (i' := 108) (ls' := [some (vR (wJ W kt + 42)), o1, some (vI x2), some (vR 9), some (vR 10), some (vI x5), some (vI (x6 + 1)), some (vI ((wh W kt (ix x6)) &&& 15)), some (vI ((wh W kt (ix x6)) >>> (4 &&& 31)))]) (st' := []) (L' := LW W z f) 1 (bc6_19_26 call o1 x2 x5 x6 ((wh W kt (ix x6)) &&& 15) ((wh W kt (ix x6)) >>> (4 &&& 31)) _) ?_
            refine xc_b (i' := 6) (ls' := [some (vR (wJ W kt + 42)), o1, some (vI x2), some (vR 9), some (vR 10), some (vI x5), some (vI (x6 + 1)), some (vI ((wh W kt (ix x6)) &&& 15)), some (vI ((wh W kt (ix x6)) >>> (4 &&& 31)))]) (st' := []) (L' := LW W z f) 1 (bc6_19_27 call o1 x2 x5 (x6 + 1) ((wh W kt (ix x6)) &&& 15) ((wh W kt (ix x6)) >>> (4 &&& 31)) _) ?_
            exact H
          · have H := H.2 (cI2f q7 rfl rfl)
            refine xc_b (i' := 43) (ls' := [some (vR (wJ W kt + 42)), o1, some (vI x2), some (vR 9), some (vR 10), some (vI x5), some (vI x6), some (vI ((wh W kt (ix x6)) &&& 15)), some (vI ((wh W kt (ix x6)) >>> (4 &&& 31)))]) (st' := [vI 1, vI ((wh W kt (ix x6)) &&& 15), vI x5, vR 10]) (L' := LW W z f) 4 (bc6_19_30 call o1 x2 x5 x6 ((wh W kt (ix x6)) &&& 15) ((wh W kt (ix x6)) >>> (4 &&& 31)) _) ?_
            refine xc_if (it := 52) (ie := 44) (ls' := [some (vR (wJ W kt + 42)), o1, some (vI x2), some (vR 9), some (vR 10), some (vI x5), some (vI x6), some (vI ((wh W kt (ix x6)) &&& 15)), some (vI ((wh W kt (ix x6)) >>> (4 &&& 31)))]) (st' := [vI x5, vR 10]) (bc6_19_31 call ((wh W kt (ix x6)) &&& 15) 1 x5 _ _) (fun q8 => ?_) (fun q8 => ?_)
            · have H := H.1 (cI1t q8)
              refine xc_b (i' := 53) (ls' := [some (vR (wJ W kt + 42)), o1, some (vI x2), some (vR 9), some (vR 10), some (vI x5), some (vI x6), some (vI ((wh W kt (ix x6)) &&& 15)), some (vI ((wh W kt (ix x6)) >>> (4 &&& 31)))]) (st' := [vI ((wh W kt (ix x6)) >>> (4 &&& 31)), vI x5, vR 10]) (L' := LW W z f) 1 (bc6_19_32 call o1 x2 x5 x6 ((wh W kt (ix x6)) &&& 15) ((wh W kt (ix x6)) >>> (4 &&& 31)) x5 _) ?_
              obtain ⟨g1, H⟩ := H
              refine xc_g (i' := 54) (ls' := [some (vR (wJ W kt + 42)), o1, some (vI x2), some (vR 9), some (vR 10), some (vI x5), some (vI x6), some (vI ((wh W kt (ix x6)) &&& 15)), some (vI ((wh W kt (ix x6)) >>> (4 &&& 31)))]) (st' := []) (L' := LW W z (uA f 10 (upd (f 10) (ix x5) ((wh W kt (ix x6)) >>> (4 &&& 31))))) (bc6_19_33 call x5 ((wh W kt (ix x6)) >>> (4 &&& 31)) _ z f) (pinG g1) ?_
              refine xc_b (i' := 55) (ls' := [some (vR (wJ W kt + 42)), o1, some (vI x2), some (vR 9), some (vR 10), some (vI (x5 + 1)), some (vI x6), some (vI ((wh W kt (ix x6)) &&& 15)), some (vI ((wh W kt (ix x6)) >>> (4 &&& 31)))]) (st' := []) (L' := LW W z (uA f 10 (upd (f 10) (ix x5) ((wh W kt (ix x6)) >>> (4 &&& 31))))) 1 (bc6_19_34 call o1 x2 x5 x6 ((wh W kt (ix x6)) &&& 15) ((wh W kt (ix x6)) >>> (4 &&& 31)) _) ?_
              refine xc_b (i' := 107) (ls' := [some (vR (wJ W kt + 42)), o1, some (vI x2), some (vR 9), some (vR 10), some (vI (x5 + 1)), some (vI x6), some (vI ((wh W kt (ix x6)) &&& 15)), some (vI ((wh W kt (ix x6)) >>> (4 &&& 31)))]) (st' := []) (L' := LW W z (uA f 10 (upd (f 10) (ix x5) ((wh W kt (ix x6)) >>> (4 &&& 31))))) 1 (bc6_19_35 call o1 x2 (x5 + 1) x6 ((wh W kt (ix x6)) &&& 15) ((wh W kt (ix x6)) >>> (4 &&& 31)) _) ?_
              refine xc_b (i' := 108) (ls' := [some (vR (wJ W kt + 42)), o1, some (vI x2), some (vR 9), some (vR 10), some (vI (x5 + 1)), some (vI (x6 + 1)), some (vI ((wh W kt (ix x6)) &&& 15)), some (vI ((wh W kt (ix x6)) >>> (4 &&& 31)))]) (st' := []) (L' := LW W z (uA f 10 (upd (f 10) (ix x5) ((wh W kt (ix x6)) >>> (4 &&& 31))))) 1 (bc6_19_26 call o1 x2 (x5 + 1) x6 ((wh W kt (ix x6)) &&& 15) ((wh W kt (ix x6)) >>> (4 &&& 31)) _) ?_
              refine xc_b (i' := 6) (ls' := [some (vR (wJ W kt + 42)), o1, some (vI x2), some (vR 9), some (vR 10), some (vI (x5 + 1)), some (vI (x6 + 1)), some (vI ((wh W kt (ix x6)) &&& 15)), some (vI ((wh W kt (ix x6)) >>> (4 &&& 31)))]) (st' := []) (L' := LW W z (uA f 10 (upd (f 10) (ix x5) ((wh W kt (ix x6)) >>> (4 &&& 31))))) 1 (bc6_19_27 call o1 x2 (x5 + 1) (x6 + 1) ((wh W kt (ix x6)) &&& 15) ((wh W kt (ix x6)) >>> (4 &&& 31)) _) ?_
              exact H
            · have H := H.2 (cI1f q8)
              refine xc_b (i' := 47) (ls' := [some (vR (wJ W kt + 42)), o1, some (vI x2), some (vR 9), some (vR 10), some (vI x5), some (vI x6), some (vI ((wh W kt (ix x6)) &&& 15)), some (vI ((wh W kt (ix x6)) >>> (4 &&& 31)))]) (st' := [vI (nI 10), vI ((wh W kt (ix x6)) >>> (4 &&& 31)), vI x5, vR 10]) (L' := LW W z f) 3 (bc6_19_36 call o1 x2 x5 x6 ((wh W kt (ix x6)) &&& 15) ((wh W kt (ix x6)) >>> (4 &&& 31)) x5 z f) ?_
              refine xc_if (it := 52) (ie := 48) (ls' := [some (vR (wJ W kt + 42)), o1, some (vI x2), some (vR 9), some (vR 10), some (vI x5), some (vI x6), some (vI ((wh W kt (ix x6)) &&& 15)), some (vI ((wh W kt (ix x6)) >>> (4 &&& 31)))]) (st' := [vI x5, vR 10]) (bc6_19_37 call ((wh W kt (ix x6)) >>> (4 &&& 31)) (nI 10) x5 _ _) (fun q9 => ?_) (fun q9 => ?_)
              · have H := H.1 (cI3t q9 rfl rfl)
                refine xc_b (i' := 53) (ls' := [some (vR (wJ W kt + 42)), o1, some (vI x2), some (vR 9), some (vR 10), some (vI x5), some (vI x6), some (vI ((wh W kt (ix x6)) &&& 15)), some (vI ((wh W kt (ix x6)) >>> (4 &&& 31)))]) (st' := [vI ((wh W kt (ix x6)) >>> (4 &&& 31)), vI x5, vR 10]) (L' := LW W z f) 1 (bc6_19_32 call o1 x2 x5 x6 ((wh W kt (ix x6)) &&& 15) ((wh W kt (ix x6)) >>> (4 &&& 31)) x5 _) ?_
                obtain ⟨g1, H⟩ := H
                refine xc_g (i' := 54) (ls' := [some (vR (wJ W kt + 42)), o1, some (vI x2), some (vR 9), some (vR 10), some (vI x5), some (vI x6), some (vI ((wh W kt (ix x6)) &&& 15)), some (vI ((wh W kt (ix x6)) >>> (4 &&& 31)))]) (st' := []) (L' := LW W z (uA f 10 (upd (f 10) (ix x5) ((wh W kt (ix x6)) >>> (4 &&& 31))))) (bc6_19_33 call x5 ((wh W kt (ix x6)) >>> (4 &&& 31)) _ z f) (pinG g1) ?_
                refine xc_b (i' := 55) (ls' := [some (vR (wJ W kt + 42)), o1, some (vI x2), some (vR 9), some (vR 10), some (vI (x5 + 1)), some (vI x6), some (vI ((wh W kt (ix x6)) &&& 15)), some (vI ((wh W kt (ix x6)) >>> (4 &&& 31)))]) (st' := []) (L' := LW W z (uA f 10 (upd (f 10) (ix x5) ((wh W kt (ix x6)) >>> (4 &&& 31))))) 1 (bc6_19_34 call o1 x2 x5 x6 ((wh W kt (ix x6)) &&& 15) ((wh W kt (ix x6)) >>> (4 &&& 31)) _) ?_
                refine xc_b (i' := 107) (ls' := [some (vR (wJ W kt + 42)), o1, some (vI x2), some (vR 9), some (vR 10), some (vI (x5 + 1)), some (vI x6), some (vI ((wh W kt (ix x6)) &&& 15)), some (vI ((wh W kt (ix x6)) >>> (4 &&& 31)))]) (st' := []) (L' := LW W z (uA f 10 (upd (f 10) (ix x5) ((wh W kt (ix x6)) >>> (4 &&& 31))))) 1 (bc6_19_35 call o1 x2 (x5 + 1) x6 ((wh W kt (ix x6)) &&& 15) ((wh W kt (ix x6)) >>> (4 &&& 31)) _) ?_
                refine xc_b (i' := 108) (ls' := [some (vR (wJ W kt + 42)), o1, some (vI x2), some (vR 9), some (vR 10), some (vI (x5 + 1)), some (vI (x6 + 1)), some (vI ((wh W kt (ix x6)) &&& 15)), some (vI ((wh W kt (ix x6)) >>> (4 &&& 31)))]) (st' := []) (L' := LW W z (uA f 10 (upd (f 10) (ix x5) ((wh W kt (ix x6)) >>> (4 &&& 31))))) 1 (bc6_19_26 call o1 x2 (x5 + 1) x6 ((wh W kt (ix x6)) &&& 15) ((wh W kt (ix x6)) >>> (4 &&& 31)) _) ?_
                refine xc_b (i' := 6) (ls' := [some (vR (wJ W kt + 42)), o1, some (vI x2), some (vR 9), some (vR 10), some (vI (x5 + 1)), some (vI (x6 + 1)), some (vI ((wh W kt (ix x6)) &&& 15)), some (vI ((wh W kt (ix x6)) >>> (4 &&& 31)))]) (st' := []) (L' := LW W z (uA f 10 (upd (f 10) (ix x5) ((wh W kt (ix x6)) >>> (4 &&& 31))))) 1 (bc6_19_27 call o1 x2 (x5 + 1) (x6 + 1) ((wh W kt (ix x6)) &&& 15) ((wh W kt (ix x6)) >>> (4 &&& 31)) _) ?_
                exact H
              · have H := H.2 (cI3f q9 rfl rfl)
                refine xc_b (i' := 50) (ls' := [some (vR (wJ W kt + 42)), o1, some (vI x2), some (vR 9), some (vR 10), some (vI x5), some (vI x6), some (vI ((wh W kt (ix x6)) &&& 15)), some (vI ((wh W kt (ix x6)) >>> (4 &&& 31)))]) (st' := [vI ((wh W kt (ix x6)) >>> (4 &&& 31)), vR 9, vI x5, vR 10]) (L' := LW W z f) 2 (bc6_19_38 call o1 x2 x5 x6 ((wh W kt (ix x6)) &&& 15) ((wh W kt (ix x6)) >>> (4 &&& 31)) x5 _) ?_
                obtain ⟨g1, H⟩ := H
                refine xc_g (i' := 51) (ls' := [some (vR (wJ W kt + 42)), o1, some (vI x2), some (vR 9), some (vR 10), some (vI x5), some (vI x6), some (vI ((wh W kt (ix x6)) &&& 15)), some (vI ((wh W kt (ix x6)) >>> (4 &&& 31)))]) (st' := [vI (f 9 (ix ((wh W kt (ix x6)) >>> (4 &&& 31)))), vI x5, vR 10]) (L' := LW W z f) (bc6_19_39 call ((wh W kt (ix x6)) >>> (4 &&& 31)) x5 _ z f) (pinG g1) ?_
                refine xc_b (i' := 53) (ls' := [some (vR (wJ W kt + 42)), o1, some (vI x2), some (vR 9), some (vR 10), some (vI x5), some (vI x6), some (vI ((wh W kt (ix x6)) &&& 15)), some (vI ((wh W kt (ix x6)) >>> (4 &&& 31)))]) (st' := [vI (f 9 (ix ((wh W kt (ix x6)) >>> (4 &&& 31)))), vI x5, vR 10]) (L' := LW W z f) 1 (bc6_19_40 call o1 x2 x5 x6 ((wh W kt (ix x6)) &&& 15) ((wh W kt (ix x6)) >>> (4 &&& 31)) (f 9 (ix ((wh W kt (ix x6)) >>> (4 &&& 31)))) x5 _) ?_
                obtain ⟨g1, H⟩ := H
                refine xc_g (i' := 54) (ls' := [some (vR (wJ W kt + 42)), o1, some (vI x2), some (vR 9), some (vR 10), some (vI x5), some (vI x6), some (vI ((wh W kt (ix x6)) &&& 15)), some (vI ((wh W kt (ix x6)) >>> (4 &&& 31)))]) (st' := []) (L' := LW W z (uA f 10 (upd (f 10) (ix x5) (f 9 (ix ((wh W kt (ix x6)) >>> (4 &&& 31))))))) (bc6_19_33 call x5 (f 9 (ix ((wh W kt (ix x6)) >>> (4 &&& 31)))) _ z f) (pinG g1) ?_
                refine xc_b (i' := 55) (ls' := [some (vR (wJ W kt + 42)), o1, some (vI x2), some (vR 9), some (vR 10), some (vI (x5 + 1)), some (vI x6), some (vI ((wh W kt (ix x6)) &&& 15)), some (vI ((wh W kt (ix x6)) >>> (4 &&& 31)))]) (st' := []) (L' := LW W z (uA f 10 (upd (f 10) (ix x5) (f 9 (ix ((wh W kt (ix x6)) >>> (4 &&& 31))))))) 1 (bc6_19_34 call o1 x2 x5 x6 ((wh W kt (ix x6)) &&& 15) ((wh W kt (ix x6)) >>> (4 &&& 31)) _) ?_
                refine xc_b (i' := 107) (ls' := [some (vR (wJ W kt + 42)), o1, some (vI x2), some (vR 9), some (vR 10), some (vI (x5 + 1)), some (vI x6), some (vI ((wh W kt (ix x6)) &&& 15)), some (vI ((wh W kt (ix x6)) >>> (4 &&& 31)))]) (st' := []) (L' := LW W z (uA f 10 (upd (f 10) (ix x5) (f 9 (ix ((wh W kt (ix x6)) >>> (4 &&& 31))))))) 1 (bc6_19_35 call o1 x2 (x5 + 1) x6 ((wh W kt (ix x6)) &&& 15) ((wh W kt (ix x6)) >>> (4 &&& 31)) _) ?_
                refine xc_b (i' := 108) (ls' := [some (vR (wJ W kt + 42)), o1, some (vI x2), some (vR 9), some (vR 10), some (vI (x5 + 1)), some (vI (x6 + 1)), some (vI ((wh W kt (ix x6)) &&& 15)), some (vI ((wh W kt (ix x6)) >>> (4 &&& 31)))]) (st' := []) (L' := LW W z (uA f 10 (upd (f 10) (ix x5) (f 9 (ix ((wh W kt (ix x6)) >>> (4 &&& 31))))))) 1 (bc6_19_26 call o1 x2 (x5 + 1) x6 ((wh W kt (ix x6)) &&& 15) ((wh W kt (ix x6)) >>> (4 &&& 31)) _) ?_
                refine xc_b (i' := 6) (ls' := [some (vR (wJ W kt + 42)), o1, some (vI x2), some (vR 9), some (vR 10), some (vI (x5 + 1)), some (vI (x6 + 1)), some (vI ((wh W kt (ix x6)) &&& 15)), some (vI ((wh W kt (ix x6)) >>> (4 &&& 31)))]) (st' := []) (L' := LW W z (uA f 10 (upd (f 10) (ix x5) (f 9 (ix ((wh W kt (ix x6)) >>> (4 &&& 31))))))) 1 (bc6_19_27 call o1 x2 (x5 + 1) (x6 + 1) ((wh W kt (ix x6)) &&& 15) ((wh W kt (ix x6)) >>> (4 &&& 31)) _) ?_
                exact H
      · have H := H.2 (cI0f q5)
        refine xc_b (i' := 32) (ls' := [some (vR (wJ W kt + 42)), o1, some (vI x2), some (vR 9), some (vR 10), some (vI x5), some (vI x6), some (vI ((wh W kt (ix x6)) &&& 15)), some (vI ((wh W kt (ix x6)) >>> (4 &&& 31)))]) (st' := [vI 1, vI ((wh W kt (ix x6)) &&& 15)]) (L' := LW W z f) 2 (bc6_19_41 call o1 x2 x5 x6 ((wh W kt (ix x6)) &&& 15) ((wh W kt (ix x6)) >>> (4 &&& 31)) _) ?_
        refine xc_if (it := 56) (ie := 33) (ls' := [some (vR (wJ W kt + 42)), o1, some (vI x2), some (vR 9), some (vR 10), some (vI x5), some (vI x6), some (vI ((wh W kt (ix x6)) &&& 15)), some (vI ((wh W kt (ix x6)) >>> (4 &&& 31)))]) (st' := []) (bc6_19_42 call ((wh W kt (ix x6)) &&& 15) 1 _ _) (fun q10 => ?_) (fun q10 => ?_)
        · have H := H.1 (cI1t q10)
          refine xc_b (i' := 58) (ls' := [some (vR (wJ W kt + 42)), o1, some (vI x2), some (vR 9), some (vR 10), some (vI x5), some (vI x6), some (vI ((wh W kt (ix x6)) &&& 15)), some (vI ((wh W kt (ix x6)) >>> (4 &&& 31)))]) (st' := [vI 2, vI ((wh W kt (ix x6)) &&& 15)]) (L' := LW W z f) 2 (bc6_19_43 call o1 x2 x5 x6 ((wh W kt (ix x6)) &&& 15) ((wh W kt (ix x6)) >>> (4 &&& 31)) _) ?_
          refine xc_if (it := 62) (ie := 59) (ls' := [some (vR (wJ W kt + 42)), o1, some (vI x2), some (vR 9), some (vR 10), some (vI x5), some (vI x6), some (vI ((wh W kt (ix x6)) &&& 15)), some (vI ((wh W kt (ix x6)) >>> (4 &&& 31)))]) (st' := []) (bc6_19_44 call ((wh W kt (ix x6)) &&& 15) 2 _ _) (fun q11 => ?_) (fun q11 => ?_)
          · have H := H.1 (cI0t q11)
            refine xc_b (i' := 63) (ls' := [some (vR (wJ W kt + 42)), o1, some (vI x2), some (vR 9), some (vR 10), some (vI x5), some (vI x6), some (vI ((wh W kt (ix x6)) &&& 15)), some (vI ((wh W kt (ix x6)) >>> (4 &&& 31)))]) (st' := [vI x5]) (L' := LW W z f) 1 (bc6_19_45 call o1 x2 x5 x6 ((wh W kt (ix x6)) &&& 15) ((wh W kt (ix x6)) >>> (4 &&& 31)) _) ?_
            refine xc_if (it := 107) (ie := 64) (ls' := [some (vR (wJ W kt + 42)), o1, some (vI x2), some (vR 9), some (vR 10), some (vI x5), some (vI x6), some (vI ((wh W kt (ix x6)) &&& 15)), some (vI ((wh W kt (ix x6)) >>> (4 &&& 31)))]) (st' := []) (bc6_19_46 call x5 _ _) (fun q12 => ?_) (fun q12 => ?_)
            · have H := H.1 (cI5t q12 rfl rfl)
              refine xc_b (i' := 108) (ls' := [some (vR (wJ W kt + 42)), o1, some (vI x2), some (vR 9), some (vR 10), some (vI x5), some (vI (x6 + 1)), some (vI ((wh W kt (ix x6)) &&& 15)), some (vI ((wh W kt (ix x6)) >>> (4 &&& 31)))]) (st' := []) (L' := LW W z f) 1 (bc6_19_26 call o1 x2 x5 x6 ((wh W kt (ix x6)) &&& 15) ((wh W kt (ix x6)) >>> (4 &&& 31)) _) ?_
              refine xc_b (i' := 6) (ls' := [some (vR (wJ W kt + 42)), o1, some (vI x2), some (vR 9), some (vR 10), some (vI x5), some (vI (x6 + 1)), some (vI ((wh W kt (ix x6)) &&& 15)), some (vI ((wh W kt (ix x6)) >>> (4 &&& 31)))]) (st' := []) (L' := LW W z f) 1 (bc6_19_27 call o1 x2 x5 (x6 + 1) ((wh W kt (ix x6)) &&& 15) ((wh W kt (ix x6)) >>> (4 &&& 31)) _) ?_
              exact H
            · have H := H.2 (cI5f q12 rfl rfl)
              refine xc_b (i' := 70) (ls' := [some (vR (wJ W kt + 42)), o1, some (vI x2), some (vR 9), some (vR 10), some (vI x5), some (vI x6), some (vI ((wh W kt (ix x6)) &&& 15)), some (vI ((wh W kt (ix x6)) >>> (4 &&& 31)))]) (st' := [vI 3, vI ((wh W kt (ix x6)) &&& 15), vI (x5 - 1), vR 10]) (L' := LW W z f) 6 (bc6_19_47 call o1 x2 x5 x6 ((wh W kt (ix x6)) &&& 15) ((wh W kt (ix x6)) >>> (4 &&& 31)) _) ?_
              refine xc_if (it := 79) (ie := 71) (ls' := [some (vR (wJ W kt + 42)), o1, some (vI x2), some (vR 9), some (vR 10), some (vI x5), some (vI x6), some (vI ((wh W kt (ix x6)) &&& 15)), some (vI ((wh W kt (ix x6)) >>> (4 &&& 31)))]) (st' := [vI (x5 - 1), vR 10]) (bc6_19_48 call ((wh W kt (ix x6)) &&& 15) 3 (x5 - 1) _ _) (fun q13 => ?_) (fun q13 => ?_)
              · have H := H.1 (cI1t q13)
                refine xc_b (i' := 83) (ls' := [some (vR (wJ W kt + 42)), o1, some (vI x2), some (vR 9), some (vR 10), some (vI x5), some (vI x6), some (vI ((wh W kt (ix x6)) &&& 15)), some (vI ((wh W kt (ix x6)) >>> (4 &&& 31)))]) (st' := [vI (x5 - 1), vR 10, vI (x5 - 1), vR 10]) (L' := LW W z f) 4 (bc6_19_49 call o1 x2 x5 x6 ((wh W kt (ix x6)) &&& 15) ((wh W kt (ix x6)) >>> (4 &&& 31)) (x5 - 1) _) ?_
                obtain ⟨g1, H⟩ := H
                refine xc_g (i' := 84) (ls' := [some (vR (wJ W kt + 42)), o1, some (vI x2), some (vR 9), some (vR 10), some (vI x5), some (vI x6), some (vI ((wh W kt (ix x6)) &&& 15)), some (vI ((wh W kt (ix x6)) >>> (4 &&& 31)))]) (st' := [vI (f 10 (ix (x5 - 1))), vI (x5 - 1), vR 10]) (L' := LW W z f) (bc6_19_50 call (x5 - 1) (x5 - 1) _ z f) (pinG g1) ?_
                refine xc_b (i' := 85) (ls' := [some (vR (wJ W kt + 42)), o1, some (vI x2), some (vR 9), some (vR 10), some (vI x5), some (vI x6), some (vI ((wh W kt (ix x6)) &&& 15)), some (vI ((wh W kt (ix x6)) >>> (4 &&& 31)))]) (st' := [vI ((wh W kt (ix x6)) >>> (4 &&& 31)), vI (f 10 (ix (x5 - 1))), vI (x5 - 1), vR 10]) (L' := LW W z f) 1 (bc6_19_51 call o1 x2 x5 x6 ((wh W kt (ix x6)) &&& 15) ((wh W kt (ix x6)) >>> (4 &&& 31)) (f 10 (ix (x5 - 1))) (x5 - 1) _) ?_
                obtain ⟨r1, z1, f1, hc, H⟩ := H
                refine xc_call (t := 86) (ls' := [some (vR (wJ W kt + 42)), o1, some (vI x2), some (vR 9), some (vR 10), some (vI x5), some (vI x6), some (vI ((wh W kt (ix x6)) &&& 15)), some (vI ((wh W kt (ix x6)) >>> (4 &&& 31)))]) (st' := [vI (x5 - 1), vR 10]) (bc6_19_52 call (f 10 (ix (x5 - 1))) ((wh W kt (ix x6)) >>> (4 &&& 31)) (x5 - 1) _ z f) hc ?_
                show XC call (mP 19) 86 [some (vR (wJ W kt + 42)), o1, some (vI x2), some (vR 9), some (vR 10), some (vI x5), some (vI x6), some (vI ((wh W kt (ix x6)) &&& 15)), some (vI ((wh W kt (ix x6)) >>> (4 &&& 31)))] [vI r1, vI (x5 - 1), vR 10] (LW W z1 f1) res
                obtain ⟨g1, H⟩ := H
                refine xc_g (i' := 87) (ls' := [some (vR (wJ W kt + 42)), o1, some (vI x2), some (vR 9), some (vR 10), some (vI x5), some (vI x6), some (vI ((wh W kt (ix x6)) &&& 15)), some (vI ((wh W kt (ix x6)) >>> (4 &&& 31)))]) (st' := []) (L' := LW W z1 (uA f1 10 (upd (f1 10) (ix (x5 - 1)) r1))) (bc6_19_53 call (x5 - 1) r1 _ z1 f1) (pinG g1) ?_
                refine xc_b (i' := 107) (ls' := [some (vR (wJ W kt + 42)), o1, some (vI x2), some (vR 9), some (vR 10), some (vI x5), some (vI x6), some (vI ((wh W kt (ix x6)) &&& 15)), some (vI ((wh W kt (ix x6)) >>> (4 &&& 31)))]) (st' := []) (L' := LW W z1 (uA f1 10 (upd (f1 10) (ix (x5 - 1)) r1))) 1 (bc6_19_54 call o1 x2 x5 x6 ((wh W kt (ix x6)) &&& 15) ((wh W kt (ix x6)) >>> (4 &&& 31)) _) ?_
                refine xc_b (i' := 108) (ls' := [some (vR (wJ W kt + 42)), o1, some (vI x2), some (vR 9), some (vR 10), some (vI x5), some (vI (x6 + 1)), some (vI ((wh W kt (ix x6)) &&& 15)), some (vI ((wh W kt (ix x6)) >>> (4 &&& 31)))]) (st' := []) (L' := LW W z1 (uA f1 10 (upd (f1 10) (ix (x5 - 1)) r1))) 1 (bc6_19_26 call o1 x2 x5 x6 ((wh W kt (ix x6)) &&& 15) ((wh W kt (ix x6)) >>> (4 &&& 31)) _) ?_
                refine xc_b (i' := 6) (ls' := [some (vR (wJ W kt + 42)), o1, some (vI x2), some (vR 9), some (vR 10), some (vI x5), some (vI (x6 + 1)), some (vI ((wh W kt (ix x6)) &&& 15)), some (vI ((wh W kt (ix x6)) >>> (4 &&& 31)))]) (st' := []) (L' := LW W z1 (uA f1 10 (upd (f1 10) (ix (x5 - 1)) r1))) 1 (bc6_19_27 call o1 x2 x5 (x6 + 1) ((wh W kt (ix x6)) &&& 15) ((wh W kt (ix x6)) >>> (4 &&& 31)) _) ?_
                exact H
              · have H := H.2 (cI1f q13)
                refine xc_b (i' := 76) (ls' := [some (vR (wJ W kt + 42)), o1, some (vI x2), some (vR 9), some (vR 10), some (vI x5), some (vI x6), some (vI ((wh W kt (ix x6)) &&& 15)), some (vI ((wh W kt (ix x6)) >>> (4 &&& 31)))]) (st' := [vI (x5 - 1), vR 10, vI 1, vI (x5 - 1), vR 10]) (L' := LW W z f) 5 (bc6_19_55 call o1 x2 x5 x6 ((wh W kt (ix x6)) &&& 15) ((wh W kt (ix x6)) >>> (4 &&& 31)) (x5 - 1) _) ?_
                obtain ⟨g1, H⟩ := H
                refine xc_g (i' := 77) (ls' := [some (vR (wJ W kt + 42)), o1, some (vI x2), some (vR 9), some (vR 10), some (vI x5), some (vI x6), some (vI ((wh W kt (ix x6)) &&& 15)), some (vI ((wh W kt (ix x6)) >>> (4 &&& 31)))]) (st' := [vI (f 10 (ix (x5 - 1))), vI 1, vI (x5 - 1), vR 10]) (L' := LW W z f) (bc6_19_56 call (x5 - 1) 1 (x5 - 1) _ z f) (pinG g1) ?_
                refine xc_b (i' := 86) (ls' := [some (vR (wJ W kt + 42)), o1, some (vI x2), some (vR 9), some (vR 10), some (vI x5), some (vI x6), some (vI ((wh W kt (ix x6)) &&& 15)), some (vI ((wh W kt (ix x6)) >>> (4 &&& 31)))]) (st' := [vI (1 - (f 10 (ix (x5 - 1)))), vI (x5 - 1), vR 10]) (L' := LW W z f) 2 (bc6_19_57 call o1 x2 x5 x6 ((wh W kt (ix x6)) &&& 15) ((wh W kt (ix x6)) >>> (4 &&& 31)) (f 10 (ix (x5 - 1))) 1 (x5 - 1) _) ?_
                obtain ⟨g1, H⟩ := H
                refine xc_g (i' := 87) (ls' := [some (vR (wJ W kt + 42)), o1, some (vI x2), some (vR 9), some (vR 10), some (vI x5), some (vI x6), some (vI ((wh W kt (ix x6)) &&& 15)), some (vI ((wh W kt (ix x6)) >>> (4 &&& 31)))]) (st' := []) (L' := LW W z (uA f 10 (upd (f 10) (ix (x5 - 1)) (1 - (f 10 (ix (x5 - 1))))))) (bc6_19_53 call (x5 - 1) (1 - (f 10 (ix (x5 - 1)))) _ z f) (pinG g1) ?_
                refine xc_b (i' := 107) (ls' := [some (vR (wJ W kt + 42)), o1, some (vI x2), some (vR 9), some (vR 10), some (vI x5), some (vI x6), some (vI ((wh W kt (ix x6)) &&& 15)), some (vI ((wh W kt (ix x6)) >>> (4 &&& 31)))]) (st' := []) (L' := LW W z (uA f 10 (upd (f 10) (ix (x5 - 1)) (1 - (f 10 (ix (x5 - 1))))))) 1 (bc6_19_54 call o1 x2 x5 x6 ((wh W kt (ix x6)) &&& 15) ((wh W kt (ix x6)) >>> (4 &&& 31)) _) ?_
                refine xc_b (i' := 108) (ls' := [some (vR (wJ W kt + 42)), o1, some (vI x2), some (vR 9), some (vR 10), some (vI x5), some (vI (x6 + 1)), some (vI ((wh W kt (ix x6)) &&& 15)), some (vI ((wh W kt (ix x6)) >>> (4 &&& 31)))]) (st' := []) (L' := LW W z (uA f 10 (upd (f 10) (ix (x5 - 1)) (1 - (f 10 (ix (x5 - 1))))))) 1 (bc6_19_26 call o1 x2 x5 x6 ((wh W kt (ix x6)) &&& 15) ((wh W kt (ix x6)) >>> (4 &&& 31)) _) ?_
                refine xc_b (i' := 6) (ls' := [some (vR (wJ W kt + 42)), o1, some (vI x2), some (vR 9), some (vR 10), some (vI x5), some (vI (x6 + 1)), some (vI ((wh W kt (ix x6)) &&& 15)), some (vI ((wh W kt (ix x6)) >>> (4 &&& 31)))]) (st' := []) (L' := LW W z (uA f 10 (upd (f 10) (ix (x5 - 1)) (1 - (f 10 (ix (x5 - 1))))))) 1 (bc6_19_27 call o1 x2 x5 (x6 + 1) ((wh W kt (ix x6)) &&& 15) ((wh W kt (ix x6)) >>> (4 &&& 31)) _) ?_
                exact H
          · have H := H.2 (cI0f q11)
            refine xc_b (i' := 61) (ls' := [some (vR (wJ W kt + 42)), o1, some (vI x2), some (vR 9), some (vR 10), some (vI x5), some (vI x6), some (vI ((wh W kt (ix x6)) &&& 15)), some (vI ((wh W kt (ix x6)) >>> (4 &&& 31)))]) (st' := [vI 3, vI ((wh W kt (ix x6)) &&& 15)]) (L' := LW W z f) 2 (bc6_19_58 call o1 x2 x5 x6 ((wh W kt (ix x6)) &&& 15) ((wh W kt (ix x6)) >>> (4 &&& 31)) _) ?_
            refine xc_if (it := 88) (ie := 62) (ls' := [some (vR (wJ W kt + 42)), o1, some (vI x2), some (vR 9), some (vR 10), some (vI x5), some (vI x6), some (vI ((wh W kt (ix x6)) &&& 15)), some (vI ((wh W kt (ix x6)) >>> (4 &&& 31)))]) (st' := []) (bc6_19_59 call ((wh W kt (ix x6)) &&& 15) 3 _ _) (fun q14 => ?_) (fun q14 => ?_)
            · have H := H.1 (cI1t q14)
              refine xc_b (i' := 90) (ls' := [some (vR (wJ W kt + 42)), o1, some (vI x2), some (vR 9), some (vR 10), some (vI x5), some (vI x6), some (vI ((wh W kt (ix x6)) &&& 15)), some (vI ((wh W kt (ix x6)) >>> (4 &&& 31)))]) (st' := [vI 1, vI x5]) (L' := LW W z f) 2 (bc6_19_60 call o1 x2 x5 x6 ((wh W kt (ix x6)) &&& 15) ((wh W kt (ix x6)) >>> (4 &&& 31)) _) ?_
              refine xc_if (it := 107) (ie := 91) (ls' := [some (vR (wJ W kt + 42)), o1, some (vI x2), some (vR 9), some (vR 10), some (vI x5), some (vI x6), some (vI ((wh W kt (ix x6)) &&& 15)), some (vI ((wh W kt (ix x6)) >>> (4 &&& 31)))]) (st' := []) (bc6_19_61 call x5 1 _ _) (fun q15 => ?_) (fun q15 => ?_)
              · have H := H.1 (cI5t q15 rfl rfl)
                refine xc_b (i' := 108) (ls' := [some (vR (wJ W kt + 42)), o1, some (vI x2), some (vR 9), some (vR 10), some (vI x5), some (vI (x6 + 1)), some (vI ((wh W kt (ix x6)) &&& 15)), some (vI ((wh W kt (ix x6)) >>> (4 &&& 31)))]) (st' := []) (L' := LW W z f) 1 (bc6_19_26 call o1 x2 x5 x6 ((wh W kt (ix x6)) &&& 15) ((wh W kt (ix x6)) >>> (4 &&& 31)) _) ?_
                refine xc_b (i' := 6) (ls' := [some (vR (wJ W kt + 42)), o1, some (vI x2), some (vR 9), some (vR 10), some (vI x5), some (vI (x6 + 1)), some (vI ((wh W kt (ix x6)) &&& 15)), some (vI ((wh W kt (ix x6)) >>> (4 &&& 31)))]) (st' := []) (L' := LW W z f) 1 (bc6_19_27 call o1 x2 x5 (x6 + 1) ((wh W kt (ix x6)) &&& 15) ((wh W kt (ix x6)) >>> (4 &&& 31)) _) ?_
                exact H
              · have H := H.2 (cI5f q15 rfl rfl)
                refine xc_b (i' := 92) (ls' := [some (vR (wJ W kt + 42)), o1, some (vI x2), some (vR 9), some (vR 10), some (vI (x5 + (-1))), some (vI x6), some (vI ((wh W kt (ix x6)) &&& 15)), some (vI ((wh W kt (ix x6)) >>> (4 &&& 31)))]) (st' := []) (L' := LW W z f) 1 (bc6_19_62 call o1 x2 x5 x6 ((wh W kt (ix x6)) &&& 15) ((wh W kt (ix x6)) >>> (4 &&& 31)) _) ?_
                refine xc_b (i' := 101) (ls' := [some (vR (wJ W kt + 42)), o1, some (vI x2), some (vR 9), some (vR 10), some (vI (x5 + (-1))), some (vI x6), some (vI ((wh W kt (ix x6)) &&& 15)), some (vI ((wh W kt (ix x6)) >>> (4 &&& 31)))]) (st' := [vI ((x5 + (-1)) - 1), vR 10, vI ((wh W kt (ix x6)) &&& 15), vI ((x5 + (-1)) - 1), vR 10]) (L' := LW W z f) 9 (bc6_19_63 call o1 x2 (x5 + (-1)) x6 ((wh W kt (ix x6)) &&& 15) ((wh W kt (ix x6)) >>> (4 &&& 31)) _) ?_
                obtain ⟨g1, H⟩ := H
                refine xc_g (i' := 102) (ls' := [some (vR (wJ W kt + 42)), o1, some (vI x2), some (vR 9), some (vR 10), some (vI (x5 + (-1))), some (vI x6), some (vI ((wh W kt (ix x6)) &&& 15)), some (vI ((wh W kt (ix x6)) >>> (4 &&& 31)))]) (st' := [vI (f 10 (ix ((x5 + (-1)) - 1))), vI ((wh W kt (ix x6)) &&& 15), vI ((x5 + (-1)) - 1), vR 10]) (L' := LW W z f) (bc6_19_64 call ((x5 + (-1)) - 1) ((wh W kt (ix x6)) &&& 15) ((x5 + (-1)) - 1) _ z f) (pinG g1) ?_
                refine xc_b (i' := 104) (ls' := [some (vR (wJ W kt + 42)), o1, some (vI x2), some (vR 9), some (vR 10), some (vI (x5 + (-1))), some (vI x6), some (vI ((wh W kt (ix x6)) &&& 15)), some (vI ((wh W kt (ix x6)) >>> (4 &&& 31)))]) (st' := [vI (x5 + (-1)), vR 10, vI (f 10 (ix ((x5 + (-1)) - 1))), vI ((wh W kt (ix x6)) &&& 15), vI ((x5 + (-1)) - 1), vR 10]) (L' := LW W z f) 2 (bc6_19_65 call o1 x2 (x5 + (-1)) x6 ((wh W kt (ix x6)) &&& 15) ((wh W kt (ix x6)) >>> (4 &&& 31)) (f 10 (ix ((x5 + (-1)) - 1))) ((wh W kt (ix x6)) &&& 15) ((x5 + (-1)) - 1) _) ?_
                obtain ⟨g1, H⟩ := H
                refine xc_g (i' := 105) (ls' := [some (vR (wJ W kt + 42)), o1, some (vI x2), some (vR 9), some (vR 10), some (vI (x5 + (-1))), some (vI x6), some (vI ((wh W kt (ix x6)) &&& 15)), some (vI ((wh W kt (ix x6)) >>> (4 &&& 31)))]) (st' := [vI (f 10 (ix (x5 + (-1)))), vI (f 10 (ix ((x5 + (-1)) - 1))), vI ((wh W kt (ix x6)) &&& 15), vI ((x5 + (-1)) - 1), vR 10]) (L' := LW W z f) (bc6_19_66 call (x5 + (-1)) (f 10 (ix ((x5 + (-1)) - 1))) ((wh W kt (ix x6)) &&& 15) ((x5 + (-1)) - 1) _ z f) (pinG g1) ?_
                obtain ⟨r2, z2, f2, hc, H⟩ := H
                refine xc_call (t := 106) (ls' := [some (vR (wJ W kt + 42)), o1, some (vI x2), some (vR 9), some (vR 10), some (vI (x5 + (-1))), some (vI x6), some (vI ((wh W kt (ix x6)) &&& 15)), some (vI ((wh W kt (ix x6)) >>> (4 &&& 31)))]) (st' := [vI ((x5 + (-1)) - 1), vR 10]) (bc6_19_67 call ((wh W kt (ix x6)) &&& 15) (f 10 (ix ((x5 + (-1)) - 1))) (f 10 (ix (x5 + (-1)))) ((x5 + (-1)) - 1) _ z f) hc ?_
                show XC call (mP 19) 106 [some (vR (wJ W kt + 42)), o1, some (vI x2), some (vR 9), some (vR 10), some (vI (x5 + (-1))), some (vI x6), some (vI ((wh W kt (ix x6)) &&& 15)), some (vI ((wh W kt (ix x6)) >>> (4 &&& 31)))] [vI r2, vI ((x5 + (-1)) - 1), vR 10] (LW W z2 f2) res
                obtain ⟨g1, H⟩ := H
                refine xc_g (i' := 107) (ls' := [some (vR (wJ W kt + 42)), o1, some (vI x2), some (vR 9), some (vR 10), some (vI (x5 + (-1))), some (vI x6), some (vI ((wh W kt (ix x6)) &&& 15)), some (vI ((wh W kt (ix x6)) >>> (4 &&& 31)))]) (st' := []) (L' := LW W z2 (uA f2 10 (upd (f2 10) (ix ((x5 + (-1)) - 1)) r2))) (bc6_19_68 call ((x5 + (-1)) - 1) r2 _ z2 f2) (pinG g1) ?_
                refine xc_b (i' := 108) (ls' := [some (vR (wJ W kt + 42)), o1, some (vI x2), some (vR 9), some (vR 10), some (vI (x5 + (-1))), some (vI (x6 + 1)), some (vI ((wh W kt (ix x6)) &&& 15)), some (vI ((wh W kt (ix x6)) >>> (4 &&& 31)))]) (st' := []) (L' := LW W z2 (uA f2 10 (upd (f2 10) (ix ((x5 + (-1)) - 1)) r2))) 1 (bc6_19_26 call o1 x2 (x5 + (-1)) x6 ((wh W kt (ix x6)) &&& 15) ((wh W kt (ix x6)) >>> (4 &&& 31)) _) ?_
                refine xc_b (i' := 6) (ls' := [some (vR (wJ W kt + 42)), o1, some (vI x2), some (vR 9), some (vR 10), some (vI (x5 + (-1))), some (vI (x6 + 1)), some (vI ((wh W kt (ix x6)) &&& 15)), some (vI ((wh W kt (ix x6)) >>> (4 &&& 31)))]) (st' := []) (L' := LW W z2 (uA f2 10 (upd (f2 10) (ix ((x5 + (-1)) - 1)) r2))) 1 (bc6_19_27 call o1 x2 (x5 + (-1)) (x6 + 1) ((wh W kt (ix x6)) &&& 15) ((wh W kt (ix x6)) >>> (4 &&& 31)) _) ?_
                exact H
            · have H := H.2 (cI1f q14)
              refine xc_b (i' := 63) (ls' := [some (vR (wJ W kt + 42)), o1, some (vI x2), some (vR 9), some (vR 10), some (vI x5), some (vI x6), some (vI ((wh W kt (ix x6)) &&& 15)), some (vI ((wh W kt (ix x6)) >>> (4 &&& 31)))]) (st' := [vI x5]) (L' := LW W z f) 1 (bc6_19_45 call o1 x2 x5 x6 ((wh W kt (ix x6)) &&& 15) ((wh W kt (ix x6)) >>> (4 &&& 31)) _) ?_
              refine xc_if (it := 107) (ie := 64) (ls' := [some (vR (wJ W kt + 42)), o1, some (vI x2), some (vR 9), some (vR 10), some (vI x5), some (vI x6), some (vI ((wh W kt (ix x6)) &&& 15)), some (vI ((wh W kt (ix x6)) >>> (4 &&& 31)))]) (st' := []) (bc6_19_46 call x5 _ _) (fun q16 => ?_) (fun q16 => ?_)
              · have H := H.1 (cI5t q16 rfl rfl)
                refine xc_b (i' := 108) (ls' := [some (vR (wJ W kt + 42)), o1, some (vI x2), some (vR 9), some (vR 10), some (vI x5), some (vI (x6 + 1)), some (vI ((wh W kt (ix x6)) &&& 15)), some (vI ((wh W kt (ix x6)) >>> (4 &&& 31)))]) (st' := []) (L' := LW W z f) 1 (bc6_19_26 call o1 x2 x5 x6 ((wh W kt (ix x6)) &&& 15) ((wh W kt (ix x6)) >>> (4 &&& 31)) _) ?_
                refine xc_b (i' := 6) (ls' := [some (vR (wJ W kt + 42)), o1, some (vI x2), some (vR 9), some (vR 10), some (vI x5), some (vI (x6 + 1)), some (vI ((wh W kt (ix x6)) &&& 15)), some (vI ((wh W kt (ix x6)) >>> (4 &&& 31)))]) (st' := []) (L' := LW W z f) 1 (bc6_19_27 call o1 x2 x5 (x6 + 1) ((wh W kt (ix x6)) &&& 15) ((wh W kt (ix x6)) >>> (4 &&& 31)) _) ?_
                exact H
              · have H := H.2 (cI5f q16 rfl rfl)
                refine xc_b (i' := 70) (ls' := [some (vR (wJ W kt + 42)), o1, some (vI x2), some (vR 9), some (vR 10), some (vI x5), some (vI x6), some (vI ((wh W kt (ix x6)) &&& 15)), some (vI ((wh W kt (ix x6)) >>> (4 &&& 31)))]) (st' := [vI 3, vI ((wh W kt (ix x6)) &&& 15), vI (x5 - 1), vR 10]) (L' := LW W z f) 6 (bc6_19_47 call o1 x2 x5 x6 ((wh W kt (ix x6)) &&& 15) ((wh W kt (ix x6)) >>> (4 &&& 31)) _) ?_
                refine xc_f (it := 79) (ie := 71) (ls' := [some (vR (wJ W kt + 42)), o1, some (vI x2), some (vR 9), some (vR 10), some (vI x5), some (vI x6), some (vI ((wh W kt (ix x6)) &&& 15)), some (vI ((wh W kt (ix x6)) >>> (4 &&& 31)))]) (st' := [vI (x5 - 1), vR 10]) (bc6_19_48 call ((wh W kt (ix x6)) &&& 15) 3 (x5 - 1) _ _) (pNf (cI1f q14)) ?_
                refine xc_b (i' := 76) (ls' := [some (vR (wJ W kt + 42)), o1, some (vI x2), some (vR 9), some (vR 10), some (vI x5), some (vI x6), some (vI ((wh W kt (ix x6)) &&& 15)), some (vI ((wh W kt (ix x6)) >>> (4 &&& 31)))]) (st' := [vI (x5 - 1), vR 10, vI 1, vI (x5 - 1), vR 10]) (L' := LW W z f) 5 (bc6_19_55 call o1 x2 x5 x6 ((wh W kt (ix x6)) &&& 15) ((wh W kt (ix x6)) >>> (4 &&& 31)) (x5 - 1) _) ?_
                obtain ⟨g1, H⟩ := H
                refine xc_g (i' := 77) (ls' := [some (vR (wJ W kt + 42)), o1, some (vI x2), some (vR 9), some (vR 10), some (vI x5), some (vI x6), some (vI ((wh W kt (ix x6)) &&& 15)), some (vI ((wh W kt (ix x6)) >>> (4 &&& 31)))]) (st' := [vI (f 10 (ix (x5 - 1))), vI 1, vI (x5 - 1), vR 10]) (L' := LW W z f) (bc6_19_56 call (x5 - 1) 1 (x5 - 1) _ z f) (pinG g1) ?_
                refine xc_b (i' := 86) (ls' := [some (vR (wJ W kt + 42)), o1, some (vI x2), some (vR 9), some (vR 10), some (vI x5), some (vI x6), some (vI ((wh W kt (ix x6)) &&& 15)), some (vI ((wh W kt (ix x6)) >>> (4 &&& 31)))]) (st' := [vI (1 - (f 10 (ix (x5 - 1)))), vI (x5 - 1), vR 10]) (L' := LW W z f) 2 (bc6_19_57 call o1 x2 x5 x6 ((wh W kt (ix x6)) &&& 15) ((wh W kt (ix x6)) >>> (4 &&& 31)) (f 10 (ix (x5 - 1))) 1 (x5 - 1) _) ?_
                obtain ⟨g1, H⟩ := H
                refine xc_g (i' := 87) (ls' := [some (vR (wJ W kt + 42)), o1, some (vI x2), some (vR 9), some (vR 10), some (vI x5), some (vI x6), some (vI ((wh W kt (ix x6)) &&& 15)), some (vI ((wh W kt (ix x6)) >>> (4 &&& 31)))]) (st' := []) (L' := LW W z (uA f 10 (upd (f 10) (ix (x5 - 1)) (1 - (f 10 (ix (x5 - 1))))))) (bc6_19_53 call (x5 - 1) (1 - (f 10 (ix (x5 - 1)))) _ z f) (pinG g1) ?_
                refine xc_b (i' := 107) (ls' := [some (vR (wJ W kt + 42)), o1, some (vI x2), some (vR 9), some (vR 10), some (vI x5), some (vI x6), some (vI ((wh W kt (ix x6)) &&& 15)), some (vI ((wh W kt (ix x6)) >>> (4 &&& 31)))]) (st' := []) (L' := LW W z (uA f 10 (upd (f 10) (ix (x5 - 1)) (1 - (f 10 (ix (x5 - 1))))))) 1 (bc6_19_54 call o1 x2 x5 x6 ((wh W kt (ix x6)) &&& 15) ((wh W kt (ix x6)) >>> (4 &&& 31)) _) ?_
                refine xc_b (i' := 108) (ls' := [some (vR (wJ W kt + 42)), o1, some (vI x2), some (vR 9), some (vR 10), some (vI x5), some (vI (x6 + 1)), some (vI ((wh W kt (ix x6)) &&& 15)), some (vI ((wh W kt (ix x6)) >>> (4 &&& 31)))]) (st' := []) (L' := LW W z (uA f 10 (upd (f 10) (ix (x5 - 1)) (1 - (f 10 (ix (x5 - 1))))))) 1 (bc6_19_26 call o1 x2 x5 x6 ((wh W kt (ix x6)) &&& 15) ((wh W kt (ix x6)) >>> (4 &&& 31)) _) ?_
                refine xc_b (i' := 6) (ls' := [some (vR (wJ W kt + 42)), o1, some (vI x2), some (vR 9), some (vR 10), some (vI x5), some (vI (x6 + 1)), some (vI ((wh W kt (ix x6)) &&& 15)), some (vI ((wh W kt (ix x6)) >>> (4 &&& 31)))]) (st' := []) (L' := LW W z (uA f 10 (upd (f 10) (ix (x5 - 1)) (1 - (f 10 (ix (x5 - 1))))))) 1 (bc6_19_27 call o1 x2 x5 (x6 + 1) ((wh W kt (ix x6)) &&& 15) ((wh W kt (ix x6)) >>> (4 &&& 31)) _) ?_
                exact H
        · have H := H.2 (cI1f q10)
          refine xc_b (i' := 36) (ls' := [some (vR (wJ W kt + 42)), o1, some (vI x2), some (vR 9), some (vR 10), some (vI x5), some (vI x6), some (vI ((wh W kt (ix x6)) &&& 15)), some (vI ((wh W kt (ix x6)) >>> (4 &&& 31)))]) (st' := [vI (nI 32), vI x5]) (L' := LW W z f) 3 (bc6_19_24 call o1 x2 x5 x6 ((wh W kt (ix x6)) &&& 15) ((wh W kt (ix x6)) >>> (4 &&& 31)) z f) ?_
          refine xc_if (it := 107) (ie := 37) (ls' := [some (vR (wJ W kt + 42)), o1, some (vI x2), some (vR 9), some (vR 10), some (vI x5), some (vI x6), some (vI ((wh W kt (ix x6)) &&& 15)), some (vI ((wh W kt (ix x6)) >>> (4 &&& 31)))]) (st' := []) (bc6_19_25 call x5 (nI 32) _ _) (fun q17 => ?_) (fun q17 => ?_)
          · have H := H.1 (cI3t q17 rfl rfl)
            refine xc_b (i' := 108) (ls' := [some (vR (wJ W kt + 42)), o1, some (vI x2), some (vR 9), some (vR 10), some (vI x5), some (vI (x6 + 1)), some (vI ((wh W kt (ix x6)) &&& 15)), some (vI ((wh W kt (ix x6)) >>> (4 &&& 31)))]) (st' := []) (L' := LW W z f) 1 (bc6_19_26 call o1 x2 x5 x6 ((wh W kt (ix x6)) &&& 15) ((wh W kt (ix x6)) >>> (4 &&& 31)) _) ?_
            refine xc_b (i' := 6) (ls' := [some (vR (wJ W kt + 42)), o1, some (vI x2), some (vR 9), some (vR 10), some (vI x5), some (vI (x6 + 1)), some (vI ((wh W kt (ix x6)) &&& 15)), some (vI ((wh W kt (ix x6)) >>> (4 &&& 31)))]) (st' := []) (L' := LW W z f) 1 (bc6_19_27 call o1 x2 x5 (x6 + 1) ((wh W kt (ix x6)) &&& 15) ((wh W kt (ix x6)) >>> (4 &&& 31)) _) ?_
            exact H
          · have H := H.2 (cI3f q17 rfl rfl)
            refine xc_b (i' := 38) (ls' := [some (vR (wJ W kt + 42)), o1, some (vI x2), some (vR 9), some (vR 10), some (vI x5), some (vI x6), some (vI ((wh W kt (ix x6)) &&& 15)), some (vI ((wh W kt (ix x6)) >>> (4 &&& 31)))]) (st' := [vI ((wh W kt (ix x6)) >>> (4 &&& 31))]) (L' := LW W z f) 1 (bc6_19_28 call o1 x2 x5 x6 ((wh W kt (ix x6)) &&& 15) ((wh W kt (ix x6)) >>> (4 &&& 31)) _) ?_
            refine xc_if (it := 107) (ie := 39) (ls' := [some (vR (wJ W kt + 42)), o1, some (vI x2), some (vR 9), some (vR 10), some (vI x5), some (vI x6), some (vI ((wh W kt (ix x6)) &&& 15)), some (vI ((wh W kt (ix x6)) >>> (4 &&& 31)))]) (st' := []) (bc6_19_29 call ((wh W kt (ix x6)) >>> (4 &&& 31)) _ _) (fun q18 => ?_) (fun q18 => ?_)
            · have H := H.1 (cI2t q18 rfl rfl)
              refine xc_b (i' := 108) (ls' := [some (vR (wJ W kt + 42)), o1, some (vI x2), some (vR 9), some (vR 10), some (vI x5), some (vI (x6 + 1)), some (vI ((wh W kt (ix x6)) &&& 15)), some (vI ((wh W kt (ix x6)) >>> (4 &&& 31)))]) (st' := []) (L' := LW W z f) 1 (bc6_19_26 call o1 x2 x5 x6 ((wh W kt (ix x6)) &&& 15) ((wh W kt (ix x6)) >>> (4 &&& 31)) _) ?_
              refine xc_b (i' := 6) (ls' := [some (vR (wJ W kt + 42)), o1, some (vI x2), some (vR 9), some (vR 10), some (vI x5), some (vI (x6 + 1)), some (vI ((wh W kt (ix x6)) &&& 15)), some (vI ((wh W kt (ix x6)) >>> (4 &&& 31)))]) (st' := []) (L' := LW W z f) 1 (bc6_19_27 call o1 x2 x5 (x6 + 1) ((wh W kt (ix x6)) &&& 15) ((wh W kt (ix x6)) >>> (4 &&& 31)) _) ?_
              exact H
            · have H := H.2 (cI2f q18 rfl rfl)
              refine xc_b (i' := 43) (ls' := [some (vR (wJ W kt + 42)), o1, some (vI x2), some (vR 9), some (vR 10), some (vI x5), some (vI x6), some (vI ((wh W kt (ix x6)) &&& 15)), some (vI ((wh W kt (ix x6)) >>> (4 &&& 31)))]) (st' := [vI 1, vI ((wh W kt (ix x6)) &&& 15), vI x5, vR 10]) (L' := LW W z f) 4 (bc6_19_30 call o1 x2 x5 x6 ((wh W kt (ix x6)) &&& 15) ((wh W kt (ix x6)) >>> (4 &&& 31)) _) ?_
              refine xc_f (it := 52) (ie := 44) (ls' := [some (vR (wJ W kt + 42)), o1, some (vI x2), some (vR 9), some (vR 10), some (vI x5), some (vI x6), some (vI ((wh W kt (ix x6)) &&& 15)), some (vI ((wh W kt (ix x6)) >>> (4 &&& 31)))]) (st' := [vI x5, vR 10]) (bc6_19_31 call ((wh W kt (ix x6)) &&& 15) 1 x5 _ _) (pNf (cI1f q10)) ?_
              refine xc_b (i' := 47) (ls' := [some (vR (wJ W kt + 42)), o1, some (vI x2), some (vR 9), some (vR 10), some (vI x5), some (vI x6), some (vI ((wh W kt (ix x6)) &&& 15)), some (vI ((wh W kt (ix x6)) >>> (4 &&& 31)))]) (st' := [vI (nI 10), vI ((wh W kt (ix x6)) >>> (4 &&& 31)), vI x5, vR 10]) (L' := LW W z f) 3 (bc6_19_36 call o1 x2 x5 x6 ((wh W kt (ix x6)) &&& 15) ((wh W kt (ix x6)) >>> (4 &&& 31)) x5 z f) ?_
              refine xc_if (it := 52) (ie := 48) (ls' := [some (vR (wJ W kt + 42)), o1, some (vI x2), some (vR 9), some (vR 10), some (vI x5), some (vI x6), some (vI ((wh W kt (ix x6)) &&& 15)), some (vI ((wh W kt (ix x6)) >>> (4 &&& 31)))]) (st' := [vI x5, vR 10]) (bc6_19_37 call ((wh W kt (ix x6)) >>> (4 &&& 31)) (nI 10) x5 _ _) (fun q19 => ?_) (fun q19 => ?_)
              · have H := H.1 (cI3t q19 rfl rfl)
                refine xc_b (i' := 53) (ls' := [some (vR (wJ W kt + 42)), o1, some (vI x2), some (vR 9), some (vR 10), some (vI x5), some (vI x6), some (vI ((wh W kt (ix x6)) &&& 15)), some (vI ((wh W kt (ix x6)) >>> (4 &&& 31)))]) (st' := [vI ((wh W kt (ix x6)) >>> (4 &&& 31)), vI x5, vR 10]) (L' := LW W z f) 1 (bc6_19_32 call o1 x2 x5 x6 ((wh W kt (ix x6)) &&& 15) ((wh W kt (ix x6)) >>> (4 &&& 31)) x5 _) ?_
                obtain ⟨g1, H⟩ := H
                refine xc_g (i' := 54) (ls' := [some (vR (wJ W kt + 42)), o1, some (vI x2), some (vR 9), some (vR 10), some (vI x5), some (vI x6), some (vI ((wh W kt (ix x6)) &&& 15)), some (vI ((wh W kt (ix x6)) >>> (4 &&& 31)))]) (st' := []) (L' := LW W z (uA f 10 (upd (f 10) (ix x5) ((wh W kt (ix x6)) >>> (4 &&& 31))))) (bc6_19_33 call x5 ((wh W kt (ix x6)) >>> (4 &&& 31)) _ z f) (pinG g1) ?_
                refine xc_b (i' := 55) (ls' := [some (vR (wJ W kt + 42)), o1, some (vI x2), some (vR 9), some (vR 10), some (vI (x5 + 1)), some (vI x6), some (vI ((wh W kt (ix x6)) &&& 15)), some (vI ((wh W kt (ix x6)) >>> (4 &&& 31)))]) (st' := []) (L' := LW W z (uA f 10 (upd (f 10) (ix x5) ((wh W kt (ix x6)) >>> (4 &&& 31))))) 1 (bc6_19_34 call o1 x2 x5 x6 ((wh W kt (ix x6)) &&& 15) ((wh W kt (ix x6)) >>> (4 &&& 31)) _) ?_
                refine xc_b (i' := 107) (ls' := [some (vR (wJ W kt + 42)), o1, some (vI x2), some (vR 9), some (vR 10), some (vI (x5 + 1)), some (vI x6), some (vI ((wh W kt (ix x6)) &&& 15)), some (vI ((wh W kt (ix x6)) >>> (4 &&& 31)))]) (st' := []) (L' := LW W z (uA f 10 (upd (f 10) (ix x5) ((wh W kt (ix x6)) >>> (4 &&& 31))))) 1 (bc6_19_35 call o1 x2 (x5 + 1) x6 ((wh W kt (ix x6)) &&& 15) ((wh W kt (ix x6)) >>> (4 &&& 31)) _) ?_
                refine xc_b (i' := 108) (ls' := [some (vR (wJ W kt + 42)), o1, some (vI x2), some (vR 9), some (vR 10), some (vI (x5 + 1)), some (vI (x6 + 1)), some (vI ((wh W kt (ix x6)) &&& 15)), some (vI ((wh W kt (ix x6)) >>> (4 &&& 31)))]) (st' := []) (L' := LW W z (uA f 10 (upd (f 10) (ix x5) ((wh W kt (ix x6)) >>> (4 &&& 31))))) 1 (bc6_19_26 call o1 x2 (x5 + 1) x6 ((wh W kt (ix x6)) &&& 15) ((wh W kt (ix x6)) >>> (4 &&& 31)) _) ?_
                refine xc_b (i' := 6) (ls' := [some (vR (wJ W kt + 42)), o1, some (vI x2), some (vR 9), some (vR 10), some (vI (x5 + 1)), some (vI (x6 + 1)), some (vI ((wh W kt (ix x6)) &&& 15)), some (vI ((wh W kt (ix x6)) >>> (4 &&& 31)))]) (st' := []) (L' := LW W z (uA f 10 (upd (f 10) (ix x5) ((wh W kt (ix x6)) >>> (4 &&& 31))))) 1 (bc6_19_27 call o1 x2 (x5 + 1) (x6 + 1) ((wh W kt (ix x6)) &&& 15) ((wh W kt (ix x6)) >>> (4 &&& 31)) _) ?_
                exact H
              · have H := H.2 (cI3f q19 rfl rfl)
                refine xc_b (i' := 50) (ls' := [some (vR (wJ W kt + 42)), o1, some (vI x2), some (vR 9), some (vR 10), some (vI x5), some (vI x6), some (vI ((wh W kt (ix x6)) &&& 15)), some (vI ((wh W kt (ix x6)) >>> (4 &&& 31)))]) (st' := [vI ((wh W kt (ix x6)) >>> (4 &&& 31)), vR 9, vI x5, vR 10]) (L' := LW W z f) 2 (bc6_19_38 call o1 x2 x5 x6 ((wh W kt (ix x6)) &&& 15) ((wh W kt (ix x6)) >>> (4 &&& 31)) x5 _) ?_
                obtain ⟨g1, H⟩ := H
                refine xc_g (i' := 51) (ls' := [some (vR (wJ W kt + 42)), o1, some (vI x2), some (vR 9), some (vR 10), some (vI x5), some (vI x6), some (vI ((wh W kt (ix x6)) &&& 15)), some (vI ((wh W kt (ix x6)) >>> (4 &&& 31)))]) (st' := [vI (f 9 (ix ((wh W kt (ix x6)) >>> (4 &&& 31)))), vI x5, vR 10]) (L' := LW W z f) (bc6_19_39 call ((wh W kt (ix x6)) >>> (4 &&& 31)) x5 _ z f) (pinG g1) ?_
                refine xc_b (i' := 53) (ls' := [some (vR (wJ W kt + 42)), o1, some (vI x2), some (vR 9), some (vR 10), some (vI x5), some (vI x6), some (vI ((wh W kt (ix x6)) &&& 15)), some (vI ((wh W kt (ix x6)) >>> (4 &&& 31)))]) (st' := [vI (f 9 (ix ((wh W kt (ix x6)) >>> (4 &&& 31)))), vI x5, vR 10]) (L' := LW W z f) 1 (bc6_19_40 call o1 x2 x5 x6 ((wh W kt (ix x6)) &&& 15) ((wh W kt (ix x6)) >>> (4 &&& 31)) (f 9 (ix ((wh W kt (ix x6)) >>> (4 &&& 31)))) x5 _) ?_
                obtain ⟨g1, H⟩ := H
                refine xc_g (i' := 54) (ls' := [some (vR (wJ W kt + 42)), o1, some (vI x2), some (vR 9), some (vR 10), some (vI x5), some (vI x6), some (vI ((wh W kt (ix x6)) &&& 15)), some (vI ((wh W kt (ix x6)) >>> (4 &&& 31)))]) (st' := []) (L' := LW W z (uA f 10 (upd (f 10) (ix x5) (f 9 (ix ((wh W kt (ix x6)) >>> (4 &&& 31))))))) (bc6_19_33 call x5 (f 9 (ix ((wh W kt (ix x6)) >>> (4 &&& 31)))) _ z f) (pinG g1) ?_
                refine xc_b (i' := 55) (ls' := [some (vR (wJ W kt + 42)), o1, some (vI x2), some (vR 9), some (vR 10), some (vI (x5 + 1)), some (vI x6), some (vI ((wh W kt (ix x6)) &&& 15)), some (vI ((wh W kt (ix x6)) >>> (4 &&& 31)))]) (st' := []) (L' := LW W z (uA f 10 (upd (f 10) (ix x5) (f 9 (ix ((wh W kt (ix x6)) >>> (4 &&& 31))))))) 1 (bc6_19_34 call o1 x2 x5 x6 ((wh W kt (ix x6)) &&& 15) ((wh W kt (ix x6)) >>> (4 &&& 31)) _) ?_
                refine xc_b (i' := 107) (ls' := [some (vR (wJ W kt + 42)), o1, some (vI x2), some (vR 9), some (vR 10), some (vI (x5 + 1)), some (vI x6), some (vI ((wh W kt (ix x6)) &&& 15)), some (vI ((wh W kt (ix x6)) >>> (4 &&& 31)))]) (st' := []) (L' := LW W z (uA f 10 (upd (f 10) (ix x5) (f 9 (ix ((wh W kt (ix x6)) >>> (4 &&& 31))))))) 1 (bc6_19_35 call o1 x2 (x5 + 1) x6 ((wh W kt (ix x6)) &&& 15) ((wh W kt (ix x6)) >>> (4 &&& 31)) _) ?_
                refine xc_b (i' := 108) (ls' := [some (vR (wJ W kt + 42)), o1, some (vI x2), some (vR 9), some (vR 10), some (vI (x5 + 1)), some (vI (x6 + 1)), some (vI ((wh W kt (ix x6)) &&& 15)), some (vI ((wh W kt (ix x6)) >>> (4 &&& 31)))]) (st' := []) (L' := LW W z (uA f 10 (upd (f 10) (ix x5) (f 9 (ix ((wh W kt (ix x6)) >>> (4 &&& 31))))))) 1 (bc6_19_26 call o1 x2 (x5 + 1) x6 ((wh W kt (ix x6)) &&& 15) ((wh W kt (ix x6)) >>> (4 &&& 31)) _) ?_
                refine xc_b (i' := 6) (ls' := [some (vR (wJ W kt + 42)), o1, some (vI x2), some (vR 9), some (vR 10), some (vI (x5 + 1)), some (vI (x6 + 1)), some (vI ((wh W kt (ix x6)) &&& 15)), some (vI ((wh W kt (ix x6)) >>> (4 &&& 31)))]) (st' := []) (L' := LW W z (uA f 10 (upd (f 10) (ix x5) (f 9 (ix ((wh W kt (ix x6)) >>> (4 &&& 31))))))) 1 (bc6_19_27 call o1 x2 (x5 + 1) (x6 + 1) ((wh W kt (ix x6)) &&& 15) ((wh W kt (ix x6)) >>> (4 &&& 31)) _) ?_
                exact H
set_option maxRecDepth 100000 in
theorem b20_1 (call : QC FA) (x0 : Int32) (x1 : Int32) (L : QH FA) (F : Nat) : xnG call 20 (F + 1) 0 [some (vI x0), some (vI x1)] [] L = xnG call 20 F 1 [some (vI x0), some (vI x1)] [vI x1] L := rfl
set_option maxRecDepth 100000 in
theorem b20_2 (call : QC FA) (x : Int32) (ls : List (Option PV)) (L : QH FA) (F : Nat) : xnG call 20 (F + 1) 1 ls [vI x] L = bif pcmp 1 x 0 then xnG call 20 F 4 ls [] L else xnG call 20 F 2 ls [] L := rfl
set_option maxRecDepth 100000 in
theorem b20_3 (call : QC FA) (x0 : Int32) (x1 : Int32) (L : QH FA) (F : Nat) : xnG call 20 (F + 2) 4 [some (vI x0), some (vI x1)] [] L = xnG call 20 F 6 [some (vI x0), some (vI x1)] [vI x1, vI x0] L := rfl
set_option maxRecDepth 100000 in
theorem b20_4 (call : QC FA) (x y : Int32) (ls : List (Option PV)) (L : QH FA) (F : Nat) : xnG call 20 (F + 1) 6 ls [vI y, vI x] L = bif pcmp 1 y 0 then xnG call 20 F 7 ls [vI (x / y)] L else none := rfl
set_option maxRecDepth 100000 in
theorem b20_5 (call : QC FA) (x : Int32) (ls : List (Option PV)) (L : QH FA) (F : Nat) : xnG call 20 (F + 1) 7 ls [vI x] L = some (some (vI x), L) := rfl
set_option maxRecDepth 100000 in
theorem b20_6 (call : QC FA) (x0 : Int32) (x1 : Int32) (L : QH FA) (F : Nat) : xnG call 20 (F + 2) 2 [some (vI x0), some (vI x1)] [] L = xnG call 20 F 7 [some (vI x0), some (vI x1)] [vI 0] L := rfl
theorem vc20_0 (call : QC FA) (x0 : Int32) (x1 : Int32) (z : Nat → Int32) (f : Nat → FA) (res : Option PV × QH FA) (H : ((¬ x1 = 0 → (¬ (x1 : Int32) = 0 ∧ res = (some (vI (x0 / x1)), LW W z f))) ∧ (x1 = 0 → res = (some (vI 0), LW W z f)))) : XC call (mP 20) 0 [some (vI x0), some (vI x1)] [] (LW W z f) res := by
  refine xc_b (i' := 1) (ls' := [some (vI x0), some (vI x1)]) (st' := [vI x1]) (L' := LW W z f) 1 (b20_1 call x0 x1 _) ?_
  refine xc_if (it := 4) (ie := 2) (ls' := [some (vI x0), some (vI x1)]) (st' := []) (b20_2 call x1 _ _) (fun q1 => ?_) (fun q1 => ?_)
  · have H := H.1 (cI1t q1)
    refine xc_b (i' := 6) (ls' := [some (vI x0), some (vI x1)]) (st' := [vI x1, vI x0]) (L' := LW W z f) 2 (b20_3 call x0 x1 _) ?_
    obtain ⟨g1, H⟩ := H
    refine xc_g (i' := 7) (ls' := [some (vI x0), some (vI x1)]) (st' := [vI (x0 / x1)]) (L' := LW W z f) (b20_4 call x0 x1 _ _) (cmp_ne.trans (decide_eq_true g1)) ?_
    subst H
    exact xc_ret (b20_5 call _ _ _)
  · have H := H.2 (cI1f q1)
    refine xc_b (i' := 7) (ls' := [some (vI x0), some (vI x1)]) (st' := [vI 0]) (L' := LW W z f) 2 (b20_6 call x0 x1 _) ?_
    subst H
    exact xc_ret (b20_5 call _ _ _)
set_option maxRecDepth 100000 in
theorem b21_1 (call : QC FA) (x0 : Int32) (x1 : Int32) (x2 : Int32) (L : QH FA) (F : Nat) : xnG call 21 (F + 1) 0 [some (vI x0), some (vI x1), some (vI x2)] [] L = xnG call 21 F 1 [some (vI x0), some (vI x1), some (vI x2)] [vI x0] L := rfl
set_option maxRecDepth 100000 in
theorem b21_2 (call : QC FA) (x : Int32) (hx : x = 4) (ls : List (Option PV)) (L : QH FA) (F : Nat) : xnG call 21 (F + 1) 1 ls [vI x] L = xnG call 21 F 2 ls [] L := by
  subst hx
  exact pwa_ (ih := xnG call 21 F) (a := 4) (b := 10) (tg := [39, 2, 6, 10, 14, 21, 28, 35]) (x := 4) (st := []) (by decide) rfl
set_option maxRecDepth 100000 in
theorem b21_3 (call : QC FA) (x0 : Int32) (x1 : Int32) (x2 : Int32) (L : QH FA) (F : Nat) : xnG call 21 (F + 3) 2 [some (vI x0), some (vI x1), some (vI x2)] [] L = xnG call 21 F 5 [some (vI x0), some (vI x1), some (vI x2)] [vI (x1 + x2)] L := rfl
set_option maxRecDepth 100000 in
theorem b21_4 (call : QC FA) (x : Int32) (ls : List (Option PV)) (L : QH FA) (F : Nat) : xnG call 21 (F + 1) 5 ls [vI x] L = some (some (vI x), L) := rfl
set_option maxRecDepth 100000 in
theorem b21_5 (call : QC FA) (x : Int32) (hx : x = 5) (ls : List (Option PV)) (L : QH FA) (F : Nat) : xnG call 21 (F + 1) 1 ls [vI x] L = xnG call 21 F 6 ls [] L := by
  subst hx
  exact pwa_ (ih := xnG call 21 F) (a := 4) (b := 10) (tg := [39, 2, 6, 10, 14, 21, 28, 35]) (x := 5) (st := []) (by decide) rfl
set_option maxRecDepth 100000 in
theorem b21_6 (call : QC FA) (x0 : Int32) (x1 : Int32) (x2 : Int32) (L : QH FA) (F : Nat) : xnG call 21 (F + 3) 6 [some (vI x0), some (vI x1), some (vI x2)] [] L = xnG call 21 F 9 [some (vI x0), some (vI x1), some (vI x2)] [vI (x1 - x2)] L := rfl
set_option maxRecDepth 100000 in
theorem b21_7 (call : QC FA) (x : Int32) (ls : List (Option PV)) (L : QH FA) (F : Nat) : xnG call 21 (F + 1) 9 ls [vI x] L = some (some (vI x), L) := rfl
set_option maxRecDepth 100000 in
theorem b21_8 (call : QC FA) (x : Int32) (hx : x = 6) (ls : List (Option PV)) (L : QH FA) (F : Nat) : xnG call 21 (F + 1) 1 ls [vI x] L = xnG call 21 F 10 ls [] L := by
  subst hx
  exact pwa_ (ih := xnG call 21 F) (a := 4) (b := 10) (tg := [39, 2, 6, 10, 14, 21, 28, 35]) (x := 6) (st := []) (by decide) rfl
set_option maxRecDepth 100000 in
theorem b21_9 (call : QC FA) (x0 : Int32) (x1 : Int32) (x2 : Int32) (L : QH FA) (F : Nat) : xnG call 21 (F + 3) 10 [some (vI x0), some (vI x1), some (vI x2)] [] L = xnG call 21 F 13 [some (vI x0), some (vI x1), some (vI x2)] [vI (x1 * x2)] L := rfl
set_option maxRecDepth 100000 in
theorem b21_10 (call : QC FA) (x : Int32) (ls : List (Option PV)) (L : QH FA) (F : Nat) : xnG call 21 (F + 1) 13 ls [vI x] L = some (some (vI x), L) := rfl
set_option maxRecDepth 100000 in
theorem b21_11 (call : QC FA) (x : Int32) (hx : x = 7) (ls : List (Option PV)) (L : QH FA) (F : Nat) : xnG call 21 (F + 1) 1 ls [vI x] L = xnG call 21 F 14 ls [] L := by
  subst hx
  exact pwa_ (ih := xnG call 21 F) (a := 4) (b := 10) (tg := [39, 2, 6, 10, 14, 21, 28, 35]) (x := 7) (st := []) (by decide) rfl
set_option maxRecDepth 100000 in
theorem b21_12 (call : QC FA) (x0 : Int32) (x1 : Int32) (x2 : Int32) (L : QH FA) (F : Nat) : xnG call 21 (F + 2) 14 [some (vI x0), some (vI x1), some (vI x2)] [] L = xnG call 21 F 16 [some (vI x0), some (vI x1), some (vI x2)] [vI x2, vI x1] L := rfl
set_option maxRecDepth 100000 in
theorem b21_13 (call : QC FA) (x y : Int32) (ls : List (Option PV)) (L : QH FA) (F : Nat) : xnG call 21 (F + 1) 16 ls [vI y, vI x] L = bif pcmp 3 x y then xnG call 21 F 19 ls [] L else xnG call 21 F 17 ls [] L := rfl
set_option maxRecDepth 100000 in
theorem b21_14 (call : QC FA) (x0 : Int32) (x1 : Int32) (x2 : Int32) (L : QH FA) (F : Nat) : xnG call 21 (F + 1) 19 [some (vI x0), some (vI x1), some (vI x2)] [] L = xnG call 21 F 20 [some (vI x0), some (vI x1), some (vI x2)] [vI 0] L := rfl
set_option maxRecDepth 100000 in
theorem b21_15 (call : QC FA) (x : Int32) (ls : List (Option PV)) (L : QH FA) (F : Nat) : xnG call 21 (F + 1) 20 ls [vI x] L = some (some (vI x), L) := rfl
set_option maxRecDepth 100000 in
theorem b21_16 (call : QC FA) (x0 : Int32) (x1 : Int32) (x2 : Int32) (L : QH FA) (F : Nat) : xnG call 21 (F + 2) 17 [some (vI x0), some (vI x1), some (vI x2)] [] L = xnG call 21 F 20 [some (vI x0), some (vI x1), some (vI x2)] [vI 1] L := rfl
set_option maxRecDepth 100000 in
theorem b21_17 (call : QC FA) (x : Int32) (hx : x = 8) (ls : List (Option PV)) (L : QH FA) (F : Nat) : xnG call 21 (F + 1) 1 ls [vI x] L = xnG call 21 F 21 ls [] L := by
  subst hx
  exact pwa_ (ih := xnG call 21 F) (a := 4) (b := 10) (tg := [39, 2, 6, 10, 14, 21, 28, 35]) (x := 8) (st := []) (by decide) rfl
set_option maxRecDepth 100000 in
theorem b21_18 (call : QC FA) (x0 : Int32) (x1 : Int32) (x2 : Int32) (L : QH FA) (F : Nat) : xnG call 21 (F + 2) 21 [some (vI x0), some (vI x1), some (vI x2)] [] L = xnG call 21 F 23 [some (vI x0), some (vI x1), some (vI x2)] [vI x2, vI x1] L := rfl
set_option maxRecDepth 100000 in
theorem b21_19 (call : QC FA) (x y : Int32) (ls : List (Option PV)) (L : QH FA) (F : Nat) : xnG call 21 (F + 1) 23 ls [vI y, vI x] L = bif pcmp 1 x y then xnG call 21 F 26 ls [] L else xnG call 21 F 24 ls [] L := rfl
set_option maxRecDepth 100000 in
theorem b21_20 (call : QC FA) (x0 : Int32) (x1 : Int32) (x2 : Int32) (L : QH FA) (F : Nat) : xnG call 21 (F + 1) 26 [some (vI x0), some (vI x1), some (vI x2)] [] L = xnG call 21 F 27 [some (vI x0), some (vI x1), some (vI x2)] [vI 0] L := rfl
set_option maxRecDepth 100000 in
theorem b21_21 (call : QC FA) (x : Int32) (ls : List (Option PV)) (L : QH FA) (F : Nat) : xnG call 21 (F + 1) 27 ls [vI x] L = some (some (vI x), L) := rfl
set_option maxRecDepth 100000 in
theorem b21_22 (call : QC FA) (x0 : Int32) (x1 : Int32) (x2 : Int32) (L : QH FA) (F : Nat) : xnG call 21 (F + 2) 24 [some (vI x0), some (vI x1), some (vI x2)] [] L = xnG call 21 F 27 [some (vI x0), some (vI x1), some (vI x2)] [vI 1] L := rfl
set_option maxRecDepth 100000 in
theorem b21_23 (call : QC FA) (x : Int32) (hx : x = 9) (ls : List (Option PV)) (L : QH FA) (F : Nat) : xnG call 21 (F + 1) 1 ls [vI x] L = xnG call 21 F 28 ls [] L := by
  subst hx
  exact pwa_ (ih := xnG call 21 F) (a := 4) (b := 10) (tg := [39, 2, 6, 10, 14, 21, 28, 35]) (x := 9) (st := []) (by decide) rfl
set_option maxRecDepth 100000 in
theorem b21_24 (call : QC FA) (x0 : Int32) (x1 : Int32) (x2 : Int32) (L : QH FA) (F : Nat) : xnG call 21 (F + 2) 28 [some (vI x0), some (vI x1), some (vI x2)] [] L = xnG call 21 F 30 [some (vI x0), some (vI x1), some (vI x2)] [vI x2, vI x1] L := rfl
set_option maxRecDepth 100000 in
theorem b21_25 (call : QC FA) (x y : Int32) (ls : List (Option PV)) (L : QH FA) (F : Nat) : xnG call 21 (F + 1) 30 ls [vI y, vI x] L = bif pcmp 5 x y then xnG call 21 F 33 ls [] L else xnG call 21 F 31 ls [] L := rfl
set_option maxRecDepth 100000 in
theorem b21_26 (call : QC FA) (x0 : Int32) (x1 : Int32) (x2 : Int32) (L : QH FA) (F : Nat) : xnG call 21 (F + 1) 33 [some (vI x0), some (vI x1), some (vI x2)] [] L = xnG call 21 F 34 [some (vI x0), some (vI x1), some (vI x2)] [vI 0] L := rfl
set_option maxRecDepth 100000 in
theorem b21_27 (call : QC FA) (x : Int32) (ls : List (Option PV)) (L : QH FA) (F : Nat) : xnG call 21 (F + 1) 34 ls [vI x] L = some (some (vI x), L) := rfl
set_option maxRecDepth 100000 in
theorem b21_28 (call : QC FA) (x0 : Int32) (x1 : Int32) (x2 : Int32) (L : QH FA) (F : Nat) : xnG call 21 (F + 2) 31 [some (vI x0), some (vI x1), some (vI x2)] [] L = xnG call 21 F 34 [some (vI x0), some (vI x1), some (vI x2)] [vI 1] L := rfl
set_option maxRecDepth 100000 in
theorem b21_29 (call : QC FA) (x : Int32) (hx : x = 10) (ls : List (Option PV)) (L : QH FA) (F : Nat) : xnG call 21 (F + 1) 1 ls [vI x] L = xnG call 21 F 35 ls [] L := by
  subst hx
  exact pwa_ (ih := xnG call 21 F) (a := 4) (b := 10) (tg := [39, 2, 6, 10, 14, 21, 28, 35]) (x := 10) (st := []) (by decide) rfl
set_option maxRecDepth 100000 in
theorem b21_30 (call : QC FA) (x0 : Int32) (x1 : Int32) (x2 : Int32) (L : QH FA) (F : Nat) : xnG call 21 (F + 3) 35 [some (vI x0), some (vI x1), some (vI x2)] [] L = xnG call 21 F 38 [some (vI x0), some (vI x1), some (vI x2)] [vI (x1 &&& x2)] L := rfl
set_option maxRecDepth 100000 in
theorem b21_31 (call : QC FA) (x : Int32) (ls : List (Option PV)) (L : QH FA) (F : Nat) : xnG call 21 (F + 1) 38 ls [vI x] L = some (some (vI x), L) := rfl
set_option maxRecDepth 100000 in
theorem b21_32 (call : QC FA) (x : Int32) (hx : I x < 4 ∨ 10 < I x) (ls : List (Option PV)) (L : QH FA) (F : Nat) : xnG call 21 (F + 1) 1 ls [vI x] L = xnG call 21 F 39 ls [] L := pwd_ (ih := xnG call 21 F) (a := 4) (b := 10) (tg := [39, 2, 6, 10, 14, 21, 28, 35]) (st := []) hx rfl
set_option maxRecDepth 100000 in
theorem b21_33 (call : QC FA) (x0 : Int32) (x1 : Int32) (x2 : Int32) (L : QH FA) (F : Nat) : xnG call 21 (F + 3) 39 [some (vI x0), some (vI x1), some (vI x2)] [] L = xnG call 21 F 42 [some (vI x0), some (vI x1), some (vI x2)] [vI (x1 ||| x2)] L := rfl
set_option maxRecDepth 100000 in
theorem b21_34 (call : QC FA) (x : Int32) (ls : List (Option PV)) (L : QH FA) (F : Nat) : xnG call 21 (F + 1) 42 ls [vI x] L = some (some (vI x), L) := rfl
theorem vc21_0 (call : QC FA) (x0 : Int32) (x1 : Int32) (x2 : Int32) (z : Nat → Int32) (f : Nat → FA) (res : Option PV × QH FA) (H : ((x0 = 4 → res = (some (vI (x1 + x2)), LW W z f)) ∧ (¬ x0 = 4 → ((x0 = 5 → res = (some (vI (x1 - x2)), LW W z f)) ∧ (¬ x0 = 5 → ((x0 = 6 → res = (some (vI (x1 * x2)), LW W z f)) ∧ (¬ x0 = 6 → ((x0 = 7 → ((I x2 ≤ I x1 → res = (some (vI 0), LW W z f)) ∧ (I x1 < I x2 → res = (some (vI 1), LW W z f)))) ∧ (¬ x0 = 7 → ((x0 = 8 → ((¬ x1 = x2 → res = (some (vI 0), LW W z f)) ∧ (x1 = x2 → res = (some (vI 1), LW W z f)))) ∧ (¬ x0 = 8 → ((x0 = 9 → ((I x1 ≤ I x2 → res = (some (vI 0), LW W z f)) ∧ (I x2 < I x1 → res = (some (vI 1), LW W z f)))) ∧ (¬ x0 = 9 → ((x0 = 10 → res = (some (vI (x1 &&& x2)), LW W z f)) ∧ (¬ x0 = 10 → res = (some (vI (x1 ||| x2)), LW W z f)))))))))))))))) : XC call (mP 21) 0 [some (vI x0), some (vI x1), some (vI x2)] [] (LW W z f) res := by
  refine xc_b (i' := 1) (ls' := [some (vI x0), some (vI x1), some (vI x2)]) (st' := [vI x0]) (L' := LW W z f) 1 (b21_1 call x0 x1 x2 _) ?_
  by_cases q1 : x0 = 4
  · have H := H.1 q1
    refine xc_b (i' := 2) (ls' := [some (vI x0), some (vI x1), some (vI x2)]) (st' := []) (L' := LW W z f) 1 (b21_2 call x0 q1 _ _) ?_
    refine xc_b (i' := 5) (ls' := [some (vI x0), some (vI x1), some (vI x2)]) (st' := [vI (x1 + x2)]) (L' := LW W z f) 3 (b21_3 call x0 x1 x2 _) ?_
    subst H
    exact xc_ret (b21_4 call _ _ _)
  · have H := H.2 q1
    by_cases q2 : x0 = 5
    · have H := H.1 q2
      refine xc_b (i' := 6) (ls' := [some (vI x0), some (vI x1), some (vI x2)]) (st' := []) (L' := LW W z f) 1 (b21_5 call x0 q2 _ _) ?_
      refine xc_b (i' := 9) (ls' := [some (vI x0), some (vI x1), some (vI x2)]) (st' := [vI (x1 - x2)]) (L' := LW W z f) 3 (b21_6 call x0 x1 x2 _) ?_
      subst H
      exact xc_ret (b21_7 call _ _ _)
    · have H := H.2 q2
      by_cases q3 : x0 = 6
      · have H := H.1 q3
        refine xc_b (i' := 10) (ls' := [some (vI x0), some (vI x1), some (vI x2)]) (st' := []) (L' := LW W z f) 1 (b21_8 call x0 q3 _ _) ?_
        refine xc_b (i' := 13) (ls' := [some (vI x0), some (vI x1), some (vI x2)]) (st' := [vI (x1 * x2)]) (L' := LW W z f) 3 (b21_9 call x0 x1 x2 _) ?_
        subst H
        exact xc_ret (b21_10 call _ _ _)
      · have H := H.2 q3
        by_cases q4 : x0 = 7
        · have H := H.1 q4
          refine xc_b (i' := 14) (ls' := [some (vI x0), some (vI x1), some (vI x2)]) (st' := []) (L' := LW W z f) 1 (b21_11 call x0 q4 _ _) ?_
          refine xc_b (i' := 16) (ls' := [some (vI x0), some (vI x1), some (vI x2)]) (st' := [vI x2, vI x1]) (L' := LW W z f) 2 (b21_12 call x0 x1 x2 _) ?_
          refine xc_if (it := 19) (ie := 17) (ls' := [some (vI x0), some (vI x1), some (vI x2)]) (st' := []) (b21_13 call x1 x2 _ _) (fun q5 => ?_) (fun q5 => ?_)
          · have H := H.1 (cI3t q5 rfl rfl)
            refine xc_b (i' := 20) (ls' := [some (vI x0), some (vI x1), some (vI x2)]) (st' := [vI 0]) (L' := LW W z f) 1 (b21_14 call x0 x1 x2 _) ?_
            subst H
            exact xc_ret (b21_15 call _ _ _)
          · have H := H.2 (cI3f q5 rfl rfl)
            refine xc_b (i' := 20) (ls' := [some (vI x0), some (vI x1), some (vI x2)]) (st' := [vI 1]) (L' := LW W z f) 2 (b21_16 call x0 x1 x2 _) ?_
            subst H
            exact xc_ret (b21_15 call _ _ _)
        · have H := H.2 q4
          by_cases q6 : x0 = 8
          · have H := H.1 q6
            refine xc_b (i' := 21) (ls' := [some (vI x0), some (vI x1), some (vI x2)]) (st' := []) (L' := LW W z f) 1 (b21_17 call x0 q6 _ _) ?_
            refine xc_b (i' := 23) (ls' := [some (vI x0), some (vI x1), some (vI x2)]) (st' := [vI x2, vI x1]) (L' := LW W z f) 2 (b21_18 call x0 x1 x2 _) ?_
            refine xc_if (it := 26) (ie := 24) (ls' := [some (vI x0), some (vI x1), some (vI x2)]) (st' := []) (b21_19 call x1 x2 _ _) (fun q7 => ?_) (fun q7 => ?_)
            · have H := H.1 (cI1t q7)
              refine xc_b (i' := 27) (ls' := [some (vI x0), some (vI x1), some (vI x2)]) (st' := [vI 0]) (L' := LW W z f) 1 (b21_20 call x0 x1 x2 _) ?_
              subst H
              exact xc_ret (b21_21 call _ _ _)
            · have H := H.2 (cI1f q7)
              refine xc_b (i' := 27) (ls' := [some (vI x0), some (vI x1), some (vI x2)]) (st' := [vI 1]) (L' := LW W z f) 2 (b21_22 call x0 x1 x2 _) ?_
              subst H
              exact xc_ret (b21_21 call _ _ _)
          · have H := H.2 q6
            by_cases q8 : x0 = 9
            · have H := H.1 q8
              refine xc_b (i' := 28) (ls' := [some (vI x0), some (vI x1), some (vI x2)]) (st' := []) (L' := LW W z f) 1 (b21_23 call x0 q8 _ _) ?_
              refine xc_b (i' := 30) (ls' := [some (vI x0), some (vI x1), some (vI x2)]) (st' := [vI x2, vI x1]) (L' := LW W z f) 2 (b21_24 call x0 x1 x2 _) ?_
              refine xc_if (it := 33) (ie := 31) (ls' := [some (vI x0), some (vI x1), some (vI x2)]) (st' := []) (b21_25 call x1 x2 _ _) (fun q9 => ?_) (fun q9 => ?_)
              · have H := H.1 (cI5t q9 rfl rfl)
                refine xc_b (i' := 34) (ls' := [some (vI x0), some (vI x1), some (vI x2)]) (st' := [vI 0]) (L' := LW W z f) 1 (b21_26 call x0 x1 x2 _) ?_
                subst H
                exact xc_ret (b21_27 call _ _ _)
              · have H := H.2 (cI5f q9 rfl rfl)
                refine xc_b (i' := 34) (ls' := [some (vI x0), some (vI x1), some (vI x2)]) (st' := [vI 1]) (L' := LW W z f) 2 (b21_28 call x0 x1 x2 _) ?_
                subst H
                exact xc_ret (b21_27 call _ _ _)
            · have H := H.2 q8
              by_cases q10 : x0 = 10
              · have H := H.1 q10
                refine xc_b (i' := 35) (ls' := [some (vI x0), some (vI x1), some (vI x2)]) (st' := []) (L' := LW W z f) 1 (b21_29 call x0 q10 _ _) ?_
                refine xc_b (i' := 38) (ls' := [some (vI x0), some (vI x1), some (vI x2)]) (st' := [vI (x1 &&& x2)]) (L' := LW W z f) 3 (b21_30 call x0 x1 x2 _) ?_
                subst H
                exact xc_ret (b21_31 call _ _ _)
              · have H := H.2 q10
                refine xc_b (i' := 39) (ls' := [some (vI x0), some (vI x1), some (vI x2)]) (st' := []) (L' := LW W z f) 1 (b21_32 call x0 (by have := (show I x0 ≠ 4 from ne_I q1); have := (show I x0 ≠ 5 from ne_I q2); have := (show I x0 ≠ 6 from ne_I q3); have := (show I x0 ≠ 7 from ne_I q4); have := (show I x0 ≠ 8 from ne_I q6); have := (show I x0 ≠ 9 from ne_I q8); have := (show I x0 ≠ 10 from ne_I q10); omega) _ _) ?_
                refine xc_b (i' := 42) (ls' := [some (vI x0), some (vI x1), some (vI x2)]) (st' := [vI (x1 ||| x2)]) (L' := LW W z f) 3 (b21_33 call x0 x1 x2 _) ?_
                subst H
                exact xc_ret (b21_34 call _ _ _)
set_option maxRecDepth 100000 in
theorem b22_1 (call : QC FA) (x0 : Int32) (x1 : Int32) (L : QH FA) (F : Nat) : xnG call 22 (F + 3) 0 [some (vI x0), some (vI x1)] [] L = xnG call 22 F 3 [some (vI x0), some (vI x1)] [vI x0, vI x1, vI 0] L := rfl
set_option maxRecDepth 100000 in
theorem b22_2 (call : QC FA) (x y : Int32) (s0 : Int32) (ls : List (Option PV)) (L : QH FA) (F : Nat) : xnG call 22 (F + 1) 3 ls [vI y, vI x, vI s0] L = bif pcmp 2 y x then xnG call 22 F 4 ls [vI y, vI s0] L else xnG call 22 F 4 ls [vI x, vI s0] L := pmn (xnG call 22 F) 4 x y ls [vI s0] L rfl
set_option maxRecDepth 100000 in
theorem b22_3 (call : QC FA) (x y : Int32) (ls : List (Option PV)) (L : QH FA) (F : Nat) : xnG call 22 (F + 1) 4 ls [vI y, vI x] L = bif pcmp 2 x y then xnG call 22 F 5 ls [vI y] L else xnG call 22 F 5 ls [vI x] L := pmxr (xnG call 22 F) 5 x y ls [] L rfl
set_option maxRecDepth 100000 in
theorem b22_4 (call : QC FA) (x : Int32) (ls : List (Option PV)) (L : QH FA) (F : Nat) : xnG call 22 (F + 1) 5 ls [vI x] L = some (some (vI x), L) := rfl
theorem vc22_0 (call : QC FA) (x0 : Int32) (x1 : Int32) (z : Nat → Int32) (f : Nat → FA) (res : Option PV × QH FA) (H : ((I x0 < I x1 → ((0 < I x0 → res = (some (vI x0), LW W z f)) ∧ (I x0 ≤ 0 → res = (some (vI 0), LW W z f)))) ∧ (I x1 ≤ I x0 → ((0 < I x1 → res = (some (vI x1), LW W z f)) ∧ (I x1 ≤ 0 → res = (some (vI 0), LW W z f)))))) : XC call (mP 22) 0 [some (vI x0), some (vI x1)] [] (LW W z f) res := by
  refine xc_b (i' := 3) (ls' := [some (vI x0), some (vI x1)]) (st' := [vI x0, vI x1, vI 0]) (L' := LW W z f) 3 (b22_1 call x0 x1 _) ?_
  refine xc_if2 (it := 4) (ie := 4) (ls' := [some (vI x0), some (vI x1)]) (st1 := [vI x0, vI 0]) (st2 := [vI x1, vI 0]) (b22_2 call x1 x0 0 _ _) (fun q1 => ?_) (fun q1 => ?_)
  · have H := H.1 (cI2t q1 rfl rfl)
    refine xc_if2 (it := 5) (ie := 5) (ls' := [some (vI x0), some (vI x1)]) (st1 := [vI x0]) (st2 := [vI 0]) (b22_3 call 0 x0 _ _) (fun q2 => ?_) (fun q2 => ?_)
    · have H := H.1 (cI2t q2 rfl rfl)
      subst H
      exact xc_ret (b22_4 call _ _ _)
    · have H := H.2 (cI2f q2 rfl rfl)
      subst H
      exact xc_ret (b22_4 call _ _ _)
  · have H := H.2 (cI2f q1 rfl rfl)
    refine xc_if2 (it := 5) (ie := 5) (ls' := [some (vI x0), some (vI x1)]) (st1 := [vI x1]) (st2 := [vI 0]) (b22_3 call 0 x1 _ _) (fun q3 => ?_) (fun q3 => ?_)
    · have H := H.1 (cI2t q3 rfl rfl)
      subst H
      exact xc_ret (b22_4 call _ _ _)
    · have H := H.2 (cI2f q3 rfl rfl)
      subst H
      exact xc_ret (b22_4 call _ _ _)
set_option maxRecDepth 100000 in
theorem b105_1 (call : QC FA) (x1 : Int32) (x3 : Int32) (x4 : Int32) (x5 : Int32) (o6 : Option PV) (L : QH FA) (F : Nat) : xnG call 105 (F + 1) 0 [some (vR 5), some (vI x1), some (vR 2), some (vI x3), some (vI x4), some (vI x5), o6] [] L = xnG call 105 F 1 [some (vR 5), some (vI x1), some (vR 2), some (vI x3), some (vI x4), some (vI x5), o6] [vI x1] L := rfl
set_option maxRecDepth 100000 in
theorem b105_2 (call : QC FA) (x : Int32) (ls : List (Option PV)) (L : QH FA) (F : Nat) : xnG call 105 (F + 1) 1 ls [vI x] L = bif pcmp 2 x 0 then xnG call 105 F 5 ls [] L else xnG call 105 F 2 ls [] L := rfl
set_option maxRecDepth 100000 in
theorem b105_3 (call : QC FA) (x1 : Int32) (x3 : Int32) (x4 : Int32) (x5 : Int32) (o6 : Option PV) (L : QH FA) (F : Nat) : xnG call 105 (F + 1) 5 [some (vR 5), some (vI x1), some (vR 2), some (vI x3), some (vI x4), some (vI x5), o6] [] L = xnG call 105 F 6 [some (vR 5), some (vI x1), some (vR 2), some (vI x3), some (vI x4), some (vI x5), o6] [vI x1] L := rfl
set_option maxRecDepth 100000 in
theorem b105_4 (call : QC FA) (x : Int32) (ls : List (Option PV)) (L : QH FA) (F : Nat) : xnG call 105 (F + 1) 6 ls [vI x] L = some (some (vI x), L) := rfl
set_option maxRecDepth 100000 in
theorem b105_5 (call : QC FA) (x1 : Int32) (x3 : Int32) (x4 : Int32) (x5 : Int32) (o6 : Option PV) (L : QH FA) (F : Nat) : xnG call 105 (F + 2) 2 [some (vR 5), some (vI x1), some (vR 2), some (vI x3), some (vI x4), some (vI x5), o6] [] L = xnG call 105 F 4 [some (vR 5), some (vI x1), some (vR 2), some (vI x3), some (vI x4), some (vI x5), o6] [vI 150, vI x1] L := rfl
set_option maxRecDepth 100000 in
theorem b105_6 (call : QC FA) (x y : Int32) (ls : List (Option PV)) (L : QH FA) (F : Nat) : xnG call 105 (F + 1) 4 ls [vI y, vI x] L = bif pcmp 2 x y then xnG call 105 F 7 ls [] L else xnG call 105 F 5 ls [] L := rfl
set_option maxRecDepth 100000 in
theorem b105_7 (call : QC FA) (x1 : Int32) (x3 : Int32) (x4 : Int32) (x5 : Int32) (o6 : Option PV) (z : Nat → Int32) (f : Nat → FA) (F : Nat) : xnG call 105 (F + 9) 7 [some (vR 5), some (vI x1), some (vR 2), some (vI x3), some (vI x4), some (vI x5), o6] [] (LW W z f) = xnG call 105 F 16 [some (vR 5), some (vI x1), some (vR 2), some (vI x3), some (vI x4), some (vI x5), some (vI (x1 * 5))] [vI (z 25), vI (x1 * 5), vR 6] (LW W z f) := rfl
set_option maxRecDepth 100000 in
theorem b105_8 (call : QC FA) (x y : Int32) (ls : List (Option PV)) (z : Nat → Int32) (f : Nat → FA) (F : Nat) : xnG call 105 (F + 1) 16 ls [vI y, vI x, vR 6] (LW W z f) = bif (Nat.beq 0 0 && pin x 750) then xnG call 105 F 17 ls [] (LW W z (uA f 6 (upd (f 6) (ix x) y))) else none := rfl
set_option maxRecDepth 100000 in
theorem b105_9 (call : QC FA) (x1 : Int32) (x3 : Int32) (x4 : Int32) (x5 : Int32) (x6 : Int32) (z : Nat → Int32) (f : Nat → FA) (F : Nat) : xnG call 105 (F + 7) 17 [some (vR 5), some (vI x1), some (vR 2), some (vI x3), some (vI x4), some (vI x5), some (vI x6)] [] (LW W z f) = xnG call 105 F 24 [some (vR 5), some (vI x1), some (vR 2), some (vI x3), some (vI x4), some (vI x5), some (vI x6)] [vI (z 24), vI (x6 + 1), vR 6] (LW W z f) := rfl
set_option maxRecDepth 100000 in
theorem b105_10 (call : QC FA) (x y : Int32) (ls : List (Option PV)) (z : Nat → Int32) (f : Nat → FA) (F : Nat) : xnG call 105 (F + 1) 24 ls [vI y, vI x, vR 6] (LW W z f) = bif (Nat.beq 0 0 && pin x 750) then xnG call 105 F 25 ls [] (LW W z (uA f 6 (upd (f 6) (ix x) y))) else none := rfl
set_option maxRecDepth 100000 in
theorem b105_11 (call : QC FA) (x1 : Int32) (x3 : Int32) (x4 : Int32) (x5 : Int32) (x6 : Int32) (z : Nat → Int32) (f : Nat → FA) (F : Nat) : xnG call 105 (F + 6) 25 [some (vR 5), some (vI x1), some (vR 2), some (vI x3), some (vI x4), some (vI x5), some (vI x6)] [] (LW W z f) = xnG call 105 F 31 [some (vR 5), some (vI x1), some (vR 2), some (vI x3), some (vI x4), some (vI x5), some (vI x6)] [vI x3, vI (x6 + 2), vR 6] (LW W z f) := rfl
set_option maxRecDepth 100000 in
theorem b105_12 (call : QC FA) (x y : Int32) (ls : List (Option PV)) (z : Nat → Int32) (f : Nat → FA) (F : Nat) : xnG call 105 (F + 1) 31 ls [vI y, vI x, vR 6] (LW W z f) = bif (Nat.beq 0 0 && pin x 750) then xnG call 105 F 32 ls [] (LW W z (uA f 6 (upd (f 6) (ix x) y))) else none := rfl
set_option maxRecDepth 100000 in
theorem b105_13 (call : QC FA) (x1 : Int32) (x3 : Int32) (x4 : Int32) (x5 : Int32) (x6 : Int32) (z : Nat → Int32) (f : Nat → FA) (F : Nat) : xnG call 105 (F + 6) 32 [some (vR 5), some (vI x1), some (vR 2), some (vI x3), some (vI x4), some (vI x5), some (vI x6)] [] (LW W z f) = xnG call 105 F 38 [some (vR 5), some (vI x1), some (vR 2), some (vI x3), some (vI x4), some (vI x5), some (vI x6)] [vI x4, vI (x6 + 3), vR 6] (LW W z f) := rfl
set_option maxRecDepth 100000 in
theorem b105_14 (call : QC FA) (x y : Int32) (ls : List (Option PV)) (z : Nat → Int32) (f : Nat → FA) (F : Nat) : xnG call 105 (F + 1) 38 ls [vI y, vI x, vR 6] (LW W z f) = bif (Nat.beq 0 0 && pin x 750) then xnG call 105 F 39 ls [] (LW W z (uA f 6 (upd (f 6) (ix x) y))) else none := rfl
set_option maxRecDepth 100000 in
theorem b105_15 (call : QC FA) (x1 : Int32) (x3 : Int32) (x4 : Int32) (x5 : Int32) (x6 : Int32) (z : Nat → Int32) (f : Nat → FA) (F : Nat) : xnG call 105 (F + 6) 39 [some (vR 5), some (vI x1), some (vR 2), some (vI x3), some (vI x4), some (vI x5), some (vI x6)] [] (LW W z f) = xnG call 105 F 45 [some (vR 5), some (vI x1), some (vR 2), some (vI x3), some (vI x4), some (vI x5), some (vI x6)] [vI x5, vI (x6 + 4), vR 6] (LW W z f) := rfl
set_option maxRecDepth 100000 in
theorem b105_16 (call : QC FA) (x y : Int32) (ls : List (Option PV)) (z : Nat → Int32) (f : Nat → FA) (F : Nat) : xnG call 105 (F + 1) 45 ls [vI y, vI x, vR 6] (LW W z f) = bif (Nat.beq 0 0 && pin x 750) then xnG call 105 F 46 ls [] (LW W z (uA f 6 (upd (f 6) (ix x) y))) else none := rfl
set_option maxRecDepth 100000 in
theorem b105_17 (call : QC FA) (x1 : Int32) (x3 : Int32) (x4 : Int32) (x5 : Int32) (x6 : Int32) (L : QH FA) (F : Nat) : xnG call 105 (F + 3) 46 [some (vR 5), some (vI x1), some (vR 2), some (vI x3), some (vI x4), some (vI x5), some (vI x6)] [] L = xnG call 105 F 49 [some (vR 5), some (vI x1), some (vR 2), some (vI x3), some (vI x4), some (vI x5), some (vI x6)] [vI (x1 + 1)] L := rfl
set_option maxRecDepth 100000 in
theorem b105_18 (call : QC FA) (x : Int32) (ls : List (Option PV)) (L : QH FA) (F : Nat) : xnG call 105 (F + 1) 49 ls [vI x] L = some (some (vI x), L) := rfl
theorem vc105_0 (call : QC FA) (x1 : Int32) (x3 : Int32) (x4 : Int32) (x5 : Int32) (o6 : Option PV) (z : Nat → Int32) (f : Nat → FA) (res : Option PV × QH FA) (H : ((I x1 < 0 → res = (some (vI x1), LW W z f)) ∧ (0 ≤ I x1 → ((I x1 < 150 → (pin (x1 * 5) 750 = true ∧ (pin ((x1 * 5) + 1) 750 = true ∧ (pin ((x1 * 5) + 2) 750 = true ∧ (pin ((x1 * 5) + 3) 750 = true ∧ (pin ((x1 * 5) + 4) 750 = true ∧ res = (some (vI (x1 + 1)), LW W z (uA (uA (uA (uA (uA f 6 (upd (f 6) (ix (x1 * 5)) (z 25))) 6 (upd (upd (f 6) (ix (x1 * 5)) (z 25)) (ix ((x1 * 5) + 1)) (z 24))) 6 (upd (upd (upd (f 6) (ix (x1 * 5)) (z 25)) (ix ((x1 * 5) + 1)) (z 24)) (ix ((x1 * 5) + 2)) x3)) 6 (upd (upd (upd (upd (f 6) (ix (x1 * 5)) (z 25)) (ix ((x1 * 5) + 1)) (z 24)) (ix ((x1 * 5) + 2)) x3) (ix ((x1 * 5) + 3)) x4)) 6 (upd (upd (upd (upd (upd (f 6) (ix (x1 * 5)) (z 25)) (ix ((x1 * 5) + 1)) (z 24)) (ix ((x1 * 5) + 2)) x3) (ix ((x1 * 5) + 3)) x4) (ix ((x1 * 5) + 4)) x5))))))))) ∧ (150 ≤ I x1 → res = (some (vI x1), LW W z f)))))) : XC call (mP 105) 0 [some (vR 5), some (vI x1), some (vR 2), some (vI x3), some (vI x4), some (vI x5), o6] [] (LW W z f) res := by
  refine xc_b (i' := 1) (ls' := [some (vR 5), some (vI x1), some (vR 2), some (vI x3), some (vI x4), some (vI x5), o6]) (st' := [vI x1]) (L' := LW W z f) 1 (b105_1 call x1 x3 x4 x5 o6 _) ?_
  refine xc_if (it := 5) (ie := 2) (ls' := [some (vR 5), some (vI x1), some (vR 2), some (vI x3), some (vI x4), some (vI x5), o6]) (st' := []) (b105_2 call x1 _ _) (fun q1 => ?_) (fun q1 => ?_)
  · have H := H.1 (cI2t q1 rfl rfl)
    refine xc_b (i' := 6) (ls' := [some (vR 5), some (vI x1), some (vR 2), some (vI x3), some (vI x4), some (vI x5), o6]) (st' := [vI x1]) (L' := LW W z f) 1 (b105_3 call x1 x3 x4 x5 o6 _) ?_
    subst H
    exact xc_ret (b105_4 call _ _ _)
  · have H := H.2 (cI2f q1 rfl rfl)
    refine xc_b (i' := 4) (ls' := [some (vR 5), some (vI x1), some (vR 2), some (vI x3), some (vI x4), some (vI x5), o6]) (st' := [vI 150, vI x1]) (L' := LW W z f) 2 (b105_5 call x1 x3 x4 x5 o6 _) ?_
    refine xc_if (it := 7) (ie := 5) (ls' := [some (vR 5), some (vI x1), some (vR 2), some (vI x3), some (vI x4), some (vI x5), o6]) (st' := []) (b105_6 call x1 150 _ _) (fun q2 => ?_) (fun q2 => ?_)
    · have H := H.1 (cI2t q2 rfl rfl)
      refine xc_b (i' := 16) (ls' := [some (vR 5), some (vI x1), some (vR 2), some (vI x3), some (vI x4), some (vI x5), some (vI (x1 * 5))]) (st' := [vI (z 25), vI (x1 * 5), vR 6]) (L' := LW W z f) 9 (b105_7 call x1 x3 x4 x5 o6 z f) ?_
      obtain ⟨g1, H⟩ := H
      refine xc_g (i' := 17) (ls' := [some (vR 5), some (vI x1), some (vR 2), some (vI x3), some (vI x4), some (vI x5), some (vI (x1 * 5))]) (st' := []) (L' := LW W z (uA f 6 (upd (f 6) (ix (x1 * 5)) (z 25)))) (b105_8 call (x1 * 5) (z 25) _ z f) (pinG g1) ?_
      refine xc_b (i' := 24) (ls' := [some (vR 5), some (vI x1), some (vR 2), some (vI x3), some (vI x4), some (vI x5), some (vI (x1 * 5))]) (st' := [vI (z 24), vI ((x1 * 5) + 1), vR 6]) (L' := LW W z (uA f 6 (upd (f 6) (ix (x1 * 5)) (z 25)))) 7 (b105_9 call x1 x3 x4 x5 (x1 * 5) z (uA f 6 (upd (f 6) (ix (x1 * 5)) (z 25)))) ?_
      obtain ⟨g1, H⟩ := H
      refine xc_g (i' := 25) (ls' := [some (vR 5), some (vI x1), some (vR 2), some (vI x3), some (vI x4), some (vI x5), some (vI (x1 * 5))]) (st' := []) (L' := LW W z (uA (uA f 6 (upd (f 6) (ix (x1 * 5)) (z 25))) 6 (upd (upd (f 6) (ix (x1 * 5)) (z 25)) (ix ((x1 * 5) + 1)) (z 24)))) (b105_10 call ((x1 * 5) + 1) (z 24) _ z (uA f 6 (upd (f 6) (ix (x1 * 5)) (z 25)))) (pinG g1) ?_
      refine xc_b (i' := 31) (ls' := [some (vR 5), some (vI x1), some (vR 2), some (vI x3), some (vI x4), some (vI x5), some (vI (x1 * 5))]) (st' := [vI x3, vI ((x1 * 5) + 2), vR 6]) (L' := LW W z (uA (uA f 6 (upd (f 6) (ix (x1 * 5)) (z 25))) 6 (upd (upd (f 6) (ix (x1 * 5)) (z 25)) (ix ((x1 * 5) + 1)) (z 24)))) 6 (b105_11 call x1 x3 x4 x5 (x1 * 5) z (uA (uA f 6 (upd (f 6) (ix (x1 * 5)) (z 25))) 6 (upd (upd (f 6) (ix (x1 * 5)) (z 25)) (ix ((x1 * 5) + 1)) (z 24)))) ?_
      obtain ⟨g1, H⟩ := H
      refine xc_g (i' := 32) (ls' := [some (vR 5), some (vI x1), some (vR 2), some (vI x3), some (vI x4), some (vI x5), some (vI (x1 * 5))]) (st' := []) (L' := LW W z (uA (uA (uA f 6 (upd (f 6) (ix (x1 * 5)) (z 25))) 6 (upd (upd (f 6) (ix (x1 * 5)) (z 25)) (ix ((x1 * 5) + 1)) (z 24))) 6 (upd (upd (upd (f 6) (ix (x1 * 5)) (z 25)) (ix ((x1 * 5) + 1)) (z 24)) (ix ((x1 * 5) + 2)) x3))) (b105_12 call ((x1 * 5) + 2) x3 _ z (uA (uA f 6 (upd (f 6) (ix (x1 * 5)) (z 25))) 6 (upd (upd (f 6) (ix (x1 * 5)) (z 25)) (ix ((x1 * 5) + 1)) (z 24)))) (pinG g1) ?_
      refine xc_b (i' := 38) (ls' := [some (vR 5), some (vI x1), some (vR 2), some (vI x3), some (vI x4), some (vI x5), some (vI (x1 * 5))]) (st' := [vI x4, vI ((x1 * 5) + 3), vR 6]) (L' := LW W z (uA (uA (uA f 6 (upd (f 6) (ix (x1 * 5)) (z 25))) 6 (upd (upd (f 6) (ix (x1 * 5)) (z 25)) (ix ((x1 * 5) + 1)) (z 24))) 6 (upd (upd (upd (f 6) (ix (x1 * 5)) (z 25)) (ix ((x1 * 5) + 1)) (z 24)) (ix ((x1 * 5) + 2)) x3))) 6 (b105_13 call x1 x3 x4 x5 (x1 * 5) z (uA (uA (uA f 6 (upd (f 6) (ix (x1 * 5)) (z 25))) 6 (upd (upd (f 6) (ix (x1 * 5)) (z 25)) (ix ((x1 * 5) + 1)) (z 24))) 6 (upd (upd (upd (f 6) (ix (x1 * 5)) (z 25)) (ix ((x1 * 5) + 1)) (z 24)) (ix ((x1 * 5) + 2)) x3))) ?_
      obtain ⟨g1, H⟩ := H
      refine xc_g (i' := 39) (ls' := [some (vR 5), some (vI x1), some (vR 2), some (vI x3), some (vI x4), some (vI x5), some (vI (x1 * 5))]) (st' := []) (L' := LW W z (uA (uA (uA (uA f 6 (upd (f 6) (ix (x1 * 5)) (z 25))) 6 (upd (upd (f 6) (ix (x1 * 5)) (z 25)) (ix ((x1 * 5) + 1)) (z 24))) 6 (upd (upd (upd (f 6) (ix (x1 * 5)) (z 25)) (ix ((x1 * 5) + 1)) (z 24)) (ix ((x1 * 5) + 2)) x3)) 6 (upd (upd (upd (upd (f 6) (ix (x1 * 5)) (z 25)) (ix ((x1 * 5) + 1)) (z 24)) (ix ((x1 * 5) + 2)) x3) (ix ((x1 * 5) + 3)) x4))) (b105_14 call ((x1 * 5) + 3) x4 _ z (uA (uA (uA f 6 (upd (f 6) (ix (x1 * 5)) (z 25))) 6 (upd (upd (f 6) (ix (x1 * 5)) (z 25)) (ix ((x1 * 5) + 1)) (z 24))) 6 (upd (upd (upd (f 6) (ix (x1 * 5)) (z 25)) (ix ((x1 * 5) + 1)) (z 24)) (ix ((x1 * 5) + 2)) x3))) (pinG g1) ?_
      refine xc_b (i' := 45) (ls' := [some (vR 5), some (vI x1), some (vR 2), some (vI x3), some (vI x4), some (vI x5), some (vI (x1 * 5))]) (st' := [vI x5, vI ((x1 * 5) + 4), vR 6]) (L' := LW W z (uA (uA (uA (uA f 6 (upd (f 6) (ix (x1 * 5)) (z 25))) 6 (upd (upd (f 6) (ix (x1 * 5)) (z 25)) (ix ((x1 * 5) + 1)) (z 24))) 6 (upd (upd (upd (f 6) (ix (x1 * 5)) (z 25)) (ix ((x1 * 5) + 1)) (z 24)) (ix ((x1 * 5) + 2)) x3)) 6 (upd (upd (upd (upd (f 6) (ix (x1 * 5)) (z 25)) (ix ((x1 * 5) + 1)) (z 24)) (ix ((x1 * 5) + 2)) x3) (ix ((x1 * 5) + 3)) x4))) 6 (b105_15 call x1 x3 x4 x5 (x1 * 5) z (uA (uA (uA (uA f 6 (upd (f 6) (ix (x1 * 5)) (z 25))) 6 (upd (upd (f 6) (ix (x1 * 5)) (z 25)) (ix ((x1 * 5) + 1)) (z 24))) 6 (upd (upd (upd (f 6) (ix (x1 * 5)) (z 25)) (ix ((x1 * 5) + 1)) (z 24)) (ix ((x1 * 5) + 2)) x3)) 6 (upd (upd (upd (upd (f 6) (ix (x1 * 5)) (z 25)) (ix ((x1 * 5) + 1)) (z 24)) (ix ((x1 * 5) + 2)) x3) (ix ((x1 * 5) + 3)) x4))) ?_
      obtain ⟨g1, H⟩ := H
      refine xc_g (i' := 46) (ls' := [some (vR 5), some (vI x1), some (vR 2), some (vI x3), some (vI x4), some (vI x5), some (vI (x1 * 5))]) (st' := []) (L' := LW W z (uA (uA (uA (uA (uA f 6 (upd (f 6) (ix (x1 * 5)) (z 25))) 6 (upd (upd (f 6) (ix (x1 * 5)) (z 25)) (ix ((x1 * 5) + 1)) (z 24))) 6 (upd (upd (upd (f 6) (ix (x1 * 5)) (z 25)) (ix ((x1 * 5) + 1)) (z 24)) (ix ((x1 * 5) + 2)) x3)) 6 (upd (upd (upd (upd (f 6) (ix (x1 * 5)) (z 25)) (ix ((x1 * 5) + 1)) (z 24)) (ix ((x1 * 5) + 2)) x3) (ix ((x1 * 5) + 3)) x4)) 6 (upd (upd (upd (upd (upd (f 6) (ix (x1 * 5)) (z 25)) (ix ((x1 * 5) + 1)) (z 24)) (ix ((x1 * 5) + 2)) x3) (ix ((x1 * 5) + 3)) x4) (ix ((x1 * 5) + 4)) x5))) (b105_16 call ((x1 * 5) + 4) x5 _ z (uA (uA (uA (uA f 6 (upd (f 6) (ix (x1 * 5)) (z 25))) 6 (upd (upd (f 6) (ix (x1 * 5)) (z 25)) (ix ((x1 * 5) + 1)) (z 24))) 6 (upd (upd (upd (f 6) (ix (x1 * 5)) (z 25)) (ix ((x1 * 5) + 1)) (z 24)) (ix ((x1 * 5) + 2)) x3)) 6 (upd (upd (upd (upd (f 6) (ix (x1 * 5)) (z 25)) (ix ((x1 * 5) + 1)) (z 24)) (ix ((x1 * 5) + 2)) x3) (ix ((x1 * 5) + 3)) x4))) (pinG g1) ?_
      refine xc_b (i' := 49) (ls' := [some (vR 5), some (vI x1), some (vR 2), some (vI x3), some (vI x4), some (vI x5), some (vI (x1 * 5))]) (st' := [vI (x1 + 1)]) (L' := LW W z (uA (uA (uA (uA (uA f 6 (upd (f 6) (ix (x1 * 5)) (z 25))) 6 (upd (upd (f 6) (ix (x1 * 5)) (z 25)) (ix ((x1 * 5) + 1)) (z 24))) 6 (upd (upd (upd (f 6) (ix (x1 * 5)) (z 25)) (ix ((x1 * 5) + 1)) (z 24)) (ix ((x1 * 5) + 2)) x3)) 6 (upd (upd (upd (upd (f 6) (ix (x1 * 5)) (z 25)) (ix ((x1 * 5) + 1)) (z 24)) (ix ((x1 * 5) + 2)) x3) (ix ((x1 * 5) + 3)) x4)) 6 (upd (upd (upd (upd (upd (f 6) (ix (x1 * 5)) (z 25)) (ix ((x1 * 5) + 1)) (z 24)) (ix ((x1 * 5) + 2)) x3) (ix ((x1 * 5) + 3)) x4) (ix ((x1 * 5) + 4)) x5))) 3 (b105_17 call x1 x3 x4 x5 (x1 * 5) _) ?_
      subst H
      exact xc_ret (b105_18 call _ _ _)
    · have H := H.2 (cI2f q2 rfl rfl)
      refine xc_b (i' := 6) (ls' := [some (vR 5), some (vI x1), some (vR 2), some (vI x3), some (vI x4), some (vI x5), o6]) (st' := [vI x1]) (L' := LW W z f) 1 (b105_3 call x1 x3 x4 x5 o6 _) ?_
      subst H
      exact xc_ret (b105_4 call _ _ _)
set_option maxRecDepth 100000 in
theorem b103_1 (call : QC FA) (x1 : Int32) (x2 : Int32) (o3 : Option PV) (L : QH FA) (F : Nat) : xnG call 103 (F + 1) 0 [some (vR 5), some (vI x1), some (vI x2), o3] [] L = xnG call 103 F 1 [some (vR 5), some (vI x1), some (vI x2), o3] [vI x1] L := rfl
set_option maxRecDepth 100000 in
theorem b103_2 (call : QC FA) (x : Int32) (ls : List (Option PV)) (L : QH FA) (F : Nat) : xnG call 103 (F + 1) 1 ls [vI x] L = bif pcmp 2 x 0 then xnG call 103 F 12 ls [] L else xnG call 103 F 2 ls [] L := rfl
set_option maxRecDepth 100000 in
theorem b103_3 (call : QC FA) (x1 : Int32) (x2 : Int32) (o3 : Option PV) (L : QH FA) (F : Nat) : xnG call 103 (F + 3) 12 [some (vR 5), some (vI x1), some (vI x2), o3] [] L = xnG call 103 F 15 [some (vR 5), some (vI x1), some (vI x2), some (vI 0)] [vI 0] L := rfl
set_option maxRecDepth 100000 in
theorem b103_4 (call : QC FA) (x : Int32) (ls : List (Option PV)) (L : QH FA) (F : Nat) : xnG call 103 (F + 1) 15 ls [vI x] L = bif pcmp 0 x 0 then xnG call 103 F 25 ls [] L else xnG call 103 F 16 ls [] L := rfl
set_option maxRecDepth 100000 in
theorem b103_5 (call : QC FA) (x1 : Int32) (x2 : Int32) (x3 : Int32) (L : QH FA) (F : Nat) : xnG call 103 (F + 1) 25 [some (vR 5), some (vI x1), some (vI x2), some (vI x3)] [] L = xnG call 103 F 26 [some (vR 5), some (vI x1), some (vI x2), some (vI x3)] [vI 0] L := rfl
set_option maxRecDepth 100000 in
theorem b103_6 (call : QC FA) (x : Int32) (ls : List (Option PV)) (L : QH FA) (F : Nat) : xnG call 103 (F + 1) 26 ls [vI x] L = some (some (vI x), L) := rfl
set_option maxRecDepth 100000 in
theorem b103_7 (call : QC FA) (x1 : Int32) (x2 : Int32) (o3 : Option PV) (L : QH FA) (F : Nat) : xnG call 103 (F + 2) 2 [some (vR 5), some (vI x1), some (vI x2), o3] [] L = xnG call 103 F 4 [some (vR 5), some (vI x1), some (vI x2), o3] [vI 150, vI x1] L := rfl
set_option maxRecDepth 100000 in
theorem b103_8 (call : QC FA) (x y : Int32) (ls : List (Option PV)) (L : QH FA) (F : Nat) : xnG call 103 (F + 1) 4 ls [vI y, vI x] L = bif pcmp 3 x y then xnG call 103 F 12 ls [] L else xnG call 103 F 5 ls [] L := rfl
set_option maxRecDepth 100000 in
theorem b103_9 (call : QC FA) (x1 : Int32) (x2 : Int32) (o3 : Option PV) (L : QH FA) (F : Nat) : xnG call 103 (F + 1) 5 [some (vR 5), some (vI x1), some (vI x2), o3] [] L = xnG call 103 F 6 [some (vR 5), some (vI x1), some (vI x2), o3] [vI x2] L := rfl
set_option maxRecDepth 100000 in
theorem b103_10 (call : QC FA) (x : Int32) (ls : List (Option PV)) (L : QH FA) (F : Nat) : xnG call 103 (F + 1) 6 ls [vI x] L = bif pcmp 2 x 0 then xnG call 103 F 12 ls [] L else xnG call 103 F 7 ls [] L := rfl
set_option maxRecDepth 100000 in
theorem b103_11 (call : QC FA) (x1 : Int32) (x2 : Int32) (o3 : Option PV) (L : QH FA) (F : Nat) : xnG call 103 (F + 2) 7 [some (vR 5), some (vI x1), some (vI x2), o3] [] L = xnG call 103 F 9 [some (vR 5), some (vI x1), some (vI x2), o3] [vI 5, vI x2] L := rfl
set_option maxRecDepth 100000 in
theorem b103_12 (call : QC FA) (x y : Int32) (ls : List (Option PV)) (L : QH FA) (F : Nat) : xnG call 103 (F + 1) 9 ls [vI y, vI x] L = bif pcmp 3 x y then xnG call 103 F 12 ls [] L else xnG call 103 F 10 ls [] L := rfl
set_option maxRecDepth 100000 in
theorem b103_13 (call : QC FA) (x1 : Int32) (x2 : Int32) (o3 : Option PV) (L : QH FA) (F : Nat) : xnG call 103 (F + 4) 10 [some (vR 5), some (vI x1), some (vI x2), o3] [] L = xnG call 103 F 15 [some (vR 5), some (vI x1), some (vI x2), some (vI 1)] [vI 1] L := rfl
set_option maxRecDepth 100000 in
theorem b103_14 (call : QC FA) (x1 : Int32) (x2 : Int32) (x3 : Int32) (z : Nat → Int32) (f : Nat → FA) (F : Nat) : xnG call 103 (F + 7) 16 [some (vR 5), some (vI x1), some (vI x2), some (vI x3)] [] (LW W z f) = xnG call 103 F 23 [some (vR 5), some (vI x1), some (vI x2), some (vI x3)] [vI ((x1 * 5) + x2), vR 6] (LW W z f) := rfl
set_option maxRecDepth 100000 in
theorem b103_15 (call : QC FA) (x : Int32) (ls : List (Option PV)) (z : Nat → Int32) (f : Nat → FA) (F : Nat) : xnG call 103 (F + 1) 23 ls [vI x, vR 6] (LW W z f) = bif (Nat.beq 0 0 && pin x 750) then xnG call 103 F 24 ls [vI (f 6 (ix x))] (LW W z f) else none := rfl
set_option maxRecDepth 100000 in
theorem b103_16 (call : QC FA) (x1 : Int32) (x2 : Int32) (x3 : Int32) (s0 : Int32) (L : QH FA) (F : Nat) : xnG call 103 (F + 1) 24 [some (vR 5), some (vI x1), some (vI x2), some (vI x3)] [vI s0] L = xnG call 103 F 26 [some (vR 5), some (vI x1), some (vI x2), some (vI x3)] [vI s0] L := rfl
theorem vc103_0 (call : QC FA) (x1 : Int32) (x2 : Int32) (o3 : Option PV) (z : Nat → Int32) (f : Nat → FA) (res : Option PV × QH FA) (H : ((I x1 < 0 → res = (some (vI 0), LW W z f)) ∧ (0 ≤ I x1 → ((150 ≤ I x1 → res = (some (vI 0), LW W z f)) ∧ (I x1 < 150 → ((I x2 < 0 → res = (some (vI 0), LW W z f)) ∧ (0 ≤ I x2 → ((5 ≤ I x2 → res = (some (vI 0), LW W z f)) ∧ (I x2 < 5 → (pin ((x1 * 5) + x2) 750 = true ∧ res = (some (vI (f 6 (ix ((x1 * 5) + x2)))), LW W z f))))))))))) : XC call (mP 103) 0 [some (vR 5), some (vI x1), some (vI x2), o3] [] (LW W z f) res := by
  refine xc_b (i' := 1) (ls' := [some (vR 5), some (vI x1), some (vI x2), o3]) (st' := [vI x1]) (L' := LW W z f) 1 (b103_1 call x1 x2 o3 _) ?_
  refine xc_if (it := 12) (ie := 2) (ls' := [some (vR 5), some (vI x1), some (vI x2), o3]) (st' := []) (b103_2 call x1 _ _) (fun q1 => ?_) (fun q1 => ?_)
  · have H := H.1 (cI2t q1 rfl rfl)
    refine xc_b (i' := 15) (ls' := [some (vR 5), some (vI x1), some (vI x2), some (vI 0)]) (st' := [vI 0]) (L' := LW W z f) 3 (b103_3 call x1 x2 o3 _) ?_
    refine xc_t (it := 25) (ie := 16) (ls' := [some (vR 5), some (vI x1), some (vI x2), some (vI 0)]) (st' := []) (b103_4 call 0 _ _) (by decide) ?_
    refine xc_b (i' := 26) (ls' := [some (vR 5), some (vI x1), some (vI x2), some (vI 0)]) (st' := [vI 0]) (L' := LW W z f) 1 (b103_5 call x1 x2 0 _) ?_
    subst H
    exact xc_ret (b103_6 call _ _ _)
  · have H := H.2 (cI2f q1 rfl rfl)
    refine xc_b (i' := 4) (ls' := [some (vR 5), some (vI x1), some (vI x2), o3]) (st' := [vI 150, vI x1]) (L' := LW W z f) 2 (b103_7 call x1 x2 o3 _) ?_
    refine xc_if (it := 12) (ie := 5) (ls' := [some (vR 5), some (vI x1), some (vI x2), o3]) (st' := []) (b103_8 call x1 150 _ _) (fun q2 => ?_) (fun q2 => ?_)
    · have H := H.1 (cI3t q2 rfl rfl)
      refine xc_b (i' := 15) (ls' := [some (vR 5), some (vI x1), some (vI x2), some (vI 0)]) (st' := [vI 0]) (L' := LW W z f) 3 (b103_3 call x1 x2 o3 _) ?_
      refine xc_t (it := 25) (ie := 16) (ls' := [some (vR 5), some (vI x1), some (vI x2), some (vI 0)]) (st' := []) (b103_4 call 0 _ _) (by decide) ?_
      refine xc_b (i' := 26) (ls' := [some (vR 5), some (vI x1), some (vI x2), some (vI 0)]) (st' := [vI 0]) (L' := LW W z f) 1 (b103_5 call x1 x2 0 _) ?_
      subst H
      exact xc_ret (b103_6 call _ _ _)
    · have H := H.2 (cI3f q2 rfl rfl)
      refine xc_b (i' := 6) (ls' := [some (vR 5), some (vI x1), some (vI x2), o3]) (st' := [vI x2]) (L' := LW W z f) 1 (b103_9 call x1 x2 o3 _) ?_
      refine xc_if (it := 12) (ie := 7) (ls' := [some (vR 5), some (vI x1), some (vI x2), o3]) (st' := []) (b103_10 call x2 _ _) (fun q3 => ?_) (fun q3 => ?_)
      · have H := H.1 (cI2t q3 rfl rfl)
        refine xc_b (i' := 15) (ls' := [some (vR 5), some (vI x1), some (vI x2), some (vI 0)]) (st' := [vI 0]) (L' := LW W z f) 3 (b103_3 call x1 x2 o3 _) ?_
        refine xc_t (it := 25) (ie := 16) (ls' := [some (vR 5), some (vI x1), some (vI x2), some (vI 0)]) (st' := []) (b103_4 call 0 _ _) (by decide) ?_
        refine xc_b (i' := 26) (ls' := [some (vR 5), some (vI x1), some (vI x2), some (vI 0)]) (st' := [vI 0]) (L' := LW W z f) 1 (b103_5 call x1 x2 0 _) ?_
        subst H
        exact xc_ret (b103_6 call _ _ _)
      · have H := H.2 (cI2f q3 rfl rfl)
        refine xc_b (i' := 9) (ls' := [some (vR 5), some (vI x1), some (vI x2), o3]) (st' := [vI 5, vI x2]) (L' := LW W z f) 2 (b103_11 call x1 x2 o3 _) ?_
        refine xc_if (it := 12) (ie := 10) (ls' := [some (vR 5), some (vI x1), some (vI x2), o3]) (st' := []) (b103_12 call x2 5 _ _) (fun q4 => ?_) (fun q4 => ?_)
        · have H := H.1 (cI3t q4 rfl rfl)
          refine xc_b (i' := 15) (ls' := [some (vR 5), some (vI x1), some (vI x2), some (vI 0)]) (st' := [vI 0]) (L' := LW W z f) 3 (b103_3 call x1 x2 o3 _) ?_
          refine xc_t (it := 25) (ie := 16) (ls' := [some (vR 5), some (vI x1), some (vI x2), some (vI 0)]) (st' := []) (b103_4 call 0 _ _) (by decide) ?_
          refine xc_b (i' := 26) (ls' := [some (vR 5), some (vI x1), some (vI x2), some (vI 0)]) (st' := [vI 0]) (L' := LW W z f) 1 (b103_5 call x1 x2 0 _) ?_
          subst H
          exact xc_ret (b103_6 call _ _ _)
        · have H := H.2 (cI3f q4 rfl rfl)
          refine xc_b (i' := 15) (ls' := [some (vR 5), some (vI x1), some (vI x2), some (vI 1)]) (st' := [vI 1]) (L' := LW W z f) 4 (b103_13 call x1 x2 o3 _) ?_
          refine xc_f (it := 25) (ie := 16) (ls' := [some (vR 5), some (vI x1), some (vI x2), some (vI 1)]) (st' := []) (b103_4 call 1 _ _) (by decide) ?_
          refine xc_b (i' := 23) (ls' := [some (vR 5), some (vI x1), some (vI x2), some (vI 1)]) (st' := [vI ((x1 * 5) + x2), vR 6]) (L' := LW W z f) 7 (b103_14 call x1 x2 1 z f) ?_
          obtain ⟨g1, H⟩ := H
          refine xc_g (i' := 24) (ls' := [some (vR 5), some (vI x1), some (vI x2), some (vI 1)]) (st' := [vI (f 6 (ix ((x1 * 5) + x2)))]) (L' := LW W z f) (b103_15 call ((x1 * 5) + x2) _ z f) (pinG g1) ?_
          refine xc_b (i' := 26) (ls' := [some (vR 5), some (vI x1), some (vI x2), some (vI 1)]) (st' := [vI (f 6 (ix ((x1 * 5) + x2)))]) (L' := LW W z f) 1 (b103_16 call x1 x2 1 (f 6 (ix ((x1 * 5) + x2))) _) ?_
          subst H
          exact xc_ret (b103_6 call _ _ _)
set_option maxRecDepth 100000 in
theorem b12_1 (call : QC FA) (x1 : Int32) (x2 : Int32) (o3 : Option PV) (L : QH FA) (F : Nat) : xnG call 12 (F + 2) 0 [some (vR 8), some (vI x1), some (vI x2), o3] [] L = xnG call 12 F 2 [some (vR 8), some (vI x1), some (vI x2), o3] [vI ((-1)), vI x2] L := rfl
set_option maxRecDepth 100000 in
theorem b12_2 (call : QC FA) (x y : Int32) (ls : List (Option PV)) (L : QH FA) (F : Nat) : xnG call 12 (F + 1) 2 ls [vI y, vI x] L = bif pcmp 0 x y then xnG call 12 F 5 ls [] L else xnG call 12 F 3 ls [] L := rfl
set_option maxRecDepth 100000 in
theorem b12_3 (call : QC FA) (x1 : Int32) (x2 : Int32) (o3 : Option PV) (z : Nat → Int32) (f : Nat → FA) (F : Nat) : xnG call 12 (F + 6) 5 [some (vR 8), some (vI x1), some (vI x2), o3] [] (LW W z f) = xnG call 12 F 11 [some (vR 8), some (vI x1), some (vI x2), some (vI 0)] [vI 0, vI 0, vR 9] (LW W z f) := rfl
set_option maxRecDepth 100000 in
theorem b12_4 (call : QC FA) (x : Int32) (s0 : Int32) (ls : List (Option PV)) (L : QH FA) (F : Nat) : xnG call 12 (F + 1) 11 ls [vI x, vI s0, vR 9] L = bif pcmp 0 x 0 then xnG call 12 F 17 ls [vI s0, vR 9] L else xnG call 12 F 12 ls [vI s0, vR 9] L := rfl
set_option maxRecDepth 100000 in
theorem b12_5 (call : QC FA) (x1 : Int32) (x2 : Int32) (x3 : Int32) (s0 : Int32) (z : Nat → Int32) (f : Nat → FA) (F : Nat) : xnG call 12 (F + 4) 17 [some (vR 8), some (vI x1), some (vI x2), some (vI x3)] [vI s0, vR 9] (LW W z f) = xnG call 12 F 21 [some (vR 8), some (vI x1), some (vI x2), some (vI x3)] [vI 1, vI x1, vR 2, vI s0, vR 9] (LW W z f) := rfl
set_option maxRecDepth 100000 in
theorem b12_6 (call : QC FA) (a0 : Int32) (a1 : Int32) (s0 : Int32) (ls : List (Option PV)) (z : Nat → Int32) (f : Nat → FA) (F : Nat) : xnG call 12 (F + 1) 21 ls [vI a1, vI a0, vR 2, vI s0, vR 9] (LW W z f) = cbd (call 13 [vR 2, vI a0, vI a1] (LW W z f)) (fun r L' => xnG call 12 F 22 ls (r.toList ++ [vI s0, vR 9]) L') := pcY (ih := xnG call 12 F) (call := call) (a := 13) (b := 2) (v := 0) (t := 22) (x := 2) (ls := ls) (As := [vI a0, vI a1]) (st' := [vI s0, vR 9]) (L := LW W z f) rfl rfl rfl
set_option maxRecDepth 100000 in
theorem b12_7 (call : QC FA) (x y : Int32) (ls : List (Option PV)) (z : Nat → Int32) (f : Nat → FA) (F : Nat) : xnG call 12 (F + 1) 22 ls [vI y, vI x, vR 9] (LW W z f) = bif (Nat.beq 0 0 && pin x 10) then xnG call 12 F 23 ls [] (LW W z (uA f 9 (upd (f 9) (ix x) y))) else none := rfl
set_option maxRecDepth 100000 in
theorem b12_8 (call : QC FA) (x1 : Int32) (x2 : Int32) (x3 : Int32) (z : Nat → Int32) (f : Nat → FA) (F : Nat) : xnG call 12 (F + 7) 23 [some (vR 8), some (vI x1), some (vI x2), some (vI x3)] [] (LW W z f) = xnG call 12 F 30 [some (vR 8), some (vI x1), some (vI x2), some (vI x3)] [vI 3, vI x1, vR 2, vI 1, vR 9] (LW W z f) := rfl
set_option maxRecDepth 100000 in
theorem b12_9 (call : QC FA) (a0 : Int32) (a1 : Int32) (s0 : Int32) (ls : List (Option PV)) (z : Nat → Int32) (f : Nat → FA) (F : Nat) : xnG call 12 (F + 1) 30 ls [vI a1, vI a0, vR 2, vI s0, vR 9] (LW W z f) = cbd (call 13 [vR 2, vI a0, vI a1] (LW W z f)) (fun r L' => xnG call 12 F 31 ls (r.toList ++ [vI s0, vR 9]) L') := pcY (ih := xnG call 12 F) (call := call) (a := 13) (b := 2) (v := 0) (t := 31) (x := 2) (ls := ls) (As := [vI a0, vI a1]) (st' := [vI s0, vR 9]) (L := LW W z f) rfl rfl rfl
set_option maxRecDepth 100000 in
theorem b12_10 (call : QC FA) (x y : Int32) (ls : List (Option PV)) (z : Nat → Int32) (f : Nat → FA) (F : Nat) : xnG call 12 (F + 1) 31 ls [vI y, vI x, vR 9] (LW W z f) = bif (Nat.beq 0 0 && pin x 10) then xnG call 12 F 32 ls [] (LW W z (uA f 9 (upd (f 9) (ix x) y))) else none := rfl
set_option maxRecDepth 100000 in
theorem b12_11 (call : QC FA) (x1 : Int32) (x2 : Int32) (x3 : Int32) (z : Nat → Int32) (f : Nat → FA) (F : Nat) : xnG call 12 (F + 7) 32 [some (vR 8), some (vI x1), some (vI x2), some (vI x3)] [] (LW W z f) = xnG call 12 F 39 [some (vR 8), some (vI x1), some (vI x2), some (vI x3)] [vI 2, vI x1, vR 2, vI 2, vR 9] (LW W z f) := rfl
set_option maxRecDepth 100000 in
theorem b12_12 (call : QC FA) (a0 : Int32) (a1 : Int32) (s0 : Int32) (ls : List (Option PV)) (z : Nat → Int32) (f : Nat → FA) (F : Nat) : xnG call 12 (F + 1) 39 ls [vI a1, vI a0, vR 2, vI s0, vR 9] (LW W z f) = cbd (call 13 [vR 2, vI a0, vI a1] (LW W z f)) (fun r L' => xnG call 12 F 40 ls (r.toList ++ [vI s0, vR 9]) L') := pcY (ih := xnG call 12 F) (call := call) (a := 13) (b := 2) (v := 0) (t := 40) (x := 2) (ls := ls) (As := [vI a0, vI a1]) (st' := [vI s0, vR 9]) (L := LW W z f) rfl rfl rfl
set_option maxRecDepth 100000 in
theorem b12_13 (call : QC FA) (x y : Int32) (ls : List (Option PV)) (z : Nat → Int32) (f : Nat → FA) (F : Nat) : xnG call 12 (F + 1) 40 ls [vI y, vI x, vR 9] (LW W z f) = bif (Nat.beq 0 0 && pin x 10) then xnG call 12 F 41 ls [] (LW W z (uA f 9 (upd (f 9) (ix x) y))) else none := rfl
set_option maxRecDepth 100000 in
theorem b12_14 (call : QC FA) (x1 : Int32) (x2 : Int32) (x3 : Int32) (z : Nat → Int32) (f : Nat → FA) (F : Nat) : xnG call 12 (F + 4) 41 [some (vR 8), some (vI x1), some (vI x2), some (vI x3)] [] (LW W z f) = xnG call 12 F 45 [some (vR 8), some (vI x1), some (vI x2), some (vI x3)] [vI x3, vI 3, vR 9] (LW W z f) := rfl
set_option maxRecDepth 100000 in
theorem b12_15 (call : QC FA) (x : Int32) (s0 : Int32) (ls : List (Option PV)) (L : QH FA) (F : Nat) : xnG call 12 (F + 1) 45 ls [vI x, vI s0, vR 9] L = bif pcmp 0 x 0 then xnG call 12 F 51 ls [vI s0, vR 9] L else xnG call 12 F 46 ls [vI s0, vR 9] L := rfl
set_option maxRecDepth 100000 in
theorem b12_16 (call : QC FA) (x1 : Int32) (x2 : Int32) (x3 : Int32) (s0 : Int32) (L : QH FA) (F : Nat) : xnG call 12 (F + 1) 51 [some (vR 8), some (vI x1), some (vI x2), some (vI x3)] [vI s0, vR 9] L = xnG call 12 F 52 [some (vR 8), some (vI x1), some (vI x2), some (vI x3)] [vI 0, vI s0, vR 9] L := rfl
set_option maxRecDepth 100000 in
theorem b12_17 (call : QC FA) (x y : Int32) (ls : List (Option PV)) (z : Nat → Int32) (f : Nat → FA) (F : Nat) : xnG call 12 (F + 1) 52 ls [vI y, vI x, vR 9] (LW W z f) = bif (Nat.beq 0 0 && pin x 10) then xnG call 12 F 53 ls [] (LW W z (uA f 9 (upd (f 9) (ix x) y))) else none := rfl
set_option maxRecDepth 100000 in
theorem b12_18 (call : QC FA) (x1 : Int32) (x2 : Int32) (x3 : Int32) (z : Nat → Int32) (f : Nat → FA) (F : Nat) : xnG call 12 (F + 6) 53 [some (vR 8), some (vI x1), some (vI x2), some (vI x3)] [] (LW W z f) = xnG call 12 F 59 [some (vR 8), some (vI x1), some (vI x2), some (vI x3)] [vI (z 23), vI 4, vR 9] (LW W z f) := rfl
set_option maxRecDepth 100000 in
theorem b12_19 (call : QC FA) (x y : Int32) (ls : List (Option PV)) (z : Nat → Int32) (f : Nat → FA) (F : Nat) : xnG call 12 (F + 1) 59 ls [vI y, vI x, vR 9] (LW W z f) = bif (Nat.beq 0 0 && pin x 10) then xnG call 12 F 60 ls [] (LW W z (uA f 9 (upd (f 9) (ix x) y))) else none := rfl
set_option maxRecDepth 100000 in
theorem b12_20 (call : QC FA) (x1 : Int32) (x2 : Int32) (x3 : Int32) (z : Nat → Int32) (f : Nat → FA) (F : Nat) : xnG call 12 (F + 6) 60 [some (vR 8), some (vI x1), some (vI x2), some (vI x3)] [] (LW W z f) = xnG call 12 F 66 [some (vR 8), some (vI x1), some (vI x2), some (vI x3)] [vI (z 24), vI 5, vR 9] (LW W z f) := rfl
set_option maxRecDepth 100000 in
theorem b12_21 (call : QC FA) (x y : Int32) (ls : List (Option PV)) (z : Nat → Int32) (f : Nat → FA) (F : Nat) : xnG call 12 (F + 1) 66 ls [vI y, vI x, vR 9] (LW W z f) = bif (Nat.beq 0 0 && pin x 10) then xnG call 12 F 67 ls [] (LW W z (uA f 9 (upd (f 9) (ix x) y))) else none := rfl
set_option maxRecDepth 100000 in
theorem b12_22 (call : QC FA) (x1 : Int32) (x2 : Int32) (x3 : Int32) (z : Nat → Int32) (f : Nat → FA) (F : Nat) : xnG call 12 (F + 4) 67 [some (vR 8), some (vI x1), some (vI x2), some (vI x3)] [] (LW W z f) = xnG call 12 F 71 [some (vR 8), some (vI x1), some (vI x2), some (vI x3)] [vI x3, vI 6, vR 9] (LW W z f) := rfl
set_option maxRecDepth 100000 in
theorem b12_23 (call : QC FA) (x : Int32) (s0 : Int32) (ls : List (Option PV)) (L : QH FA) (F : Nat) : xnG call 12 (F + 1) 71 ls [vI x, vI s0, vR 9] L = bif pcmp 0 x 0 then xnG call 12 F 76 ls [vI s0, vR 9] L else xnG call 12 F 72 ls [vI s0, vR 9] L := rfl
set_option maxRecDepth 100000 in
theorem b12_24 (call : QC FA) (x1 : Int32) (x2 : Int32) (x3 : Int32) (s0 : Int32) (L : QH FA) (F : Nat) : xnG call 12 (F + 1) 76 [some (vR 8), some (vI x1), some (vI x2), some (vI x3)] [vI s0, vR 9] L = xnG call 12 F 77 [some (vR 8), some (vI x1), some (vI x2), some (vI x3)] [vI 0, vI s0, vR 9] L := rfl
set_option maxRecDepth 100000 in
theorem b12_25 (call : QC FA) (x y : Int32) (ls : List (Option PV)) (z : Nat → Int32) (f : Nat → FA) (F : Nat) : xnG call 12 (F + 1) 77 ls [vI y, vI x, vR 9] (LW W z f) = bif (Nat.beq 0 0 && pin x 10) then xnG call 12 F 78 ls [] (LW W z (uA f 9 (upd (f 9) (ix x) y))) else none := rfl
set_option maxRecDepth 100000 in
theorem b12_26 (call : QC FA) (x1 : Int32) (x2 : Int32) (x3 : Int32) (z : Nat → Int32) (f : Nat → FA) (F : Nat) : xnG call 12 (F + 4) 78 [some (vR 8), some (vI x1), some (vI x2), some (vI x3)] [] (LW W z f) = xnG call 12 F 82 [some (vR 8), some (vI x1), some (vI x2), some (vI x3)] [vI x3, vI 7, vR 9] (LW W z f) := rfl
set_option maxRecDepth 100000 in
theorem b12_27 (call : QC FA) (x : Int32) (s0 : Int32) (ls : List (Option PV)) (L : QH FA) (F : Nat) : xnG call 12 (F + 1) 82 ls [vI x, vI s0, vR 9] L = bif pcmp 0 x 0 then xnG call 12 F 88 ls [vI s0, vR 9] L else xnG call 12 F 83 ls [vI s0, vR 9] L := rfl
set_option maxRecDepth 100000 in
theorem b12_28 (call : QC FA) (x1 : Int32) (x2 : Int32) (x3 : Int32) (s0 : Int32) (L : QH FA) (F : Nat) : xnG call 12 (F + 1) 88 [some (vR 8), some (vI x1), some (vI x2), some (vI x3)] [vI s0, vR 9] L = xnG call 12 F 89 [some (vR 8), some (vI x1), some (vI x2), some (vI x3)] [vI 0, vI s0, vR 9] L := rfl
set_option maxRecDepth 100000 in
theorem b12_29 (call : QC FA) (x y : Int32) (ls : List (Option PV)) (z : Nat → Int32) (f : Nat → FA) (F : Nat) : xnG call 12 (F + 1) 89 ls [vI y, vI x, vR 9] (LW W z f) = bif (Nat.beq 0 0 && pin x 10) then xnG call 12 F 90 ls [] (LW W z (uA f 9 (upd (f 9) (ix x) y))) else none := rfl
set_option maxRecDepth 100000 in
theorem b12_30 (call : QC FA) (x1 : Int32) (x2 : Int32) (x3 : Int32) (z : Nat → Int32) (f : Nat → FA) (F : Nat) : xnG call 12 (F + 7) 90 [some (vR 8), some (vI x1), some (vI x2), some (vI x3)] [] (LW W z f) = xnG call 12 F 97 [some (vR 8), some (vI x1), some (vI x2), some (vI x3)] [vI 5, vI x1, vR 2, vI 8, vR 9] (LW W z f) := rfl
set_option maxRecDepth 100000 in
theorem b12_31 (call : QC FA) (a0 : Int32) (a1 : Int32) (s0 : Int32) (ls : List (Option PV)) (z : Nat → Int32) (f : Nat → FA) (F : Nat) : xnG call 12 (F + 1) 97 ls [vI a1, vI a0, vR 2, vI s0, vR 9] (LW W z f) = cbd (call 13 [vR 2, vI a0, vI a1] (LW W z f)) (fun r L' => xnG call 12 F 98 ls (r.toList ++ [vI s0, vR 9]) L') := pcY (ih := xnG call 12 F) (call := call) (a := 13) (b := 2) (v := 0) (t := 98) (x := 2) (ls := ls) (As := [vI a0, vI a1]) (st' := [vI s0, vR 9]) (L := LW W z f) rfl rfl rfl
set_option maxRecDepth 100000 in
theorem b12_32 (call : QC FA) (x y : Int32) (ls : List (Option PV)) (z : Nat → Int32) (f : Nat → FA) (F : Nat) : xnG call 12 (F + 1) 98 ls [vI y, vI x, vR 9] (LW W z f) = bif (Nat.beq 0 0 && pin x 10) then xnG call 12 F 99 ls [] (LW W z (uA f 9 (upd (f 9) (ix x) y))) else none := rfl
set_option maxRecDepth 100000 in
theorem b12_33 (call : QC FA) (x1 : Int32) (x2 : Int32) (x3 : Int32) (z : Nat → Int32) (f : Nat → FA) (F : Nat) : xnG call 12 (F + 6) 99 [some (vR 8), some (vI x1), some (vI x2), some (vI x3)] [] (LW W z f) = xnG call 12 F 105 [some (vR 8), some (vI x1), some (vI x2), some (vI x3)] [vI (z 25), vI 9, vR 9] (LW W z f) := rfl
set_option maxRecDepth 100000 in
theorem b12_34 (call : QC FA) (x y : Int32) (ls : List (Option PV)) (z : Nat → Int32) (f : Nat → FA) (F : Nat) : xnG call 12 (F + 1) 105 ls [vI y, vI x, vR 9] (LW W z f) = bif (Nat.beq 0 0 && pin x 10) then xnG call 12 F 106 ls [] (LW W z (uA f 9 (upd (f 9) (ix x) y))) else none := rfl
set_option maxRecDepth 100000 in
theorem b12_35 (call : QC FA) (ls : List (Option PV)) (L : QH FA) (F : Nat) : xnG call 12 (F + 1) 106 ls [] L = some (none, L) := rfl
set_option maxRecDepth 100000 in
theorem b12_36 (call : QC FA) (x1 : Int32) (x2 : Int32) (o3 : Option PV) (z : Nat → Int32) (f : Nat → FA) (F : Nat) : xnG call 12 (F + 7) 3 [some (vR 8), some (vI x1), some (vI x2), o3] [] (LW W z f) = xnG call 12 F 11 [some (vR 8), some (vI x1), some (vI x2), some (vI 1)] [vI 1, vI 0, vR 9] (LW W z f) := rfl
set_option maxRecDepth 100000 in
theorem b12_37 (call : QC FA) (x1 : Int32) (x2 : Int32) (x3 : Int32) (s0 : Int32) (z : Nat → Int32) (f : Nat → FA) (F : Nat) : xnG call 12 (F + 3) 12 [some (vR 8), some (vI x1), some (vI x2), some (vI x3)] [vI s0, vR 9] (LW W z f) = xnG call 12 F 15 [some (vR 8), some (vI x1), some (vI x2), some (vI x3)] [vI x2, vR 2, vI s0, vR 9] (LW W z f) := rfl
set_option maxRecDepth 100000 in
theorem b12_38 (call : QC FA) (a0 : Int32) (s0 : Int32) (ls : List (Option PV)) (z : Nat → Int32) (f : Nat → FA) (F : Nat) : xnG call 12 (F + 1) 15 ls [vI a0, vR 2, vI s0, vR 9] (LW W z f) = cbd (call 7 [vR 2, vI a0] (LW W z f)) (fun r L' => xnG call 12 F 16 ls (r.toList ++ [vI s0, vR 9]) L') := pcY (ih := xnG call 12 F) (call := call) (a := 7) (b := 1) (v := 0) (t := 16) (x := 2) (ls := ls) (As := [vI a0]) (st' := [vI s0, vR 9]) (L := LW W z f) rfl rfl rfl
set_option maxRecDepth 100000 in
theorem b12_39 (call : QC FA) (x1 : Int32) (x2 : Int32) (x3 : Int32) (s0 : Int32) (s1 : Int32) (L : QH FA) (F : Nat) : xnG call 12 (F + 1) 16 [some (vR 8), some (vI x1), some (vI x2), some (vI x3)] [vI s0, vI s1, vR 9] L = xnG call 12 F 22 [some (vR 8), some (vI x1), some (vI x2), some (vI x3)] [vI s0, vI s1, vR 9] L := rfl
set_option maxRecDepth 100000 in
theorem b12_40 (call : QC FA) (x1 : Int32) (x2 : Int32) (x3 : Int32) (s0 : Int32) (z : Nat → Int32) (f : Nat → FA) (F : Nat) : xnG call 12 (F + 3) 46 [some (vR 8), some (vI x1), some (vI x2), some (vI x3)] [vI s0, vR 9] (LW W z f) = xnG call 12 F 49 [some (vR 8), some (vI x1), some (vI x2), some (vI x3)] [vI x2, vR 2, vI s0, vR 9] (LW W z f) := rfl
set_option maxRecDepth 100000 in
theorem b12_41 (call : QC FA) (a0 : Int32) (s0 : Int32) (ls : List (Option PV)) (z : Nat → Int32) (f : Nat → FA) (F : Nat) : xnG call 12 (F + 1) 49 ls [vI a0, vR 2, vI s0, vR 9] (LW W z f) = cbd (call 15 [vR 2, vI a0] (LW W z f)) (fun r L' => xnG call 12 F 50 ls (r.toList ++ [vI s0, vR 9]) L') := pcY (ih := xnG call 12 F) (call := call) (a := 15) (b := 1) (v := 0) (t := 50) (x := 2) (ls := ls) (As := [vI a0]) (st' := [vI s0, vR 9]) (L := LW W z f) rfl rfl rfl
set_option maxRecDepth 100000 in
theorem b12_42 (call : QC FA) (x1 : Int32) (x2 : Int32) (x3 : Int32) (s0 : Int32) (s1 : Int32) (L : QH FA) (F : Nat) : xnG call 12 (F + 1) 50 [some (vR 8), some (vI x1), some (vI x2), some (vI x3)] [vI s0, vI s1, vR 9] L = xnG call 12 F 52 [some (vR 8), some (vI x1), some (vI x2), some (vI x3)] [vI s0, vI s1, vR 9] L := rfl
set_option maxRecDepth 100000 in
theorem b12_43 (call : QC FA) (x1 : Int32) (x2 : Int32) (x3 : Int32) (s0 : Int32) (L : QH FA) (F : Nat) : xnG call 12 (F + 2) 72 [some (vR 8), some (vI x1), some (vI x2), some (vI x3)] [vI s0, vR 9] L = xnG call 12 F 74 [some (vR 8), some (vI x1), some (vI x2), some (vI x3)] [vI 12, vI x2, vI s0, vR 9] L := rfl
set_option maxRecDepth 100000 in
theorem b12_44 (call : QC FA) (x y : Int32) (s0 : Int32) (ls : List (Option PV)) (L : QH FA) (F : Nat) : xnG call 12 (F + 1) 74 ls [vI y, vI x, vI s0, vR 9] L = bif pcmp 1 y 0 then xnG call 12 F 75 ls [vI (x / y), vI s0, vR 9] L else none := rfl
set_option maxRecDepth 100000 in
theorem b12_45 (call : QC FA) (x1 : Int32) (x2 : Int32) (x3 : Int32) (s0 : Int32) (s1 : Int32) (L : QH FA) (F : Nat) : xnG call 12 (F + 1) 75 [some (vR 8), some (vI x1), some (vI x2), some (vI x3)] [vI s0, vI s1, vR 9] L = xnG call 12 F 77 [some (vR 8), some (vI x1), some (vI x2), some (vI x3)] [vI s0, vI s1, vR 9] L := rfl
set_option maxRecDepth 100000 in
theorem b12_46 (call : QC FA) (x1 : Int32) (x2 : Int32) (x3 : Int32) (s0 : Int32) (z : Nat → Int32) (f : Nat → FA) (F : Nat) : xnG call 12 (F + 3) 83 [some (vR 8), some (vI x1), some (vI x2), some (vI x3)] [vI s0, vR 9] (LW W z f) = xnG call 12 F 86 [some (vR 8), some (vI x1), some (vI x2), some (vI x3)] [vI x2, vR 2, vI s0, vR 9] (LW W z f) := rfl
set_option maxRecDepth 100000 in
theorem b12_47 (call : QC FA) (a0 : Int32) (s0 : Int32) (ls : List (Option PV)) (z : Nat → Int32) (f : Nat → FA) (F : Nat) : xnG call 12 (F + 1) 86 ls [vI a0, vR 2, vI s0, vR 9] (LW W z f) = cbd (call 16 [vR 2, vI a0] (LW W z f)) (fun r L' => xnG call 12 F 87 ls (r.toList ++ [vI s0, vR 9]) L') := pcY (ih := xnG call 12 F) (call := call) (a := 16) (b := 1) (v := 0) (t := 87) (x := 2) (ls := ls) (As := [vI a0]) (st' := [vI s0, vR 9]) (L := LW W z f) rfl rfl rfl
set_option maxRecDepth 100000 in
theorem b12_48 (call : QC FA) (x1 : Int32) (x2 : Int32) (x3 : Int32) (s0 : Int32) (s1 : Int32) (L : QH FA) (F : Nat) : xnG call 12 (F + 1) 87 [some (vR 8), some (vI x1), some (vI x2), some (vI x3)] [vI s0, vI s1, vR 9] L = xnG call 12 F 89 [some (vR 8), some (vI x1), some (vI x2), some (vI x3)] [vI s0, vI s1, vR 9] L := rfl
theorem vc12_0 (call : QC FA) (x1 : Int32) (x2 : Int32) (o3 : Option PV) (z : Nat → Int32) (f : Nat → FA) (res : Option PV × QH FA) (H : ((x2 = (-1) → (∃ (r1 : Int32) (z1 : Nat → Int32) (f1 : Nat → FA), call 13 [vR 2, vI x1, vI 1] (LW W z f) = some (some (vI r1), LW W z1 f1) ∧ (pin 0 10 = true ∧ (∃ (r2 : Int32) (z2 : Nat → Int32) (f2 : Nat → FA), call 13 [vR 2, vI x1, vI 3] (LW W z1 (uA f1 9 (upd (f1 9) (ix 0) r1))) = some (some (vI r2), LW W z2 f2) ∧ (pin 1 10 = true ∧ (∃ (r3 : Int32) (z3 : Nat → Int32) (f3 : Nat → FA), call 13 [vR 2, vI x1, vI 2] (LW W z2 (uA f2 9 (upd (f2 9) (ix 1) r2))) = some (some (vI r3), LW W z3 f3) ∧ (pin 2 10 = true ∧ (pin 3 10 = true ∧ (pin 4 10 = true ∧ (pin 5 10 = true ∧ (pin 6 10 = true ∧ (pin 7 10 = true ∧ (∃ (r4 : Int32) (z4 : Nat → Int32) (f4 : Nat → FA), call 13 [vR 2, vI x1, vI 5] (LW W z3 (uA (uA (uA (uA (uA (uA f3 9 (upd (f3 9) (ix 2) r3)) 9 (upd (upd (f3 9) (ix 2) r3) (ix 3) 0)) 9 (upd (upd (upd (f3 9) (ix 2) r3) (ix 3) 0) (ix 4) (z3 23))) 9 (upd (upd (upd (upd (f3 9) (ix 2) r3) (ix 3) 0) (ix 4) (z3 23)) (ix 5) (z3 24))) 9 (upd (upd (upd (upd (upd (f3 9) (ix 2) r3) (ix 3) 0) (ix 4) (z3 23)) (ix 5) (z3 24)) (ix 6) 0)) 9 (upd (upd (upd (upd (upd (upd (f3 9) (ix 2) r3) (ix 3) 0) (ix 4) (z3 23)) (ix 5) (z3 24)) (ix 6) 0) (ix 7) 0))) = some (some (vI r4), LW W z4 f4) ∧ (pin 8 10 = true ∧ (pin 9 10 = true ∧ res = (none, LW W z4 (uA (uA f4 9 (upd (f4 9) (ix 8) r4)) 9 (upd (upd (f4 9) (ix 8) r4) (ix 9) (z4 25))))))))))))))))))) ∧ (¬ x2 = (-1) → (∃ (r5 : Int32) (z5 : Nat → Int32) (f5 : Nat → FA), call 7 [vR 2, vI x2] (LW W z f) = some (some (vI r5), LW W z5 f5) ∧ (pin 0 10 = true ∧ (∃ (r6 : Int32) (z6 : Nat → Int32) (f6 : Nat → FA), call 13 [vR 2, vI x1, vI 3] (LW W z5 (uA f5 9 (upd (f5 9) (ix 0) r5))) = some (some (vI r6), LW W z6 f6) ∧ (pin 1 10 = true ∧ (∃ (r7 : Int32) (z7 : Nat → Int32) (f7 : Nat → FA), call 13 [vR 2, vI x1, vI 2] (LW W z6 (uA f6 9 (upd (f6 9) (ix 1) r6))) = some (some (vI r7), LW W z7 f7) ∧ (pin 2 10 = true ∧ (∃ (r8 : Int32) (z8 : Nat → Int32) (f8 : Nat → FA), call 15 [vR 2, vI x2] (LW W z7 (uA f7 9 (upd (f7 9) (ix 2) r7))) = some (some (vI r8), LW W z8 f8) ∧ (pin 3 10 = true ∧ (pin 4 10 = true ∧ (pin 5 10 = true ∧ (¬ (12 : Int32) = 0 ∧ (pin 6 10 = true ∧ (∃ (r9 : Int32) (z9 : Nat → Int32) (f9 : Nat → FA), call 16 [vR 2, vI x2] (LW W z8 (uA (uA (uA (uA f8 9 (upd (f8 9) (ix 3) r8)) 9 (upd (upd (f8 9) (ix 3) r8) (ix 4) (z8 23))) 9 (upd (upd (upd (f8 9) (ix 3) r8) (ix 4) (z8 23)) (ix 5) (z8 24))) 9 (upd (upd (upd (upd (f8 9) (ix 3) r8) (ix 4) (z8 23)) (ix 5) (z8 24)) (ix 6) (x2 / 12)))) = some (some (vI r9), LW W z9 f9) ∧ (pin 7 10 = true ∧ (∃ (r10 : Int32) (z10 : Nat → Int32) (f10 : Nat → FA), call 13 [vR 2, vI x1, vI 5] (LW W z9 (uA f9 9 (upd (f9 9) (ix 7) r9))) = some (some (vI r10), LW W z10 f10) ∧ (pin 8 10 = true ∧ (pin 9 10 = true ∧ res = (none, LW W z10 (uA (uA f10 9 (upd (f10 9) (ix 8) r10)) 9 (upd (upd (f10 9) (ix 8) r10) (ix 9) (z10 25)))))))))))))))))))))))) : XC call (mP 12) 0 [some (vR 8), some (vI x1), some (vI x2), o3] [] (LW W z f) res := by
  refine xc_b (i' := 2) (ls' := [some (vR 8), some (vI x1), some (vI x2), o3]) (st' := [vI ((-1)), vI x2]) (L' := LW W z f) 2 (b12_1 call x1 x2 o3 _) ?_
  refine xc_if (it := 5) (ie := 3) (ls' := [some (vR 8), some (vI x1), some (vI x2), o3]) (st' := []) (b12_2 call x2 ((-1)) _ _) (fun q1 => ?_) (fun q1 => ?_)
  · have H := H.1 (cI0t q1)
    refine xc_b (i' := 11) (ls' := [some (vR 8), some (vI x1), some (vI x2), some (vI 0)]) (st' := [vI 0, vI 0, vR 9]) (L' := LW W z f) 6 (b12_3 call x1 x2 o3 z f) ?_
    refine xc_t (it := 17) (ie := 12) (ls' := [some (vR 8), some (vI x1), some (vI x2), some (vI 0)]) (st' := [vI 0, vR 9]) (b12_4 call 0 0 _ _) (by decide) ?_
    refine xc_b (i' := 21) (ls' := [some (vR 8), some (vI x1), some (vI x2), some (vI 0)]) (st' := [vI 1, vI x1, vR 2, vI 0, vR 9]) (L' := LW W z f) 4 (b12_5 call x1 x2 0 0 z f) ?_
    obtain ⟨r1, z1, f1, hc, H⟩ := H
    refine xc_call (t := 22) (ls' := [some (vR 8), some (vI x1), some (vI x2), some (vI 0)]) (st' := [vI 0, vR 9]) (b12_6 call x1 1 0 _ z f) hc ?_
    show XC call (mP 12) 22 [some (vR 8), some (vI x1), some (vI x2), some (vI 0)] [vI r1, vI 0, vR 9] (LW W z1 f1) res
    obtain ⟨g1, H⟩ := H
    refine xc_g (i' := 23) (ls' := [some (vR 8), some (vI x1), some (vI x2), some (vI 0)]) (st' := []) (L' := LW W z1 (uA f1 9 (upd (f1 9) (ix 0) r1))) (b12_7 call 0 r1 _ z1 f1) (pinG g1) ?_
    refine xc_b (i' := 30) (ls' := [some (vR 8), some (vI x1), some (vI x2), some (vI 0)]) (st' := [vI 3, vI x1, vR 2, vI 1, vR 9]) (L' := LW W z1 (uA f1 9 (upd (f1 9) (ix 0) r1))) 7 (b12_8 call x1 x2 0 z1 (uA f1 9 (upd (f1 9) (ix 0) r1))) ?_
    obtain ⟨r2, z2, f2, hc, H⟩ := H
    refine xc_call (t := 31) (ls' := [some (vR 8), some (vI x1), some (vI x2), some (vI 0)]) (st' := [vI 1, vR 9]) (b12_9 call x1 3 1 _ z1 (uA f1 9 (upd (f1 9) (ix 0) r1))) hc ?_
    show XC call (mP 12) 31 [some (vR 8), some (vI x1), some (vI x2), some (vI 0)] [vI r2, vI 1, vR 9] (LW W z2 f2) res
    obtain ⟨g1, H⟩ := H
    refine xc_g (i' := 32) (ls' := [some (vR 8), some (vI x1), some (vI x2), some (vI 0)]) (st' := []) (L' := LW W z2 (uA f2 9 (upd (f2 9) (ix 1) r2))) (b12_10 call 1 r2 _ z2 f2) (pinG g1) ?_
    refine xc_b (i' := 39) (ls' := [some (vR 8), some (vI x1), some (vI x2), some (vI 0)]) (st' := [vI 2, vI x1, vR 2, vI 2, vR 9]) (L' := LW W z2 (uA f2 9 (upd (f2 9) (ix 1) r2))) 7 (b12_11 call x1 x2 0 z2 (uA f2 9 (upd (f2 9) (ix 1) r2))) ?_
    obtain ⟨r3, z3, f3, hc, H⟩ := H
    refine xc_call (t := 40) (ls' := [some (vR 8), some (vI x1), some (vI x2), some (vI 0)]) (st' := [vI 2, vR 9]) (b12_12 call x1 2 2 _ z2 (uA f2 9 (upd (f2 9) (ix 1) r2))) hc ?_
    show XC call (mP 12) 40 [some (vR 8), some (vI x1), some (vI x2), some (vI 0)] [vI r3, vI 2, vR 9] (LW W z3 f3) res
    obtain ⟨g1, H⟩ := H
    refine xc_g (i' := 41) (ls' := [some (vR 8), some (vI x1), some (vI x2), some (vI 0)]) (st' := []) (L' := LW W z3 (uA f3 9 (upd (f3 9) (ix 2) r3))) (b12_13 call 2 r3 _ z3 f3) (pinG g1) ?_
    refine xc_b (i' := 45) (ls' := [some (vR 8), some (vI x1), some (vI x2), some (vI 0)]) (st' := [vI 0, vI 3, vR 9]) (L' := LW W z3 (uA f3 9 (upd (f3 9) (ix 2) r3))) 4 (b12_14 call x1 x2 0 z3 (uA f3 9 (upd (f3 9) (ix 2) r3))) ?_
    refine xc_t (it := 51) (ie := 46) (ls' := [some (vR 8), some (vI x1), some (vI x2), some (vI 0)]) (st' := [vI 3, vR 9]) (b12_15 call 0 3 _ _) (by decide) ?_
    refine xc_b (i' := 52) (ls' := [some (vR 8), some (vI x1), some (vI x2), some (vI 0)]) (st' := [vI 0, vI 3, vR 9]) (L' := LW W z3 (uA f3 9 (upd (f3 9) (ix 2) r3))) 1 (b12_16 call x1 x2 0 3 _) ?_
    obtain ⟨g1, H⟩ := H
    refine xc_g (i' := 53) (ls' := [some (vR 8), some (vI x1), some (vI x2), some (vI 0)]) (st' := []) (L' := LW W z3 (uA (uA f3 9 (upd (f3 9) (ix 2) r3)) 9 (upd (upd (f3 9) (ix 2) r3) (ix 3) 0))) (b12_17 call 3 0 _ z3 (uA f3 9 (upd (f3 9) (ix 2) r3))) (pinG g1) ?_
    refine xc_b (i' := 59) (ls' := [some (vR 8), some (vI x1), some (vI x2), some (vI 0)]) (st' := [vI (z3 23), vI 4, vR 9]) (L' := LW W z3 (uA (uA f3 9 (upd (f3 9) (ix 2) r3)) 9 (upd (upd (f3 9) (ix 2) r3) (ix 3) 0))) 6 (b12_18 call x1 x2 0 z3 (uA (uA f3 9 (upd (f3 9) (ix 2) r3)) 9 (upd (upd (f3 9) (ix 2) r3) (ix 3) 0))) ?_
    obtain ⟨g1, H⟩ := H
    refine xc_g (i' := 60) (ls' := [some (vR 8), some (vI x1), some (vI x2), some (vI 0)]) (st' := []) (L' := LW W z3 (uA (uA (uA f3 9 (upd (f3 9) (ix 2) r3)) 9 (upd (upd (f3 9) (ix 2) r3) (ix 3) 0)) 9 (upd (upd (upd (f3 9) (ix 2) r3) (ix 3) 0) (ix 4) (z3 23)))) (b12_19 call 4 (z3 23) _ z3 (uA (uA f3 9 (upd (f3 9) (ix 2) r3)) 9 (upd (upd (f3 9) (ix 2) r3) (ix 3) 0))) (pinG g1) ?_
    refine xc_b (i' := 66) (ls' := [some (vR 8), some (vI x1), some (vI x2), some (vI 0)]) (st' := [vI (z3 24), vI 5, vR 9]) (L' := LW W z3 (uA (uA (uA f3 9 (upd (f3 9) (ix 2) r3)) 9 (upd (upd (f3 9) (ix 2) r3) (ix 3) 0)) 9 (upd (upd (upd (f3 9) (ix 2) r3) (ix 3) 0) (ix 4) (z3 23)))) 6 (b12_20 call x1 x2 0 z3 (uA (uA (uA f3 9 (upd (f3 9) (ix 2) r3)) 9 (upd (upd (f3 9) (ix 2) r3) (ix 3) 0)) 9 (upd (upd (upd (f3 9) (ix 2) r3) (ix 3) 0) (ix 4) (z3 23)))) ?_
    obtain ⟨g1, H⟩ := H
    refine xc_g (i' := 67) (ls' := [some (vR 8), some (vI x1), some (vI x2), some (vI 0)]) (st' := []) (L' := LW W z3 (uA (uA (uA (uA f3 9 (upd (f3 9) (ix 2) r3)) 9 (upd (upd (f3 9) (ix 2) r3) (ix 3) 0)) 9 (upd (upd (upd (f3 9) (ix 2) r3) (ix 3) 0) (ix 4) (z3 23))) 9 (upd (upd (upd (upd (f3 9) (ix 2) r3) (ix 3) 0) (ix 4) (z3 23)) (ix 5) (z3 24)))) (b12_21 call 5 (z3 24) _ z3 (uA (uA (uA f3 9 (upd (f3 9) (ix 2) r3)) 9 (upd (upd (f3 9) (ix 2) r3) (ix 3) 0)) 9 (upd (upd (upd (f3 9) (ix 2) r3) (ix 3) 0) (ix 4) (z3 23)))) (pinG g1) ?_
    refine xc_b (i' := 71) (ls' := [some (vR 8), some (vI x1), some (vI x2), some (vI 0)]) (st' := [vI 0, vI 6, vR 9]) (L' := LW W z3 (uA (uA (uA (uA f3 9 (upd (f3 9) (ix 2) r3)) 9 (upd (upd (f3 9) (ix 2) r3) (ix 3) 0)) 9 (upd (upd (upd (f3 9) (ix 2) r3) (ix 3) 0) (ix 4) (z3 23))) 9 (upd (upd (upd (upd (f3 9) (ix 2) r3) (ix 3) 0) (ix 4) (z3 23)) (ix 5) (z3 24)))) 4 (b12_22 call x1 x2 0 z3 (uA (uA (uA (uA f3 9 (upd (f3 9) (ix 2) r3)) 9 (upd (upd (f3 9) (ix 2) r3) (ix 3) 0)) 9 (upd (upd (upd (f3 9) (ix 2) r3) (ix 3) 0) (ix 4) (z3 23))) 9 (upd (upd (upd (upd (f3 9) (ix 2) r3) (ix 3) 0) (ix 4) (z3 23)) (ix 5) (z3 24)))) ?_
    refine xc_t (it := 76) (ie := 72) (ls' := [some (vR 8), some (vI x1), some (vI x2), some (vI 0)]) (st' := [vI 6, vR 9]) (b12_23 call 0 6 _ _) (by decide) ?_
    refine xc_b (i' := 77) (ls' := [some (vR 8), some (vI x1), some (vI x2), some (vI 0)]) (st' := [vI 0, vI 6, vR 9]) (L' := LW W z3 (uA (uA (uA (uA f3 9 (upd (f3 9) (ix 2) r3)) 9 (upd (upd (f3 9) (ix 2) r3) (ix 3) 0)) 9 (upd (upd (upd (f3 9) (ix 2) r3) (ix 3) 0) (ix 4) (z3 23))) 9 (upd (upd (upd (upd (f3 9) (ix 2) r3) (ix 3) 0) (ix 4) (z3 23)) (ix 5) (z3 24)))) 1 (b12_24 call x1 x2 0 6 _) ?_
    obtain ⟨g1, H⟩ := H
    refine xc_g (i' := 78) (ls' := [some (vR 8), some (vI x1), some (vI x2), some (vI 0)]) (st' := []) (L' := LW W z3 (uA (uA (uA (uA (uA f3 9 (upd (f3 9) (ix 2) r3)) 9 (upd (upd (f3 9) (ix 2) r3) (ix 3) 0)) 9 (upd (upd (upd (f3 9) (ix 2) r3) (ix 3) 0) (ix 4) (z3 23))) 9 (upd (upd (upd (upd (f3 9) (ix 2) r3) (ix 3) 0) (ix 4) (z3 23)) (ix 5) (z3 24))) 9 (upd (upd (upd (upd (upd (f3 9) (ix 2) r3) (ix 3) 0) (ix 4) (z3 23)) (ix 5) (z3 24)) (ix 6) 0))) (b12_25 call 6 0 _ z3 (uA (uA (uA (uA f3 9 (upd (f3 9) (ix 2) r3)) 9 (upd (upd (f3 9) (ix 2) r3) (ix 3) 0)) 9 (upd (upd (upd (f3 9) (ix 2) r3) (ix 3) 0) (ix 4) (z3 23))) 9 (upd (upd (upd (upd (f3 9) (ix 2) r3) (ix 3) 0) (ix 4) (z3 23)) (ix 5) (z3 24)))) (pinG g1) ?_
    refine xc_b (i' := 82) (ls' := [some (vR 8), some (vI x1), some (vI x2), some (vI 0)]) (st' := [vI 0, vI 7, vR 9]) (L' := LW W z3 (uA (uA (uA (uA (uA f3 9 (upd (f3 9) (ix 2) r3)) 9 (upd (upd (f3 9) (ix 2) r3) (ix 3) 0)) 9 (upd (upd (upd (f3 9) (ix 2) r3) (ix 3) 0) (ix 4) (z3 23))) 9 (upd (upd (upd (upd (f3 9) (ix 2) r3) (ix 3) 0) (ix 4) (z3 23)) (ix 5) (z3 24))) 9 (upd (upd (upd (upd (upd (f3 9) (ix 2) r3) (ix 3) 0) (ix 4) (z3 23)) (ix 5) (z3 24)) (ix 6) 0))) 4 (b12_26 call x1 x2 0 z3 (uA (uA (uA (uA (uA f3 9 (upd (f3 9) (ix 2) r3)) 9 (upd (upd (f3 9) (ix 2) r3) (ix 3) 0)) 9 (upd (upd (upd (f3 9) (ix 2) r3) (ix 3) 0) (ix 4) (z3 23))) 9 (upd (upd (upd (upd (f3 9) (ix 2) r3) (ix 3) 0) (ix 4) (z3 23)) (ix 5) (z3 24))) 9 (upd (upd (upd (upd (upd (f3 9) (ix 2) r3) (ix 3) 0) (ix 4) (z3 23)) (ix 5) (z3 24)) (ix 6) 0))) ?_
    refine xc_t (it := 88) (ie := 83) (ls' := [some (vR 8), some (vI x1), some (vI x2), some (vI 0)]) (st' := [vI 7, vR 9]) (b12_27 call 0 7 _ _) (by decide) ?_
    refine xc_b (i' := 89) (ls' := [some (vR 8), some (vI x1), some (vI x2), some (vI 0)]) (st' := [vI 0, vI 7, vR 9]) (L' := LW W z3 (uA (uA (uA (uA (uA f3 9 (upd (f3 9) (ix 2) r3)) 9 (upd (upd (f3 9) (ix 2) r3) (ix 3) 0)) 9 (upd (upd (upd (f3 9) (ix 2) r3) (ix 3) 0) (ix 4) (z3 23))) 9 (upd (upd (upd (upd (f3 9) (ix 2) r3) (ix 3) 0) (ix 4) (z3 23)) (ix 5) (z3 24))) 9 (upd (upd (upd (upd (upd (f3 9) (ix 2) r3) (ix 3) 0) (ix 4) (z3 23)) (ix 5) (z3 24)) (ix 6) 0))) 1 (b12_28 call x1 x2 0 7 _) ?_
    obtain ⟨g1, H⟩ := H
    refine xc_g (i' := 90) (ls' := [some (vR 8), some (vI x1), some (vI x2), some (vI 0)]) (st' := []) (L' := LW W z3 (uA (uA (uA (uA (uA (uA f3 9 (upd (f3 9) (ix 2) r3)) 9 (upd (upd (f3 9) (ix 2) r3) (ix 3) 0)) 9 (upd (upd (upd (f3 9) (ix 2) r3) (ix 3) 0) (ix 4) (z3 23))) 9 (upd (upd (upd (upd (f3 9) (ix 2) r3) (ix 3) 0) (ix 4) (z3 23)) (ix 5) (z3 24))) 9 (upd (upd (upd (upd (upd (f3 9) (ix 2) r3) (ix 3) 0) (ix 4) (z3 23)) (ix 5) (z3 24)) (ix 6) 0)) 9 (upd (upd (upd (upd (upd (upd (f3 9) (ix 2) r3) (ix 3) 0) (ix 4) (z3 23)) (ix 5) (z3 24)) (ix 6) 0) (ix 7) 0))) (b12_29 call 7 0 _ z3 (uA (uA (uA (uA (uA f3 9 (upd (f3 9) (ix 2) r3)) 9 (upd (upd (f3 9) (ix 2) r3) (ix 3) 0)) 9 (upd (upd (upd (f3 9) (ix 2) r3) (ix 3) 0) (ix 4) (z3 23))) 9 (upd (upd (upd (upd (f3 9) (ix 2) r3) (ix 3) 0) (ix 4) (z3 23)) (ix 5) (z3 24))) 9 (upd (upd (upd (upd (upd (f3 9) (ix 2) r3) (ix 3) 0) (ix 4) (z3 23)) (ix 5) (z3 24)) (ix 6) 0))) (pinG g1) ?_
    refine xc_b (i' := 97) (ls' := [some (vR 8), some (vI x1), some (vI x2), some (vI 0)]) (st' := [vI 5, vI x1, vR 2, vI 8, vR 9]) (L' := LW W z3 (uA (uA (uA (uA (uA (uA f3 9 (upd (f3 9) (ix 2) r3)) 9 (upd (upd (f3 9) (ix 2) r3) (ix 3) 0)) 9 (upd (upd (upd (f3 9) (ix 2) r3) (ix 3) 0) (ix 4) (z3 23))) 9 (upd (upd (upd (upd (f3 9) (ix 2) r3) (ix 3) 0) (ix 4) (z3 23)) (ix 5) (z3 24))) 9 (upd (upd (upd (upd (upd (f3 9) (ix 2) r3) (ix 3) 0) (ix 4) (z3 23)) (ix 5) (z3 24)) (ix 6) 0)) 9 (upd (upd (upd (upd (upd (upd (f3 9) (ix 2) r3) (ix 3) 0) (ix 4) (z3 23)) (ix 5) (z3 24)) (ix 6) 0) (ix 7) 0))) 7 (b12_30 call x1 x2 0 z3 (uA (uA (uA (uA (uA (uA f3 9 (upd (f3 9) (ix 2) r3)) 9 (upd (upd (f3 9) (ix 2) r3) (ix 3) 0)) 9 (upd (upd (upd (f3 9) (ix 2) r3) (ix 3) 0) (ix 4) (z3 23))) 9 (upd (upd (upd (upd (f3 9) (ix 2) r3) (ix 3) 0) (ix 4) (z3 23)) (ix 5) (z3 24))) 9 (upd (upd (upd (upd (upd (f3 9) (ix 2) r3) (ix 3) 0) (ix 4) (z3 23)) (ix 5) (z3 24)) (ix 6) 0)) 9 (upd (upd (upd (upd (upd (upd (f3 9) (ix 2) r3) (ix 3) 0) (ix 4) (z3 23)) (ix 5) (z3 24)) (ix 6) 0) (ix 7) 0))) ?_
    obtain ⟨r4, z4, f4, hc, H⟩ := H
    refine xc_call (t := 98) (ls' := [some (vR 8), some (vI x1), some (vI x2), some (vI 0)]) (st' := [vI 8, vR 9]) (b12_31 call x1 5 8 _ z3 (uA (uA (uA (uA (uA (uA f3 9 (upd (f3 9) (ix 2) r3)) 9 (upd (upd (f3 9) (ix 2) r3) (ix 3) 0)) 9 (upd (upd (upd (f3 9) (ix 2) r3) (ix 3) 0) (ix 4) (z3 23))) 9 (upd (upd (upd (upd (f3 9) (ix 2) r3) (ix 3) 0) (ix 4) (z3 23)) (ix 5) (z3 24))) 9 (upd (upd (upd (upd (upd (f3 9) (ix 2) r3) (ix 3) 0) (ix 4) (z3 23)) (ix 5) (z3 24)) (ix 6) 0)) 9 (upd (upd (upd (upd (upd (upd (f3 9) (ix 2) r3) (ix 3) 0) (ix 4) (z3 23)) (ix 5) (z3 24)) (ix 6) 0) (ix 7) 0))) hc ?_
    show XC call (mP 12) 98 [some (vR 8), some (vI x1), some (vI x2), some (vI 0)] [vI r4, vI 8, vR 9] (LW W z4 f4) res
    obtain ⟨g1, H⟩ := H
    refine xc_g (i' := 99) (ls' := [some (vR 8), some (vI x1), some (vI x2), some (vI 0)]) (st' := []) (L' := LW W z4 (uA f4 9 (upd (f4 9) (ix 8) r4))) (b12_32 call 8 r4 _ z4 f4) (pinG g1) ?_
    refine xc_b (i' := 105) (ls' := [some (vR 8), some (vI x1), some (vI x2), some (vI 0)]) (st' := [vI (z4 25), vI 9, vR 9]) (L' := LW W z4 (uA f4 9 (upd (f4 9) (ix 8) r4))) 6 (b12_33 call x1 x2 0 z4 (uA f4 9 (upd (f4 9) (ix 8) r4))) ?_
    obtain ⟨g1, H⟩ := H
    refine xc_g (i' := 106) (ls' := [some (vR 8), some (vI x1), some (vI x2), some (vI 0)]) (st' := []) (L' := LW W z4 (uA (uA f4 9 (upd (f4 9) (ix 8) r4)) 9 (upd (upd (f4 9) (ix 8) r4) (ix 9) (z4 25)))) (b12_34 call 9 (z4 25) _ z4 (uA f4 9 (upd (f4 9) (ix 8) r4))) (pinG g1) ?_
    subst H
    exact xc_ret (b12_35 call _ _)
  · have H := H.2 (cI0f q1)
    refine xc_b (i' := 11) (ls' := [some (vR 8), some (vI x1), some (vI x2), some (vI 1)]) (st' := [vI 1, vI 0, vR 9]) (L' := LW W z f) 7 (b12_36 call x1 x2 o3 z f) ?_
    refine xc_f (it := 17) (ie := 12) (ls' := [some (vR 8), some (vI x1), some (vI x2), some (vI 1)]) (st' := [vI 0, vR 9]) (b12_4 call 1 0 _ _) (by decide) ?_
    refine xc_b (i' := 15) (ls' := [some (vR 8), some (vI x1), some (vI x2), some (vI 1)]) (st' := [vI x2, vR 2, vI 0, vR 9]) (L' := LW W z f) 3 (b12_37 call x1 x2 1 0 z f) ?_
    obtain ⟨r5, z5, f5, hc, H⟩ := H
    refine xc_call (t := 16) (ls' := [some (vR 8), some (vI x1), some (vI x2), some (vI 1)]) (st' := [vI 0, vR 9]) (b12_38 call x2 0 _ z f) hc ?_
    show XC call (mP 12) 16 [some (vR 8), some (vI x1), some (vI x2), some (vI 1)] [vI r5, vI 0, vR 9] (LW W z5 f5) res
    refine xc_b (i' := 22) (ls' := [some (vR 8), some (vI x1), some (vI x2), some (vI 1)]) (st' := [vI r5, vI 0, vR 9]) (L' := LW W z5 f5) 1 (b12_39 call x1 x2 1 r5 0 _) ?_
    obtain ⟨g1, H⟩ := H
    refine xc_g (i' := 23) (ls' := [some (vR 8), some (vI x1), some (vI x2), some (vI 1)]) (st' := []) (L' := LW W z5 (uA f5 9 (upd (f5 9) (ix 0) r5))) (b12_7 call 0 r5 _ z5 f5) (pinG g1) ?_
    refine xc_b (i' := 30) (ls' := [some (vR 8), some (vI x1), some (vI x2), some (vI 1)]) (st' := [vI 3, vI x1, vR 2, vI 1, vR 9]) (L' := LW W z5 (uA f5 9 (upd (f5 9) (ix 0) r5))) 7 (b12_8 call x1 x2 1 z5 (uA f5 9 (upd (f5 9) (ix 0) r5))) ?_
    obtain ⟨r6, z6, f6, hc, H⟩ := H
    refine xc_call (t := 31) (ls' := [some (vR 8), some (vI x1), some (vI x2), some (vI 1)]) (st' := [vI 1, vR 9]) (b12_9 call x1 3 1 _ z5 (uA f5 9 (upd (f5 9) (ix 0) r5))) hc ?_
    show XC call (mP 12) 31 [some (vR 8), some (vI x1), some (vI x2), some (vI 1)] [vI r6, vI 1, vR 9] (LW W z6 f6) res
    obtain ⟨g1, H⟩ := H
    refine xc_g (i' := 32) (ls' := [some (vR 8), some (vI x1), some (vI x2), some (vI 1)]) (st' := []) (L' := LW W z6 (uA f6 9 (upd (f6 9) (ix 1) r6))) (b12_10 call 1 r6 _ z6 f6) (pinG g1) ?_
    refine xc_b (i' := 39) (ls' := [some (vR 8), some (vI x1), some (vI x2), some (vI 1)]) (st' := [vI 2, vI x1, vR 2, vI 2, vR 9]) (L' := LW W z6 (uA f6 9 (upd (f6 9) (ix 1) r6))) 7 (b12_11 call x1 x2 1 z6 (uA f6 9 (upd (f6 9) (ix 1) r6))) ?_
    obtain ⟨r7, z7, f7, hc, H⟩ := H
    refine xc_call (t := 40) (ls' := [some (vR 8), some (vI x1), some (vI x2), some (vI 1)]) (st' := [vI 2, vR 9]) (b12_12 call x1 2 2 _ z6 (uA f6 9 (upd (f6 9) (ix 1) r6))) hc ?_
    show XC call (mP 12) 40 [some (vR 8), some (vI x1), some (vI x2), some (vI 1)] [vI r7, vI 2, vR 9] (LW W z7 f7) res
    obtain ⟨g1, H⟩ := H
    refine xc_g (i' := 41) (ls' := [some (vR 8), some (vI x1), some (vI x2), some (vI 1)]) (st' := []) (L' := LW W z7 (uA f7 9 (upd (f7 9) (ix 2) r7))) (b12_13 call 2 r7 _ z7 f7) (pinG g1) ?_
    refine xc_b (i' := 45) (ls' := [some (vR 8), some (vI x1), some (vI x2), some (vI 1)]) (st' := [vI 1, vI 3, vR 9]) (L' := LW W z7 (uA f7 9 (upd (f7 9) (ix 2) r7))) 4 (b12_14 call x1 x2 1 z7 (uA f7 9 (upd (f7 9) (ix 2) r7))) ?_
    refine xc_f (it := 51) (ie := 46) (ls' := [some (vR 8), some (vI x1), some (vI x2), some (vI 1)]) (st' := [vI 3, vR 9]) (b12_15 call 1 3 _ _) (by decide) ?_
    refine xc_b (i' := 49) (ls' := [some (vR 8), some (vI x1), some (vI x2), some (vI 1)]) (st' := [vI x2, vR 2, vI 3, vR 9]) (L' := LW W z7 (uA f7 9 (upd (f7 9) (ix 2) r7))) 3 (b12_40 call x1 x2 1 3 z7 (uA f7 9 (upd (f7 9) (ix 2) r7))) ?_
    obtain ⟨r8, z8, f8, hc, H⟩ := H
    refine xc_call (t := 50) (ls' := [some (vR 8), some (vI x1), some (vI x2), some (vI 1)]) (st' := [vI 3, vR 9]) (b12_41 call x2 3 _ z7 (uA f7 9 (upd (f7 9) (ix 2) r7))) hc ?_
    show XC call (mP 12) 50 [some (vR 8), some (vI x1), some (vI x2), some (vI 1)] [vI r8, vI 3, vR 9] (LW W z8 f8) res
    refine xc_b (i' := 52) (ls' := [some (vR 8), some (vI x1), some (vI x2), some (vI 1)]) (st' := [vI r8, vI 3, vR 9]) (L' := LW W z8 f8) 1 (b12_42 call x1 x2 1 r8 3 _) ?_
    obtain ⟨g1, H⟩ := H
    refine xc_g (i' := 53) (ls' := [some (vR 8), some (vI x1), some (vI x2), some (vI 1)]) (st' := []) (L' := LW W z8 (uA f8 9 (upd (f8 9) (ix 3) r8))) (b12_17 call 3 r8 _ z8 f8) (pinG g1) ?_
    refine xc_b (i' := 59) (ls' := [some (vR 8), some (vI x1), some (vI x2), some (vI 1)]) (st' := [vI (z8 23), vI 4, vR 9]) (L' := LW W z8 (uA f8 9 (upd (f8 9) (ix 3) r8))) 6 (b12_18 call x1 x2 1 z8 (uA f8 9 (upd (f8 9) (ix 3) r8))) ?_
    obtain ⟨g1, H⟩ := H
    refine xc_g (i' := 60) (ls' := [some (vR 8), some (vI x1), some (vI x2), some (vI 1)]) (st' := []) (L' := LW W z8 (uA (uA f8 9 (upd (f8 9) (ix 3) r8)) 9 (upd (upd (f8 9) (ix 3) r8) (ix 4) (z8 23)))) (b12_19 call 4 (z8 23) _ z8 (uA f8 9 (upd (f8 9) (ix 3) r8))) (pinG g1) ?_
    refine xc_b (i' := 66) (ls' := [some (vR 8), some (vI x1), some (vI x2), some (vI 1)]) (st' := [vI (z8 24), vI 5, vR 9]) (L' := LW W z8 (uA (uA f8 9 (upd (f8 9) (ix 3) r8)) 9 (upd (upd (f8 9) (ix 3) r8) (ix 4) (z8 23)))) 6 (b12_20 call x1 x2 1 z8 (uA (uA f8 9 (upd (f8 9) (ix 3) r8)) 9 (upd (upd (f8 9) (ix 3) r8) (ix 4) (z8 23)))) ?_
    obtain ⟨g1, H⟩ := H
    refine xc_g (i' := 67) (ls' := [some (vR 8), some (vI x1), some (vI x2), some (vI 1)]) (st' := []) (L' := LW W z8 (uA (uA (uA f8 9 (upd (f8 9) (ix 3) r8)) 9 (upd (upd (f8 9) (ix 3) r8) (ix 4) (z8 23))) 9 (upd (upd (upd (f8 9) (ix 3) r8) (ix 4) (z8 23)) (ix 5) (z8 24)))) (b12_21 call 5 (z8 24) _ z8 (uA (uA f8 9 (upd (f8 9) (ix 3) r8)) 9 (upd (upd (f8 9) (ix 3) r8) (ix 4) (z8 23)))) (pinG g1) ?_
    refine xc_b (i' := 71) (ls' := [some (vR 8), some (vI x1), some (vI x2), some (vI 1)]) (st' := [vI 1, vI 6, vR 9]) (L' := LW W z8 (uA (uA (uA f8 9 (upd (f8 9) (ix 3) r8)) 9 (upd (upd (f8 9) (ix 3) r8) (ix 4) (z8 23))) 9 (upd (upd (upd (f8 9) (ix 3) r8) (ix 4) (z8 23)) (ix 5) (z8 24)))) 4 (b12_22 call x1 x2 1 z8 (uA (uA (uA f8 9 (upd (f8 9) (ix 3) r8)) 9 (upd (upd (f8 9) (ix 3) r8) (ix 4) (z8 23))) 9 (upd (upd (upd (f8 9) (ix 3) r8) (ix 4) (z8 23)) (ix 5) (z8 24)))) ?_
    refine xc_f (it := 76) (ie := 72) (ls' := [some (vR 8), some (vI x1), some (vI x2), some (vI 1)]) (st' := [vI 6, vR 9]) (b12_23 call 1 6 _ _) (by decide) ?_
    refine xc_b (i' := 74) (ls' := [some (vR 8), some (vI x1), some (vI x2), some (vI 1)]) (st' := [vI 12, vI x2, vI 6, vR 9]) (L' := LW W z8 (uA (uA (uA f8 9 (upd (f8 9) (ix 3) r8)) 9 (upd (upd (f8 9) (ix 3) r8) (ix 4) (z8 23))) 9 (upd (upd (upd (f8 9) (ix 3) r8) (ix 4) (z8 23)) (ix 5) (z8 24)))) 2 (b12_43 call x1 x2 1 6 _) ?_
    obtain ⟨g1, H⟩ := H
    refine xc_g (i' := 75) (ls' := [some (vR 8), some (vI x1), some (vI x2), some (vI 1)]) (st' := [vI (x2 / 12), vI 6, vR 9]) (L' := LW W z8 (uA (uA (uA f8 9 (upd (f8 9) (ix 3) r8)) 9 (upd (upd (f8 9) (ix 3) r8) (ix 4) (z8 23))) 9 (upd (upd (upd (f8 9) (ix 3) r8) (ix 4) (z8 23)) (ix 5) (z8 24)))) (b12_44 call x2 12 6 _ _) (cmp_ne.trans (decide_eq_true g1)) ?_
    refine xc_b (i' := 77) (ls' := [some (vR 8), some (vI x1), some (vI x2), some (vI 1)]) (st' := [vI (x2 / 12), vI 6, vR 9]) (L' := LW W z8 (uA (uA (uA f8 9 (upd (f8 9) (ix 3) r8)) 9 (upd (upd (f8 9) (ix 3) r8) (ix 4) (z8 23))) 9 (upd (upd (upd (f8 9) (ix 3) r8) (ix 4) (z8 23)) (ix 5) (z8 24)))) 1 (b12_45 call x1 x2 1 (x2 / 12) 6 _) ?_
    obtain ⟨g1, H⟩ := H
    refine xc_g (i' := 78) (ls' := [some (vR 8), some (vI x1), some (vI x2), some (vI 1)]) (st' := []) (L' := LW W z8 (uA (uA (uA (uA f8 9 (upd (f8 9) (ix 3) r8)) 9 (upd (upd (f8 9) (ix 3) r8) (ix 4) (z8 23))) 9 (upd (upd (upd (f8 9) (ix 3) r8) (ix 4) (z8 23)) (ix 5) (z8 24))) 9 (upd (upd (upd (upd (f8 9) (ix 3) r8) (ix 4) (z8 23)) (ix 5) (z8 24)) (ix 6) (x2 / 12)))) (b12_25 call 6 (x2 / 12) _ z8 (uA (uA (uA f8 9 (upd (f8 9) (ix 3) r8)) 9 (upd (upd (f8 9) (ix 3) r8) (ix 4) (z8 23))) 9 (upd (upd (upd (f8 9) (ix 3) r8) (ix 4) (z8 23)) (ix 5) (z8 24)))) (pinG g1) ?_
    refine xc_b (i' := 82) (ls' := [some (vR 8), some (vI x1), some (vI x2), some (vI 1)]) (st' := [vI 1, vI 7, vR 9]) (L' := LW W z8 (uA (uA (uA (uA f8 9 (upd (f8 9) (ix 3) r8)) 9 (upd (upd (f8 9) (ix 3) r8) (ix 4) (z8 23))) 9 (upd (upd (upd (f8 9) (ix 3) r8) (ix 4) (z8 23)) (ix 5) (z8 24))) 9 (upd (upd (upd (upd (f8 9) (ix 3) r8) (ix 4) (z8 23)) (ix 5) (z8 24)) (ix 6) (x2 / 12)))) 4 (b12_26 call x1 x2 1 z8 (uA (uA (uA (uA f8 9 (upd (f8 9) (ix 3) r8)) 9 (upd (upd (f8 9) (ix 3) r8) (ix 4) (z8 23))) 9 (upd (upd (upd (f8 9) (ix 3) r8) (ix 4) (z8 23)) (ix 5) (z8 24))) 9 (upd (upd (upd (upd (f8 9) (ix 3) r8) (ix 4) (z8 23)) (ix 5) (z8 24)) (ix 6) (x2 / 12)))) ?_
    refine xc_f (it := 88) (ie := 83) (ls' := [some (vR 8), some (vI x1), some (vI x2), some (vI 1)]) (st' := [vI 7, vR 9]) (b12_27 call 1 7 _ _) (by decide) ?_
    refine xc_b (i' := 86) (ls' := [some (vR 8), some (vI x1), some (vI x2), some (vI 1)]) (st' := [vI x2, vR 2, vI 7, vR 9]) (L' := LW W z8 (uA (uA (uA (uA f8 9 (upd (f8 9) (ix 3) r8)) 9 (upd (upd (f8 9) (ix 3) r8) (ix 4) (z8 23))) 9 (upd (upd (upd (f8 9) (ix 3) r8) (ix 4) (z8 23)) (ix 5) (z8 24))) 9 (upd (upd (upd (upd (f8 9) (ix 3) r8) (ix 4) (z8 23)) (ix 5) (z8 24)) (ix 6) (x2 / 12)))) 3 (b12_46 call x1 x2 1 7 z8 (uA (uA (uA (uA f8 9 (upd (f8 9) (ix 3) r8)) 9 (upd (upd (f8 9) (ix 3) r8) (ix 4) (z8 23))) 9 (upd (upd (upd (f8 9) (ix 3) r8) (ix 4) (z8 23)) (ix 5) (z8 24))) 9 (upd (upd (upd (upd (f8 9) (ix 3) r8) (ix 4) (z8 23)) (ix 5) (z8 24)) (ix 6) (x2 / 12)))) ?_
    obtain ⟨r9, z9, f9, hc, H⟩ := H
    refine xc_call (t := 87) (ls' := [some (vR 8), some (vI x1), some (vI x2), some (vI 1)]) (st' := [vI 7, vR 9]) (b12_47 call x2 7 _ z8 (uA (uA (uA (uA f8 9 (upd (f8 9) (ix 3) r8)) 9 (upd (upd (f8 9) (ix 3) r8) (ix 4) (z8 23))) 9 (upd (upd (upd (f8 9) (ix 3) r8) (ix 4) (z8 23)) (ix 5) (z8 24))) 9 (upd (upd (upd (upd (f8 9) (ix 3) r8) (ix 4) (z8 23)) (ix 5) (z8 24)) (ix 6) (x2 / 12)))) hc ?_
    show XC call (mP 12) 87 [some (vR 8), some (vI x1), some (vI x2), some (vI 1)] [vI r9, vI 7, vR 9] (LW W z9 f9) res
    refine xc_b (i' := 89) (ls' := [some (vR 8), some (vI x1), some (vI x2), some (vI 1)]) (st' := [vI r9, vI 7, vR 9]) (L' := LW W z9 f9) 1 (b12_48 call x1 x2 1 r9 7 _) ?_
    obtain ⟨g1, H⟩ := H
    refine xc_g (i' := 90) (ls' := [some (vR 8), some (vI x1), some (vI x2), some (vI 1)]) (st' := []) (L' := LW W z9 (uA f9 9 (upd (f9 9) (ix 7) r9))) (b12_29 call 7 r9 _ z9 f9) (pinG g1) ?_
    refine xc_b (i' := 97) (ls' := [some (vR 8), some (vI x1), some (vI x2), some (vI 1)]) (st' := [vI 5, vI x1, vR 2, vI 8, vR 9]) (L' := LW W z9 (uA f9 9 (upd (f9 9) (ix 7) r9))) 7 (b12_30 call x1 x2 1 z9 (uA f9 9 (upd (f9 9) (ix 7) r9))) ?_
    obtain ⟨r10, z10, f10, hc, H⟩ := H
    refine xc_call (t := 98) (ls' := [some (vR 8), some (vI x1), some (vI x2), some (vI 1)]) (st' := [vI 8, vR 9]) (b12_31 call x1 5 8 _ z9 (uA f9 9 (upd (f9 9) (ix 7) r9))) hc ?_
    show XC call (mP 12) 98 [some (vR 8), some (vI x1), some (vI x2), some (vI 1)] [vI r10, vI 8, vR 9] (LW W z10 f10) res
    obtain ⟨g1, H⟩ := H
    refine xc_g (i' := 99) (ls' := [some (vR 8), some (vI x1), some (vI x2), some (vI 1)]) (st' := []) (L' := LW W z10 (uA f10 9 (upd (f10 9) (ix 8) r10))) (b12_32 call 8 r10 _ z10 f10) (pinG g1) ?_
    refine xc_b (i' := 105) (ls' := [some (vR 8), some (vI x1), some (vI x2), some (vI 1)]) (st' := [vI (z10 25), vI 9, vR 9]) (L' := LW W z10 (uA f10 9 (upd (f10 9) (ix 8) r10))) 6 (b12_33 call x1 x2 1 z10 (uA f10 9 (upd (f10 9) (ix 8) r10))) ?_
    obtain ⟨g1, H⟩ := H
    refine xc_g (i' := 106) (ls' := [some (vR 8), some (vI x1), some (vI x2), some (vI 1)]) (st' := []) (L' := LW W z10 (uA (uA f10 9 (upd (f10 9) (ix 8) r10)) 9 (upd (upd (f10 9) (ix 8) r10) (ix 9) (z10 25)))) (b12_34 call 9 (z10 25) _ z10 (uA f10 9 (upd (f10 9) (ix 8) r10))) (pinG g1) ?_
    subst H
    exact xc_ret (b12_35 call _ _)
set_option maxRecDepth 100000 in
theorem b92_1 (call : QC FA) (x1 : Int32) (o2 : Option PV) (L : QH FA) (F : Nat) : xnG call 92 (F + 3) 0 [some (vR 8), some (vI x1), o2] [] L = xnG call 92 F 3 [some (vR 8), some (vI x1), o2] [vI ((-1)), vI x1, vR 8] L := rfl
set_option maxRecDepth 100000 in
theorem b92_2 (call : QC FA) (a0 : Int32) (a1 : Int32) (ls : List (Option PV)) (z : Nat → Int32) (f : Nat → FA) (F : Nat) : xnG call 92 (F + 1) 3 ls [vI a1, vI a0, vR 8] (LW W z f) = cbd (call 12 [vR 8, vI a0, vI a1] (LW W z f)) (fun r L' => xnG call 92 F 4 ls (r.toList ++ []) L') := pcY (ih := xnG call 92 F) (call := call) (a := 12) (b := 2) (v := 1) (t := 4) (x := 8) (ls := ls) (As := [vI a0, vI a1]) (st' := []) (L := LW W z f) rfl rfl rfl
set_option maxRecDepth 100000 in
theorem b92_3 (call : QC FA) (x1 : Int32) (o2 : Option PV) (z : Nat → Int32) (f : Nat → FA) (F : Nat) : xnG call 92 (F + 6) 4 [some (vR 8), some (vI x1), o2] [] (LW W z f) = xnG call 92 F 10 [some (vR 8), some (vI x1), o2] [vI 3, vI x1, vR 2, vI 50, vI 500] (LW W z f) := rfl
set_option maxRecDepth 100000 in
theorem b92_4 (call : QC FA) (a0 : Int32) (a1 : Int32) (s0 : Int32) (s1 : Int32) (ls : List (Option PV)) (z : Nat → Int32) (f : Nat → FA) (F : Nat) : xnG call 92 (F + 1) 10 ls [vI a1, vI a0, vR 2, vI s0, vI s1] (LW W z f) = cbd (call 13 [vR 2, vI a0, vI a1] (LW W z f)) (fun r L' => xnG call 92 F 11 ls (r.toList ++ [vI s0, vI s1]) L') := pcY (ih := xnG call 92 F) (call := call) (a := 13) (b := 2) (v := 0) (t := 11) (x := 2) (ls := ls) (As := [vI a0, vI a1]) (st' := [vI s0, vI s1]) (L := LW W z f) rfl rfl rfl
set_option maxRecDepth 100000 in
theorem b92_5 (call : QC FA) (x1 : Int32) (o2 : Option PV) (s0 : Int32) (s1 : Int32) (s2 : Int32) (z : Nat → Int32) (f : Nat → FA) (F : Nat) : xnG call 92 (F + 6) 11 [some (vR 8), some (vI x1), o2] [vI s0, vI s1, vI s2] (LW W z f) = xnG call 92 F 17 [some (vR 8), some (vI x1), some (vI (s2 + (s1 * s0)))] [vI 0, vR 7] (LW W z f) := rfl
set_option maxRecDepth 100000 in
theorem b92_6 (hW : WTX W) (call : QC FA) (hk : 0 < 4) (hp : pin 0 4 = true) (hc : ix 0 = 0) (ls : List (Option PV)) (z : Nat → Int32) (f : Nat → FA) (F : Nat) : xnG call 92 (F + 1) 17 ls [vI 0, vR 7] (LW W z f) = xnG call 92 F 18 ls [vR (wJ W 0 + 42)] (LW W z f) := gx_t (ih := xnG call 92 F) (t := 18) (st := []) hW hk hc hp
set_option maxRecDepth 100000 in
theorem b92_7 (call : QC FA) (x1 : Int32) (x2 : Int32) (z : Nat → Int32) (f : Nat → FA) (F : Nat) : xnG call 92 (F + 6) 18 [some (vR 8), some (vI x1), some (vI x2)] [vR (wJ W 0 + 42)] (LW W z f) = xnG call 92 F 24 [some (vR 8), some (vI x1), some (vI x2)] [vR 10, vR 9, vI x2, vI 300, vR (wJ W 0 + 42)] (LW W z f) := rfl
set_option maxRecDepth 100000 in
theorem b92_8 (hW : WTX W) (hk : 0 < 4) (call : QC FA) (a0 : Int32) (a1 : Int32) (ls : List (Option PV)) (z : Nat → Int32) (f : Nat → FA) (F : Nat) : xnG call 92 (F + 1) 24 ls [vR 10, vR 9, vI a1, vI a0, vR (wJ W 0 + 42)] (LW W z f) = cbd (call 17 [vR (wJ W 0 + 42), vI a0, vI a1, vR 9, vR 10] (LW W z f)) (fun r L' => xnG call 92 F 25 ls (r.toList ++ []) L') := pcY (ih := xnG call 92 F) (call := call) (a := 17) (b := 4) (v := 8) (t := 25) (x := wJ W 0 + 42) (ls := ls) (As := [vI a0, vI a1, vR 9, vR 10]) (st' := []) (L := LW W z f) rfl (gj_t hW hk) rfl
set_option maxRecDepth 100000 in
theorem b92_9 (call : QC FA) (x1 : Int32) (x2 : Int32) (s0 : Int32) (L : QH FA) (F : Nat) : xnG call 92 (F + 1) 25 [some (vR 8), some (vI x1), some (vI x2)] [vI s0] L = xnG call 92 F 26 [some (vR 8), some (vI x1), some (vI x2)] [vI 1000, vI s0] L := rfl
set_option maxRecDepth 100000 in
theorem b92_10 (call : QC FA) (a0 : Int32) (a1 : Int32) (ls : List (Option PV)) (z : Nat → Int32) (f : Nat → FA) (F : Nat) : xnG call 92 (F + 1) 26 ls [vI a1, vI a0] (LW W z f) = cbd (call 22 [vI a0, vI a1] (LW W z f)) (fun r L' => xnG call 92 F 27 ls (r.toList ++ []) L') := pcZ (ih := xnG call 92 F) (call := call) (a := 22) (b := 2) (t := 27) (ls := ls) (As := [vI a0, vI a1]) (st' := []) (L := LW W z f) rfl rfl
set_option maxRecDepth 100000 in
theorem b92_11 (call : QC FA) (x : Int32) (ls : List (Option PV)) (L : QH FA) (F : Nat) : xnG call 92 (F + 1) 27 ls [vI x] L = some (some (vI x), L) := rfl
theorem vc92_0 (hW : WTX W) (call : QC FA) (x1 : Int32) (o2 : Option PV) (z : Nat → Int32) (f : Nat → FA) (res : Option PV × QH FA) (H : (∃ (z1 : Nat → Int32) (f1 : Nat → FA), call 12 [vR 8, vI x1, vI ((-1))] (LW W z f) = some (none, LW W z1 f1) ∧ (∃ (r2 : Int32) (z2 : Nat → Int32) (f2 : Nat → FA), call 13 [vR 2, vI x1, vI 3] (LW W z1 f1) = some (some (vI r2), LW W z2 f2) ∧ (∃ (r3 : Int32) (z3 : Nat → Int32) (f3 : Nat → FA), call 17 [vR (wJ W 0 + 42), vI 300, vI (500 + (50 * r2)), vR 9, vR 10] (LW W z2 f2) = some (some (vI r3), LW W z3 f3) ∧ (∃ (r4 : Int32) (z4 : Nat → Int32) (f4 : Nat → FA), call 22 [vI r3, vI 1000] (LW W z3 f3) = some (some (vI r4), LW W z4 f4) ∧ res = (some (vI r4), LW W z4 f4)))))) : XC call (mP 92) 0 [some (vR 8), some (vI x1), o2] [] (LW W z f) res := by
  refine xc_b (i' := 3) (ls' := [some (vR 8), some (vI x1), o2]) (st' := [vI ((-1)), vI x1, vR 8]) (L' := LW W z f) 3 (b92_1 call x1 o2 _) ?_
  obtain ⟨z1, f1, hc, H⟩ := H
  refine xc_call (t := 4) (ls' := [some (vR 8), some (vI x1), o2]) (st' := []) (b92_2 call x1 ((-1)) _ z f) hc ?_
  show XC call (mP 92) 4 [some (vR 8), some (vI x1), o2] [] (LW W z1 f1) res
  refine xc_b (i' := 10) (ls' := [some (vR 8), some (vI x1), o2]) (st' := [vI 3, vI x1, vR 2, vI 50, vI 500]) (L' := LW W z1 f1) 6 (b92_3 call x1 o2 z1 f1) ?_
  obtain ⟨r2, z2, f2, hc, H⟩ := H
  refine xc_call (t := 11) (ls' := [some (vR 8), some (vI x1), o2]) (st' := [vI 50, vI 500]) (b92_4 call x1 3 50 500 _ z1 f1) hc ?_
  show XC call (mP 92) 11 [some (vR 8), some (vI x1), o2] [vI r2, vI 50, vI 500] (LW W z2 f2) res
  refine xc_b (i' := 17) (ls' := [some (vR 8), some (vI x1), some (vI (500 + (50 * r2)))]) (st' := [vI 0, vR 7]) (L' := LW W z2 f2) 6 (b92_5 call x1 o2 r2 50 500 z2 f2) ?_
  refine xc_b (i' := 18) (ls' := [some (vR 8), some (vI x1), some (vI (500 + (50 * r2)))]) (st' := [vR (wJ W 0 + 42)]) (L' := LW W z2 f2) 1 (b92_6 hW call (by decide) (by decide) (by decide) _ z2 f2) ?_
  refine xc_b (i' := 24) (ls' := [some (vR 8), some (vI x1), some (vI (500 + (50 * r2)))]) (st' := [vR 10, vR 9, vI (500 + (50 * r2)), vI 300, vR (wJ W 0 + 42)]) (L' := LW W z2 f2) 6 (b92_7 call x1 (500 + (50 * r2)) z2 f2) ?_
  obtain ⟨r3, z3, f3, hc, H⟩ := H
  refine xc_call (t := 25) (ls' := [some (vR 8), some (vI x1), some (vI (500 + (50 * r2)))]) (st' := []) (b92_8 hW (by decide) call 300 (500 + (50 * r2)) _ z2 f2) hc ?_
  show XC call (mP 92) 25 [some (vR 8), some (vI x1), some (vI (500 + (50 * r2)))] [vI r3] (LW W z3 f3) res
  refine xc_b (i' := 26) (ls' := [some (vR 8), some (vI x1), some (vI (500 + (50 * r2)))]) (st' := [vI 1000, vI r3]) (L' := LW W z3 f3) 1 (b92_9 call x1 (500 + (50 * r2)) r3 _) ?_
  obtain ⟨r4, z4, f4, hc, H⟩ := H
  refine xc_call (t := 27) (ls' := [some (vR 8), some (vI x1), some (vI (500 + (50 * r2)))]) (st' := []) (b92_10 call r3 1000 _ z3 f3) hc ?_
  show XC call (mP 92) 27 [some (vR 8), some (vI x1), some (vI (500 + (50 * r2)))] [vI r4] (LW W z4 f4) res
  subst H
  exact xc_ret (b92_11 call _ _ _)
set_option maxRecDepth 100000 in
theorem b96_1 (call : QC FA) (x1 : Int32) (o2 : Option PV) (z : Nat → Int32) (f : Nat → FA) (F : Nat) : xnG call 96 (F + 4) 0 [some (vR 8), some (vI x1), o2] [] (LW W z f) = xnG call 96 F 4 [some (vR 8), some (vI x1), o2] [vI x1, vR 2, vR 8] (LW W z f) := rfl
set_option maxRecDepth 100000 in
theorem b96_2 (call : QC FA) (a0 : Int32) (ls : List (Option PV)) (z : Nat → Int32) (f : Nat → FA) (F : Nat) : xnG call 96 (F + 1) 4 ls [vI a0, vR 2, vR 8] (LW W z f) = cbd (call 11 [vR 2, vI a0] (LW W z f)) (fun r L' => xnG call 96 F 5 ls (r.toList ++ [vR 8]) L') := pcY (ih := xnG call 96 F) (call := call) (a := 11) (b := 1) (v := 0) (t := 5) (x := 2) (ls := ls) (As := [vI a0]) (st' := [vR 8]) (L := LW W z f) rfl rfl rfl
set_option maxRecDepth 100000 in
theorem b96_3 (call : QC FA) (x1 : Int32) (o2 : Option PV) (s0 : Int32) (L : QH FA) (F : Nat) : xnG call 96 (F + 1) 5 [some (vR 8), some (vI x1), o2] [vI s0, vR 8] L = xnG call 96 F 6 [some (vR 8), some (vI x1), o2] [vI x1, vI s0, vR 8] L := rfl
set_option maxRecDepth 100000 in
theorem b96_4 (call : QC FA) (a0 : Int32) (a1 : Int32) (ls : List (Option PV)) (z : Nat → Int32) (f : Nat → FA) (F : Nat) : xnG call 96 (F + 1) 6 ls [vI a1, vI a0, vR 8] (LW W z f) = cbd (call 12 [vR 8, vI a0, vI a1] (LW W z f)) (fun r L' => xnG call 96 F 7 ls (r.toList ++ []) L') := pcY (ih := xnG call 96 F) (call := call) (a := 12) (b := 2) (v := 1) (t := 7) (x := 8) (ls := ls) (As := [vI a0, vI a1]) (st' := []) (L := LW W z f) rfl rfl rfl
set_option maxRecDepth 100000 in
theorem b96_5 (call : QC FA) (x1 : Int32) (o2 : Option PV) (z : Nat → Int32) (f : Nat → FA) (F : Nat) : xnG call 96 (F + 9) 7 [some (vR 8), some (vI x1), o2] [] (LW W z f) = xnG call 96 F 16 [some (vR 8), some (vI x1), o2] [vI x1, vR 2, vI 50, vI (100 * (z 23))] (LW W z f) := rfl
set_option maxRecDepth 100000 in
theorem b96_6 (call : QC FA) (a0 : Int32) (s0 : Int32) (s1 : Int32) (ls : List (Option PV)) (z : Nat → Int32) (f : Nat → FA) (F : Nat) : xnG call 96 (F + 1) 16 ls [vI a0, vR 2, vI s0, vI s1] (LW W z f) = cbd (call 15 [vR 2, vI a0] (LW W z f)) (fun r L' => xnG call 96 F 17 ls (r.toList ++ [vI s0, vI s1]) L') := pcY (ih := xnG call 96 F) (call := call) (a := 15) (b := 1) (v := 0) (t := 17) (x := 2) (ls := ls) (As := [vI a0]) (st' := [vI s0, vI s1]) (L := LW W z f) rfl rfl rfl
set_option maxRecDepth 100000 in
theorem b96_7 (call : QC FA) (x1 : Int32) (o2 : Option PV) (s0 : Int32) (s1 : Int32) (s2 : Int32) (z : Nat → Int32) (f : Nat → FA) (F : Nat) : xnG call 96 (F + 6) 17 [some (vR 8), some (vI x1), o2] [vI s0, vI s1, vI s2] (LW W z f) = xnG call 96 F 23 [some (vR 8), some (vI x1), some (vI (s2 - (s1 * s0)))] [vI 0, vR 7] (LW W z f) := rfl
set_option maxRecDepth 100000 in
theorem b96_8 (hW : WTX W) (call : QC FA) (hk : 0 < 4) (hp : pin 0 4 = true) (hc : ix 0 = 0) (ls : List (Option PV)) (z : Nat → Int32) (f : Nat → FA) (F : Nat) : xnG call 96 (F + 1) 23 ls [vI 0, vR 7] (LW W z f) = xnG call 96 F 24 ls [vR (wJ W 0 + 42)] (LW W z f) := gx_t (ih := xnG call 96 F) (t := 24) (st := []) hW hk hc hp
set_option maxRecDepth 100000 in
theorem b96_9 (call : QC FA) (x1 : Int32) (x2 : Int32) (z : Nat → Int32) (f : Nat → FA) (F : Nat) : xnG call 96 (F + 6) 24 [some (vR 8), some (vI x1), some (vI x2)] [vR (wJ W 0 + 42)] (LW W z f) = xnG call 96 F 30 [some (vR 8), some (vI x1), some (vI x2)] [vR 10, vR 9, vI x2, vI 301, vR (wJ W 0 + 42)] (LW W z f) := rfl
set_option maxRecDepth 100000 in
theorem b96_10 (hW : WTX W) (hk : 0 < 4) (call : QC FA) (a0 : Int32) (a1 : Int32) (ls : List (Option PV)) (z : Nat → Int32) (f : Nat → FA) (F : Nat) : xnG call 96 (F + 1) 30 ls [vR 10, vR 9, vI a1, vI a0, vR (wJ W 0 + 42)] (LW W z f) = cbd (call 17 [vR (wJ W 0 + 42), vI a0, vI a1, vR 9, vR 10] (LW W z f)) (fun r L' => xnG call 96 F 31 ls (r.toList ++ []) L') := pcY (ih := xnG call 96 F) (call := call) (a := 17) (b := 4) (v := 8) (t := 31) (x := wJ W 0 + 42) (ls := ls) (As := [vI a0, vI a1, vR 9, vR 10]) (st' := []) (L := LW W z f) rfl (gj_t hW hk) rfl
set_option maxRecDepth 100000 in
theorem b96_11 (call : QC FA) (x1 : Int32) (x2 : Int32) (s0 : Int32) (L : QH FA) (F : Nat) : xnG call 96 (F + 1) 31 [some (vR 8), some (vI x1), some (vI x2)] [vI s0] L = xnG call 96 F 32 [some (vR 8), some (vI x1), some (vI x2)] [vI 1000, vI s0] L := rfl
set_option maxRecDepth 100000 in
theorem b96_12 (call : QC FA) (a0 : Int32) (a1 : Int32) (ls : List (Option PV)) (z : Nat → Int32) (f : Nat → FA) (F : Nat) : xnG call 96 (F + 1) 32 ls [vI a1, vI a0] (LW W z f) = cbd (call 22 [vI a0, vI a1] (LW W z f)) (fun r L' => xnG call 96 F 33 ls (r.toList ++ []) L') := pcZ (ih := xnG call 96 F) (call := call) (a := 22) (b := 2) (t := 33) (ls := ls) (As := [vI a0, vI a1]) (st' := []) (L := LW W z f) rfl rfl
set_option maxRecDepth 100000 in
theorem b96_13 (call : QC FA) (x : Int32) (ls : List (Option PV)) (L : QH FA) (F : Nat) : xnG call 96 (F + 1) 33 ls [vI x] L = some (some (vI x), L) := rfl
theorem vc96_0 (hW : WTX W) (call : QC FA) (x1 : Int32) (o2 : Option PV) (z : Nat → Int32) (f : Nat → FA) (res : Option PV × QH FA) (H : (∃ (r1 : Int32) (z1 : Nat → Int32) (f1 : Nat → FA), call 11 [vR 2, vI x1] (LW W z f) = some (some (vI r1), LW W z1 f1) ∧ (∃ (z2 : Nat → Int32) (f2 : Nat → FA), call 12 [vR 8, vI r1, vI x1] (LW W z1 f1) = some (none, LW W z2 f2) ∧ (∃ (r3 : Int32) (z3 : Nat → Int32) (f3 : Nat → FA), call 15 [vR 2, vI x1] (LW W z2 f2) = some (some (vI r3), LW W z3 f3) ∧ (∃ (r4 : Int32) (z4 : Nat → Int32) (f4 : Nat → FA), call 17 [vR (wJ W 0 + 42), vI 301, vI ((100 * (z2 23)) - (50 * r3)), vR 9, vR 10] (LW W z3 f3) = some (some (vI r4), LW W z4 f4) ∧ (∃ (r5 : Int32) (z5 : Nat → Int32) (f5 : Nat → FA), call 22 [vI r4, vI 1000] (LW W z4 f4) = some (some (vI r5), LW W z5 f5) ∧ res = (some (vI r5), LW W z5 f5))))))) : XC call (mP 96) 0 [some (vR 8), some (vI x1), o2] [] (LW W z f) res := by
  refine xc_b (i' := 4) (ls' := [some (vR 8), some (vI x1), o2]) (st' := [vI x1, vR 2, vR 8]) (L' := LW W z f) 4 (b96_1 call x1 o2 z f) ?_
  obtain ⟨r1, z1, f1, hc, H⟩ := H
  refine xc_call (t := 5) (ls' := [some (vR 8), some (vI x1), o2]) (st' := [vR 8]) (b96_2 call x1 _ z f) hc ?_
  show XC call (mP 96) 5 [some (vR 8), some (vI x1), o2] [vI r1, vR 8] (LW W z1 f1) res
  refine xc_b (i' := 6) (ls' := [some (vR 8), some (vI x1), o2]) (st' := [vI x1, vI r1, vR 8]) (L' := LW W z1 f1) 1 (b96_3 call x1 o2 r1 _) ?_
  obtain ⟨z2, f2, hc, H⟩ := H
  refine xc_call (t := 7) (ls' := [some (vR 8), some (vI x1), o2]) (st' := []) (b96_4 call r1 x1 _ z1 f1) hc ?_
  show XC call (mP 96) 7 [some (vR 8), some (vI x1), o2] [] (LW W z2 f2) res
  refine xc_b (i' := 16) (ls' := [some (vR 8), some (vI x1), o2]) (st' := [vI x1, vR 2, vI 50, vI (100 * (z2 23))]) (L' := LW W z2 f2) 9 (b96_5 call x1 o2 z2 f2) ?_
  obtain ⟨r3, z3, f3, hc, H⟩ := H
  refine xc_call (t := 17) (ls' := [some (vR 8), some (vI x1), o2]) (st' := [vI 50, vI (100 * (z2 23))]) (b96_6 call x1 50 (100 * (z2 23)) _ z2 f2) hc ?_
  show XC call (mP 96) 17 [some (vR 8), some (vI x1), o2] [vI r3, vI 50, vI (100 * (z2 23))] (LW W z3 f3) res
  refine xc_b (i' := 23) (ls' := [some (vR 8), some (vI x1), some (vI ((100 * (z2 23)) - (50 * r3)))]) (st' := [vI 0, vR 7]) (L' := LW W z3 f3) 6 (b96_7 call x1 o2 r3 50 (100 * (z2 23)) z3 f3) ?_
  refine xc_b (i' := 24) (ls' := [some (vR 8), some (vI x1), some (vI ((100 * (z2 23)) - (50 * r3)))]) (st' := [vR (wJ W 0 + 42)]) (L' := LW W z3 f3) 1 (b96_8 hW call (by decide) (by decide) (by decide) _ z3 f3) ?_
  refine xc_b (i' := 30) (ls' := [some (vR 8), some (vI x1), some (vI ((100 * (z2 23)) - (50 * r3)))]) (st' := [vR 10, vR 9, vI ((100 * (z2 23)) - (50 * r3)), vI 301, vR (wJ W 0 + 42)]) (L' := LW W z3 f3) 6 (b96_9 call x1 ((100 * (z2 23)) - (50 * r3)) z3 f3) ?_
  obtain ⟨r4, z4, f4, hc, H⟩ := H
  refine xc_call (t := 31) (ls' := [some (vR 8), some (vI x1), some (vI ((100 * (z2 23)) - (50 * r3)))]) (st' := []) (b96_10 hW (by decide) call 301 ((100 * (z2 23)) - (50 * r3)) _ z3 f3) hc ?_
  show XC call (mP 96) 31 [some (vR 8), some (vI x1), some (vI ((100 * (z2 23)) - (50 * r3)))] [vI r4] (LW W z4 f4) res
  refine xc_b (i' := 32) (ls' := [some (vR 8), some (vI x1), some (vI ((100 * (z2 23)) - (50 * r3)))]) (st' := [vI 1000, vI r4]) (L' := LW W z4 f4) 1 (b96_11 call x1 ((100 * (z2 23)) - (50 * r3)) r4 _) ?_
  obtain ⟨r5, z5, f5, hc, H⟩ := H
  refine xc_call (t := 33) (ls' := [some (vR 8), some (vI x1), some (vI ((100 * (z2 23)) - (50 * r3)))]) (st' := []) (b96_12 call r4 1000 _ z4 f4) hc ?_
  show XC call (mP 96) 33 [some (vR 8), some (vI x1), some (vI ((100 * (z2 23)) - (50 * r3)))] [vI r5] (LW W z5 f5) res
  subst H
  exact xc_ret (b96_13 call _ _ _)
set_option maxRecDepth 100000 in
theorem b10_1 (call : QC FA) (x1 : Int32) (z : Nat → Int32) (f : Nat → FA) (F : Nat) : xnG call 10 (F + 4) 0 [some (vR 8), some (vI x1)] [] (LW W z f) = xnG call 10 F 4 [some (vR 8), some (vI x1)] [vI x1, vR 2, vR 8] (LW W z f) := rfl
set_option maxRecDepth 100000 in
theorem b10_2 (call : QC FA) (a0 : Int32) (ls : List (Option PV)) (z : Nat → Int32) (f : Nat → FA) (F : Nat) : xnG call 10 (F + 1) 4 ls [vI a0, vR 2, vR 8] (LW W z f) = cbd (call 11 [vR 2, vI a0] (LW W z f)) (fun r L' => xnG call 10 F 5 ls (r.toList ++ [vR 8]) L') := pcY (ih := xnG call 10 F) (call := call) (a := 11) (b := 1) (v := 0) (t := 5) (x := 2) (ls := ls) (As := [vI a0]) (st' := [vR 8]) (L := LW W z f) rfl rfl rfl
set_option maxRecDepth 100000 in
theorem b10_3 (call : QC FA) (x1 : Int32) (s0 : Int32) (L : QH FA) (F : Nat) : xnG call 10 (F + 1) 5 [some (vR 8), some (vI x1)] [vI s0, vR 8] L = xnG call 10 F 6 [some (vR 8), some (vI x1)] [vI x1, vI s0, vR 8] L := rfl
set_option maxRecDepth 100000 in
theorem b10_4 (call : QC FA) (a0 : Int32) (a1 : Int32) (ls : List (Option PV)) (z : Nat → Int32) (f : Nat → FA) (F : Nat) : xnG call 10 (F + 1) 6 ls [vI a1, vI a0, vR 8] (LW W z f) = cbd (call 12 [vR 8, vI a0, vI a1] (LW W z f)) (fun r L' => xnG call 10 F 7 ls (r.toList ++ []) L') := pcY (ih := xnG call 10 F) (call := call) (a := 12) (b := 2) (v := 1) (t := 7) (x := 8) (ls := ls) (As := [vI a0, vI a1]) (st' := []) (L := LW W z f) rfl rfl rfl
set_option maxRecDepth 100000 in
theorem b10_5 (call : QC FA) (x1 : Int32) (z : Nat → Int32) (f : Nat → FA) (F : Nat) : xnG call 10 (F + 3) 7 [some (vR 8), some (vI x1)] [] (LW W z f) = xnG call 10 F 10 [some (vR 8), some (vI x1)] [vI 0, vR 7] (LW W z f) := rfl
set_option maxRecDepth 100000 in
theorem b10_6 (hW : WTX W) (call : QC FA) (hk : 0 < 4) (hp : pin 0 4 = true) (hc : ix 0 = 0) (ls : List (Option PV)) (z : Nat → Int32) (f : Nat → FA) (F : Nat) : xnG call 10 (F + 1) 10 ls [vI 0, vR 7] (LW W z f) = xnG call 10 F 11 ls [vR (wJ W 0 + 42)] (LW W z f) := gx_t (ih := xnG call 10 F) (t := 11) (st := []) hW hk hc hp
set_option maxRecDepth 100000 in
theorem b10_7 (call : QC FA) (x1 : Int32) (z : Nat → Int32) (f : Nat → FA) (F : Nat) : xnG call 10 (F + 4) 11 [some (vR 8), some (vI x1)] [vR (wJ W 0 + 42)] (LW W z f) = xnG call 10 F 15 [some (vR 8), some (vI x1)] [vI x1, vR 2, vI 302, vR (wJ W 0 + 42)] (LW W z f) := rfl
set_option maxRecDepth 100000 in
theorem b10_8 (call : QC FA) (a0 : Int32) (s0 : Int32) (ls : List (Option PV)) (z : Nat → Int32) (f : Nat → FA) (F : Nat) : xnG call 10 (F + 1) 15 ls [vI a0, vR 2, vI s0, vR (wJ W 0 + 42)] (LW W z f) = cbd (call 15 [vR 2, vI a0] (LW W z f)) (fun r L' => xnG call 10 F 16 ls (r.toList ++ [vI s0, vR (wJ W 0 + 42)]) L') := pcY (ih := xnG call 10 F) (call := call) (a := 15) (b := 1) (v := 0) (t := 16) (x := 2) (ls := ls) (As := [vI a0]) (st' := [vI s0, vR (wJ W 0 + 42)]) (L := LW W z f) rfl rfl rfl
set_option maxRecDepth 100000 in
theorem b10_9 (call : QC FA) (x1 : Int32) (s0 : Int32) (s1 : Int32) (z : Nat → Int32) (f : Nat → FA) (F : Nat) : xnG call 10 (F + 4) 16 [some (vR 8), some (vI x1)] [vI s0, vI s1, vR (wJ W 0 + 42)] (LW W z f) = xnG call 10 F 20 [some (vR 8), some (vI x1)] [vR 10, vR 9, vI s0, vI s1, vR (wJ W 0 + 42)] (LW W z f) := rfl
set_option maxRecDepth 100000 in
theorem b10_10 (hW : WTX W) (hk : 0 < 4) (call : QC FA) (a0 : Int32) (a1 : Int32) (ls : List (Option PV)) (z : Nat → Int32) (f : Nat → FA) (F : Nat) : xnG call 10 (F + 1) 20 ls [vR 10, vR 9, vI a1, vI a0, vR (wJ W 0 + 42)] (LW W z f) = cbd (call 17 [vR (wJ W 0 + 42), vI a0, vI a1, vR 9, vR 10] (LW W z f)) (fun r L' => xnG call 10 F 21 ls (r.toList ++ []) L') := pcY (ih := xnG call 10 F) (call := call) (a := 17) (b := 4) (v := 8) (t := 21) (x := wJ W 0 + 42) (ls := ls) (As := [vI a0, vI a1, vR 9, vR 10]) (st' := []) (L := LW W z f) rfl (gj_t hW hk) rfl
set_option maxRecDepth 100000 in
theorem b10_11 (call : QC FA) (x1 : Int32) (s0 : Int32) (L : QH FA) (F : Nat) : xnG call 10 (F + 1) 21 [some (vR 8), some (vI x1)] [vI s0] L = xnG call 10 F 22 [some (vR 8), some (vI x1)] [vI 99, vI s0] L := rfl
set_option maxRecDepth 100000 in
theorem b10_12 (call : QC FA) (a0 : Int32) (a1 : Int32) (ls : List (Option PV)) (z : Nat → Int32) (f : Nat → FA) (F : Nat) : xnG call 10 (F + 1) 22 ls [vI a1, vI a0] (LW W z f) = cbd (call 22 [vI a0, vI a1] (LW W z f)) (fun r L' => xnG call 10 F 23 ls (r.toList ++ []) L') := pcZ (ih := xnG call 10 F) (call := call) (a := 22) (b := 2) (t := 23) (ls := ls) (As := [vI a0, vI a1]) (st' := []) (L := LW W z f) rfl rfl
set_option maxRecDepth 100000 in
theorem b10_13 (call : QC FA) (x : Int32) (ls : List (Option PV)) (L : QH FA) (F : Nat) : xnG call 10 (F + 1) 23 ls [vI x] L = some (some (vI x), L) := rfl
theorem vc10_0 (hW : WTX W) (call : QC FA) (x1 : Int32) (z : Nat → Int32) (f : Nat → FA) (res : Option PV × QH FA) (H : (∃ (r1 : Int32) (z1 : Nat → Int32) (f1 : Nat → FA), call 11 [vR 2, vI x1] (LW W z f) = some (some (vI r1), LW W z1 f1) ∧ (∃ (z2 : Nat → Int32) (f2 : Nat → FA), call 12 [vR 8, vI r1, vI x1] (LW W z1 f1) = some (none, LW W z2 f2) ∧ (∃ (r3 : Int32) (z3 : Nat → Int32) (f3 : Nat → FA), call 15 [vR 2, vI x1] (LW W z2 f2) = some (some (vI r3), LW W z3 f3) ∧ (∃ (r4 : Int32) (z4 : Nat → Int32) (f4 : Nat → FA), call 17 [vR (wJ W 0 + 42), vI 302, vI r3, vR 9, vR 10] (LW W z3 f3) = some (some (vI r4), LW W z4 f4) ∧ (∃ (r5 : Int32) (z5 : Nat → Int32) (f5 : Nat → FA), call 22 [vI r4, vI 99] (LW W z4 f4) = some (some (vI r5), LW W z5 f5) ∧ res = (some (vI r5), LW W z5 f5))))))) : XC call (mP 10) 0 [some (vR 8), some (vI x1)] [] (LW W z f) res := by
  refine xc_b (i' := 4) (ls' := [some (vR 8), some (vI x1)]) (st' := [vI x1, vR 2, vR 8]) (L' := LW W z f) 4 (b10_1 call x1 z f) ?_
  obtain ⟨r1, z1, f1, hc, H⟩ := H
  refine xc_call (t := 5) (ls' := [some (vR 8), some (vI x1)]) (st' := [vR 8]) (b10_2 call x1 _ z f) hc ?_
  show XC call (mP 10) 5 [some (vR 8), some (vI x1)] [vI r1, vR 8] (LW W z1 f1) res
  refine xc_b (i' := 6) (ls' := [some (vR 8), some (vI x1)]) (st' := [vI x1, vI r1, vR 8]) (L' := LW W z1 f1) 1 (b10_3 call x1 r1 _) ?_
  obtain ⟨z2, f2, hc, H⟩ := H
  refine xc_call (t := 7) (ls' := [some (vR 8), some (vI x1)]) (st' := []) (b10_4 call r1 x1 _ z1 f1) hc ?_
  show XC call (mP 10) 7 [some (vR 8), some (vI x1)] [] (LW W z2 f2) res
  refine xc_b (i' := 10) (ls' := [some (vR 8), some (vI x1)]) (st' := [vI 0, vR 7]) (L' := LW W z2 f2) 3 (b10_5 call x1 z2 f2) ?_
  refine xc_b (i' := 11) (ls' := [some (vR 8), some (vI x1)]) (st' := [vR (wJ W 0 + 42)]) (L' := LW W z2 f2) 1 (b10_6 hW call (by decide) (by decide) (by decide) _ z2 f2) ?_
  refine xc_b (i' := 15) (ls' := [some (vR 8), some (vI x1)]) (st' := [vI x1, vR 2, vI 302, vR (wJ W 0 + 42)]) (L' := LW W z2 f2) 4 (b10_7 call x1 z2 f2) ?_
  obtain ⟨r3, z3, f3, hc, H⟩ := H
  refine xc_call (t := 16) (ls' := [some (vR 8), some (vI x1)]) (st' := [vI 302, vR (wJ W 0 + 42)]) (b10_8 call x1 302 _ z2 f2) hc ?_
  show XC call (mP 10) 16 [some (vR 8), some (vI x1)] [vI r3, vI 302, vR (wJ W 0 + 42)] (LW W z3 f3) res
  refine xc_b (i' := 20) (ls' := [some (vR 8), some (vI x1)]) (st' := [vR 10, vR 9, vI r3, vI 302, vR (wJ W 0 + 42)]) (L' := LW W z3 f3) 4 (b10_9 call x1 r3 302 z3 f3) ?_
  obtain ⟨r4, z4, f4, hc, H⟩ := H
  refine xc_call (t := 21) (ls' := [some (vR 8), some (vI x1)]) (st' := []) (b10_10 hW (by decide) call 302 r3 _ z3 f3) hc ?_
  show XC call (mP 10) 21 [some (vR 8), some (vI x1)] [vI r4] (LW W z4 f4) res
  refine xc_b (i' := 22) (ls' := [some (vR 8), some (vI x1)]) (st' := [vI 99, vI r4]) (L' := LW W z4 f4) 1 (b10_11 call x1 r4 _) ?_
  obtain ⟨r5, z5, f5, hc, H⟩ := H
  refine xc_call (t := 23) (ls' := [some (vR 8), some (vI x1)]) (st' := []) (b10_12 call r4 99 _ z4 f4) hc ?_
  show XC call (mP 10) 23 [some (vR 8), some (vI x1)] [vI r5] (LW W z5 f5) res
  subst H
  exact xc_ret (b10_13 call _ _ _)
set_option maxRecDepth 100000 in
theorem b5_1 (call : QC FA) (o1 : Option PV) (o2 : Option PV) (L : QH FA) (F : Nat) : xnG call 5 (F + 4) 0 [some (vR 8), o1, o2] [] L = xnG call 5 F 4 [some (vR 8), some (vI 0), some (vI 0)] [] L := rfl
theorem vc5_0 (call : QC FA) (o1 : Option PV) (o2 : Option PV) (z : Nat → Int32) (f : Nat → FA) (res : Option PV × QH FA) (H : XC call (mP 5) 4 [some (vR 8), some (vI 0), some (vI 0)] [] (LW W z f) res) : XC call (mP 5) 0 [some (vR 8), o1, o2] [] (LW W z f) res := by
  refine xc_b (i' := 4) (ls' := [some (vR 8), some (vI 0), some (vI 0)]) (st' := []) (L' := LW W z f) 4 (b5_1 call o1 o2 _) ?_
  exact H
set_option maxRecDepth 100000 in
theorem bc4_5_1 (call : QC FA) (x1 : Int32) (x2 : Int32) (L : QH FA) (F : Nat) : xnG call 5 (F + 2) 4 [some (vR 8), some (vI x1), some (vI x2)] [] L = xnG call 5 F 6 [some (vR 8), some (vI x1), some (vI x2)] [vI 144, vI x2] L := rfl
set_option maxRecDepth 100000 in
theorem bc4_5_2 (call : QC FA) (x y : Int32) (ls : List (Option PV)) (L : QH FA) (F : Nat) : xnG call 5 (F + 1) 6 ls [vI y, vI x] L = bif pcmp 3 x y then xnG call 5 F 25 ls [] L else xnG call 5 F 7 ls [] L := rfl
set_option maxRecDepth 100000 in
theorem bc4_5_3 (call : QC FA) (x1 : Int32) (x2 : Int32) (L : QH FA) (F : Nat) : xnG call 5 (F + 1) 25 [some (vR 8), some (vI x1), some (vI x2)] [] L = xnG call 5 F 26 [some (vR 8), some (vI x1), some (vI x2)] [vI x1] L := rfl
set_option maxRecDepth 100000 in
theorem bc4_5_4 (call : QC FA) (x : Int32) (ls : List (Option PV)) (L : QH FA) (F : Nat) : xnG call 5 (F + 1) 26 ls [vI x] L = some (some (vI x), L) := rfl
set_option maxRecDepth 100000 in
theorem bc4_5_5 (call : QC FA) (x1 : Int32) (x2 : Int32) (z : Nat → Int32) (f : Nat → FA) (F : Nat) : xnG call 5 (F + 3) 7 [some (vR 8), some (vI x1), some (vI x2)] [] (LW W z f) = xnG call 5 F 10 [some (vR 8), some (vI x1), some (vI x2)] [vI x2, vR 2] (LW W z f) := rfl
set_option maxRecDepth 100000 in
theorem bc4_5_6 (call : QC FA) (a0 : Int32) (ls : List (Option PV)) (z : Nat → Int32) (f : Nat → FA) (F : Nat) : xnG call 5 (F + 1) 10 ls [vI a0, vR 2] (LW W z f) = cbd (call 6 [vR 2, vI a0] (LW W z f)) (fun r L' => xnG call 5 F 11 ls (r.toList ++ []) L') := pcY (ih := xnG call 5 F) (call := call) (a := 6) (b := 1) (v := 0) (t := 11) (x := 2) (ls := ls) (As := [vI a0]) (st' := []) (L := LW W z f) rfl rfl rfl
set_option maxRecDepth 100000 in
theorem bc4_5_7 (call : QC FA) (x : Int32) (ls : List (Option PV)) (L : QH FA) (F : Nat) : xnG call 5 (F + 1) 11 ls [vI x] L = bif pcmp 0 x 0 then xnG call 5 F 23 ls [] L else xnG call 5 F 12 ls [] L := rfl
set_option maxRecDepth 100000 in
theorem bc4_5_8 (call : QC FA) (x1 : Int32) (x2 : Int32) (L : QH FA) (F : Nat) : xnG call 5 (F + 1) 23 [some (vR 8), some (vI x1), some (vI x2)] [] L = xnG call 5 F 24 [some (vR 8), some (vI x1), some (vI (x2 + 1))] [] L := rfl
set_option maxRecDepth 100000 in
theorem bc4_5_9 (call : QC FA) (x1 : Int32) (x2 : Int32) (L : QH FA) (F : Nat) : xnG call 5 (F + 1) 24 [some (vR 8), some (vI x1), some (vI x2)] [] L = xnG call 5 F 4 [some (vR 8), some (vI x1), some (vI x2)] [] L := rfl
set_option maxRecDepth 100000 in
theorem bc4_5_10 (call : QC FA) (x1 : Int32) (x2 : Int32) (z : Nat → Int32) (f : Nat → FA) (F : Nat) : xnG call 5 (F + 4) 12 [some (vR 8), some (vI x1), some (vI x2)] [] (LW W z f) = xnG call 5 F 16 [some (vR 8), some (vI x1), some (vI x2)] [vI x2, vR 2, vI x1] (LW W z f) := rfl
set_option maxRecDepth 100000 in
theorem bc4_5_11 (call : QC FA) (a0 : Int32) (s0 : Int32) (ls : List (Option PV)) (z : Nat → Int32) (f : Nat → FA) (F : Nat) : xnG call 5 (F + 1) 16 ls [vI a0, vR 2, vI s0] (LW W z f) = cbd (call 7 [vR 2, vI a0] (LW W z f)) (fun r L' => xnG call 5 F 17 ls (r.toList ++ [vI s0]) L') := pcY (ih := xnG call 5 F) (call := call) (a := 7) (b := 1) (v := 0) (t := 17) (x := 2) (ls := ls) (As := [vI a0]) (st' := [vI s0]) (L := LW W z f) rfl rfl rfl
set_option maxRecDepth 100000 in
theorem bc4_5_12 (call : QC FA) (x1 : Int32) (x2 : Int32) (s0 : Int32) (s1 : Int32) (L : QH FA) (F : Nat) : xnG call 5 (F + 2) 17 [some (vR 8), some (vI x1), some (vI x2)] [vI s0, vI s1] L = xnG call 5 F 19 [some (vR 8), some (vI x1), some (vI x2)] [vI x2, vR 8, vI s0, vI s1] L := rfl
set_option maxRecDepth 100000 in
theorem bc4_5_13 (call : QC FA) (a0 : Int32) (s0 : Int32) (s1 : Int32) (ls : List (Option PV)) (z : Nat → Int32) (f : Nat → FA) (F : Nat) : xnG call 5 (F + 1) 19 ls [vI a0, vR 8, vI s0, vI s1] (LW W z f) = cbd (call 10 [vR 8, vI a0] (LW W z f)) (fun r L' => xnG call 5 F 20 ls (r.toList ++ [vI s0, vI s1]) L') := pcY (ih := xnG call 5 F) (call := call) (a := 10) (b := 1) (v := 1) (t := 20) (x := 8) (ls := ls) (As := [vI a0]) (st' := [vI s0, vI s1]) (L := LW W z f) rfl rfl rfl
set_option maxRecDepth 100000 in
theorem bc4_5_14 (call : QC FA) (x1 : Int32) (x2 : Int32) (s0 : Int32) (s1 : Int32) (s2 : Int32) (L : QH FA) (F : Nat) : xnG call 5 (F + 3) 20 [some (vR 8), some (vI x1), some (vI x2)] [vI s0, vI s1, vI s2] L = xnG call 5 F 23 [some (vR 8), some (vI (s2 + (s1 * s0))), some (vI x2)] [] L := rfl
theorem vcc4_5_4 (call : QC FA) (x1 : Int32) (x2 : Int32) (z : Nat → Int32) (f : Nat → FA) (res : Option PV × QH FA) (H : ((144 ≤ I x2 → res = (some (vI x1), LW W z f)) ∧ (I x2 < 144 → (∃ (r1 : Int32) (z1 : Nat → Int32) (f1 : Nat → FA), call 6 [vR 2, vI x2] (LW W z f) = some (some (vI r1), LW W z1 f1) ∧ ((r1 = 0 → XC call (mP 5) 4 [some (vR 8), some (vI x1), some (vI (x2 + 1))] [] (LW W z1 f1) res) ∧ (¬ r1 = 0 → (∃ (r2 : Int32) (z2 : Nat → Int32) (f2 : Nat → FA), call 7 [vR 2, vI x2] (LW W z1 f1) = some (some (vI r2), LW W z2 f2) ∧ (∃ (r3 : Int32) (z3 : Nat → Int32) (f3 : Nat → FA), call 10 [vR 8, vI x2] (LW W z2 f2) = some (some (vI r3), LW W z3 f3) ∧ XC call (mP 5) 4 [some (vR 8), some (vI (x1 + (r2 * r3))), some (vI (x2 + 1))] [] (LW W z3 f3) res)))))))) : XC call (mP 5) 4 [some (vR 8), some (vI x1), some (vI x2)] [] (LW W z f) res := by
  refine xc_b (i' := 6) (ls' := [some (vR 8), some (vI x1), some (vI x2)]) (st' := [vI 144, vI x2]) (L' := LW W z f) 2 (bc4_5_1 call x1 x2 _) ?_
  refine xc_if (it := 25) (ie := 7) (ls' := [some (vR 8), some (vI x1), some (vI x2)]) (st' := []) (bc4_5_2 call x2 144 _ _) (fun q1 => ?_) (fun q1 => ?_)
  · have H := H.1 (cI3t q1 rfl rfl)
    refine xc_b (i' := 26) (ls' := [some (vR 8), some (vI x1), some (vI x2)]) (st' := [vI x1]) (L' := LW W z f) 1 (bc4_5_3 call x1 x2 _) ?_
    subst H
    exact xc_ret (bc4_5_4 call _ _ _)
  · have H := H.2 (cI3f q1 rfl rfl)
    refine xc_b (i' := 10) (ls' := [some (vR 8), some (vI x1), some (vI x2)]) (st' := [vI x2, vR 2]) (L' := LW W z f) 3 (bc4_5_5 call x1 x2 z f) ?_
    obtain ⟨r1, z1, f1, hc, H⟩ := H
    refine xc_call (t := 11) (ls' := [some (vR 8), some (vI x1), some (vI x2)]) (st' := []) (bc4_5_6 call x2 _ z f) hc ?_
    show XC call (mP 5) 11 [some (vR 8), some (vI x1), some (vI x2)] [vI r1] (LW W z1 f1) res
    refine xc_if (it := 23) (ie := 12) (ls' := [some (vR 8), some (vI x1), some (vI x2)]) (st' := []) (bc4_5_7 call r1 _ _) (fun q2 => ?_) (fun q2 => ?_)
    · have H := H.1 (cI0t q2)
      refine xc_b (i' := 24) (ls' := [some (vR 8), some (vI x1), some (vI (x2 + 1))]) (st' := []) (L' := LW W z1 f1) 1 (bc4_5_8 call x1 x2 _) ?_
      refine xc_b (i' := 4) (ls' := [some (vR 8), some (vI x1), some (vI (x2 + 1))]) (st' := []) (L' := LW W z1 f1) 1 (bc4_5_9 call x1 (x2 + 1) _) ?_
      exact H
    · have H := H.2 (cI0f q2)
      refine xc_b (i' := 16) (ls' := [some (vR 8), some (vI x1), some (vI x2)]) (st' := [vI x2, vR 2, vI x1]) (L' := LW W z1 f1) 4 (bc4_5_10 call x1 x2 z1 f1) ?_
      obtain ⟨r2, z2, f2, hc, H⟩ := H
      refine xc_call (t := 17) (ls' := [some (vR 8), some (vI x1), some (vI x2)]) (st' := [vI x1]) (bc4_5_11 call x2 x1 _ z1 f1) hc ?_
      show XC call (mP 5) 17 [some (vR 8), some (vI x1), some (vI x2)] [vI r2, vI x1] (LW W z2 f2) res
      refine xc_b (i' := 19) (ls' := [some (vR 8), some (vI x1), some (vI x2)]) (st' := [vI x2, vR 8, vI r2, vI x1]) (L' := LW W z2 f2) 2 (bc4_5_12 call x1 x2 r2 x1 _) ?_
      obtain ⟨r3, z3, f3, hc, H⟩ := H
      refine xc_call (t := 20) (ls' := [some (vR 8), some (vI x1), some (vI x2)]) (st' := [vI r2, vI x1]) (bc4_5_13 call x2 r2 x1 _ z2 f2) hc ?_
      show XC call (mP 5) 20 [some (vR 8), some (vI x1), some (vI x2)] [vI r3, vI r2, vI x1] (LW W z3 f3) res
      refine xc_b (i' := 23) (ls' := [some (vR 8), some (vI (x1 + (r2 * r3))), some (vI x2)]) (st' := []) (L' := LW W z3 f3) 3 (bc4_5_14 call x1 x2 r3 r2 x1 _) ?_
      refine xc_b (i' := 24) (ls' := [some (vR 8), some (vI (x1 + (r2 * r3))), some (vI (x2 + 1))]) (st' := []) (L' := LW W z3 f3) 1 (bc4_5_8 call (x1 + (r2 * r3)) x2 _) ?_
      refine xc_b (i' := 4) (ls' := [some (vR 8), some (vI (x1 + (r2 * r3))), some (vI (x2 + 1))]) (st' := []) (L' := LW W z3 f3) 1 (bc4_5_9 call (x1 + (r2 * r3)) (x2 + 1) _) ?_
      exact H
set_option maxRecDepth 100000 in
theorem b23_1 (call : QC FA) (o1 : Option PV) (o2 : Option PV) (o3 : Option PV) (o4 : Option PV) (z : Nat → Int32) (f : Nat → FA) (F : Nat) : xnG call 23 (F + 3) 0 [some (vR 8), o1, o2, o3, o4] [] (LW W z f) = xnG call 23 F 3 [some (vR 8), o1, o2, o3, o4] [vI 0, vR 11] (LW W z f) := rfl
set_option maxRecDepth 100000 in
theorem b23_2 (call : QC FA) (a1 : Int32) (ls : List (Option PV)) (z : Nat → Int32) (f : Nat → FA) (F : Nat) : xnG call 23 (F + 1) 3 ls [vI a1, vR 11] (LW W z f) = cbd (call 2 [vR 11, vI a1] (LW W z f)) (fun r L' => xnG call 23 F 4 ls (r.toList ++ []) L') := pcZ (ih := xnG call 23 F) (call := call) (a := 2) (b := 2) (t := 4) (ls := ls) (As := [vR 11, vI a1]) (st' := []) (L := LW W z f) rfl rfl
set_option maxRecDepth 100000 in
theorem b23_3 (call : QC FA) (o1 : Option PV) (o2 : Option PV) (o3 : Option PV) (o4 : Option PV) (L : QH FA) (F : Nat) : xnG call 23 (F + 4) 4 [some (vR 8), o1, o2, o3, o4] [] L = xnG call 23 F 8 [some (vR 8), some (vI 0), some (vI 0), o3, o4] [] L := rfl
theorem vc23_0 (call : QC FA) (o1 : Option PV) (o2 : Option PV) (o3 : Option PV) (o4 : Option PV) (z : Nat → Int32) (f : Nat → FA) (res : Option PV × QH FA) (H : (∃ (z1 : Nat → Int32) (f1 : Nat → FA), call 2 [vR 11, vI 0] (LW W z f) = some (none, LW W z1 f1) ∧ XC call (mP 23) 8 [some (vR 8), some (vI 0), some (vI 0), o3, o4] [] (LW W z1 f1) res)) : XC call (mP 23) 0 [some (vR 8), o1, o2, o3, o4] [] (LW W z f) res := by
  refine xc_b (i' := 3) (ls' := [some (vR 8), o1, o2, o3, o4]) (st' := [vI 0, vR 11]) (L' := LW W z f) 3 (b23_1 call o1 o2 o3 o4 z f) ?_
  obtain ⟨z1, f1, hc, H⟩ := H
  refine xc_call (t := 4) (ls' := [some (vR 8), o1, o2, o3, o4]) (st' := []) (b23_2 call 0 _ z f) hc ?_
  show XC call (mP 23) 4 [some (vR 8), o1, o2, o3, o4] [] (LW W z1 f1) res
  refine xc_b (i' := 8) (ls' := [some (vR 8), some (vI 0), some (vI 0), o3, o4]) (st' := []) (L' := LW W z1 f1) 4 (b23_3 call o1 o2 o3 o4 _) ?_
  exact H
set_option maxRecDepth 100000 in
theorem bc8_23_1 (call : QC FA) (x1 : Int32) (x2 : Int32) (o3 : Option PV) (o4 : Option PV) (L : QH FA) (F : Nat) : xnG call 23 (F + 2) 8 [some (vR 8), some (vI x1), some (vI x2), o3, o4] [] L = xnG call 23 F 10 [some (vR 8), some (vI x1), some (vI x2), o3, o4] [vI 144, vI x2] L := rfl
set_option maxRecDepth 100000 in
theorem bc8_23_2 (call : QC FA) (x y : Int32) (ls : List (Option PV)) (L : QH FA) (F : Nat) : xnG call 23 (F + 1) 10 ls [vI y, vI x] L = bif pcmp 3 x y then xnG call 23 F 51 ls [] L else xnG call 23 F 11 ls [] L := rfl
set_option maxRecDepth 100000 in
theorem bc8_23_3 (call : QC FA) (x1 : Int32) (x2 : Int32) (o3 : Option PV) (o4 : Option PV) (L : QH FA) (F : Nat) : xnG call 23 (F + 4) 51 [some (vR 8), some (vI x1), some (vI x2), o3, o4] [] L = xnG call 23 F 55 [some (vR 8), some (vI x1), some (vI 0), some (vI 99), o4] [] L := rfl
set_option maxRecDepth 100000 in
theorem bc8_23_4 (call : QC FA) (x1 : Int32) (x2 : Int32) (o3 : Option PV) (o4 : Option PV) (z : Nat → Int32) (f : Nat → FA) (F : Nat) : xnG call 23 (F + 3) 11 [some (vR 8), some (vI x1), some (vI x2), o3, o4] [] (LW W z f) = xnG call 23 F 14 [some (vR 8), some (vI x1), some (vI x2), o3, o4] [vI x2, vR 2] (LW W z f) := rfl
set_option maxRecDepth 100000 in
theorem bc8_23_5 (call : QC FA) (a0 : Int32) (ls : List (Option PV)) (z : Nat → Int32) (f : Nat → FA) (F : Nat) : xnG call 23 (F + 1) 14 ls [vI a0, vR 2] (LW W z f) = cbd (call 6 [vR 2, vI a0] (LW W z f)) (fun r L' => xnG call 23 F 15 ls (r.toList ++ []) L') := pcY (ih := xnG call 23 F) (call := call) (a := 6) (b := 1) (v := 0) (t := 15) (x := 2) (ls := ls) (As := [vI a0]) (st' := []) (L := LW W z f) rfl rfl rfl
set_option maxRecDepth 100000 in
theorem bc8_23_6 (call : QC FA) (x : Int32) (ls : List (Option PV)) (L : QH FA) (F : Nat) : xnG call 23 (F + 1) 15 ls [vI x] L = bif pcmp 0 x 0 then xnG call 23 F 49 ls [] L else xnG call 23 F 16 ls [] L := rfl
set_option maxRecDepth 100000 in
theorem bc8_23_7 (call : QC FA) (x1 : Int32) (x2 : Int32) (o3 : Option PV) (o4 : Option PV) (L : QH FA) (F : Nat) : xnG call 23 (F + 1) 49 [some (vR 8), some (vI x1), some (vI x2), o3, o4] [] L = xnG call 23 F 50 [some (vR 8), some (vI x1), some (vI (x2 + 1)), o3, o4] [] L := rfl
set_option maxRecDepth 100000 in
theorem bc8_23_8 (call : QC FA) (x1 : Int32) (x2 : Int32) (o3 : Option PV) (o4 : Option PV) (L : QH FA) (F : Nat) : xnG call 23 (F + 1) 50 [some (vR 8), some (vI x1), some (vI x2), o3, o4] [] L = xnG call 23 F 8 [some (vR 8), some (vI x1), some (vI x2), o3, o4] [] L := rfl
set_option maxRecDepth 100000 in
theorem bc8_23_9 (call : QC FA) (x1 : Int32) (x2 : Int32) (o3 : Option PV) (o4 : Option PV) (L : QH FA) (F : Nat) : xnG call 23 (F + 2) 16 [some (vR 8), some (vI x1), some (vI x2), o3, o4] [] L = xnG call 23 F 18 [some (vR 8), some (vI x1), some (vI x2), o3, o4] [vI x2, vR 8] L := rfl
set_option maxRecDepth 100000 in
theorem bc8_23_10 (call : QC FA) (a0 : Int32) (ls : List (Option PV)) (z : Nat → Int32) (f : Nat → FA) (F : Nat) : xnG call 23 (F + 1) 18 ls [vI a0, vR 8] (LW W z f) = cbd (call 10 [vR 8, vI a0] (LW W z f)) (fun r L' => xnG call 23 F 19 ls (r.toList ++ []) L') := pcY (ih := xnG call 23 F) (call := call) (a := 10) (b := 1) (v := 1) (t := 19) (x := 8) (ls := ls) (As := [vI a0]) (st' := []) (L := LW W z f) rfl rfl rfl
set_option maxRecDepth 100000 in
theorem bc8_23_11 (call : QC FA) (x1 : Int32) (x2 : Int32) (o3 : Option PV) (o4 : Option PV) (s0 : Int32) (z : Nat → Int32) (f : Nat → FA) (F : Nat) : xnG call 23 (F + 5) 19 [some (vR 8), some (vI x1), some (vI x2), o3, o4] [vI s0] (LW W z f) = xnG call 23 F 24 [some (vR 8), some (vI x1), some (vI x2), some (vI s0), o4] [vI x2, vR 2, vI x1] (LW W z f) := rfl
set_option maxRecDepth 100000 in
theorem bc8_23_12 (call : QC FA) (a0 : Int32) (s0 : Int32) (ls : List (Option PV)) (z : Nat → Int32) (f : Nat → FA) (F : Nat) : xnG call 23 (F + 1) 24 ls [vI a0, vR 2, vI s0] (LW W z f) = cbd (call 7 [vR 2, vI a0] (LW W z f)) (fun r L' => xnG call 23 F 25 ls (r.toList ++ [vI s0]) L') := pcY (ih := xnG call 23 F) (call := call) (a := 7) (b := 1) (v := 0) (t := 25) (x := 2) (ls := ls) (As := [vI a0]) (st' := [vI s0]) (L := LW W z f) rfl rfl rfl
set_option maxRecDepth 100000 in
theorem bc8_23_13 (call : QC FA) (x1 : Int32) (x2 : Int32) (x3 : Int32) (o4 : Option PV) (s0 : Int32) (s1 : Int32) (z : Nat → Int32) (f : Nat → FA) (F : Nat) : xnG call 23 (F + 7) 25 [some (vR 8), some (vI x1), some (vI x2), some (vI x3), o4] [vI s0, vI s1] (LW W z f) = xnG call 23 F 32 [some (vR 8), some (vI (s1 + (s0 * x3))), some (vI x2), some (vI x3), o4] [vI x2, vR 2] (LW W z f) := rfl
set_option maxRecDepth 100000 in
theorem bc8_23_14 (call : QC FA) (a0 : Int32) (ls : List (Option PV)) (z : Nat → Int32) (f : Nat → FA) (F : Nat) : xnG call 23 (F + 1) 32 ls [vI a0, vR 2] (LW W z f) = cbd (call 7 [vR 2, vI a0] (LW W z f)) (fun r L' => xnG call 23 F 33 ls (r.toList ++ []) L') := pcY (ih := xnG call 23 F) (call := call) (a := 7) (b := 1) (v := 0) (t := 33) (x := 2) (ls := ls) (As := [vI a0]) (st' := []) (L := LW W z f) rfl rfl rfl
set_option maxRecDepth 100000 in
theorem bc8_23_15 (call : QC FA) (x : Int32) (ls : List (Option PV)) (L : QH FA) (F : Nat) : xnG call 23 (F + 1) 33 ls [vI x] L = bif pcmp 3 x 0 then xnG call 23 F 49 ls [] L else xnG call 23 F 34 ls [] L := rfl
set_option maxRecDepth 100000 in
theorem bc8_23_16 (call : QC FA) (x1 : Int32) (x2 : Int32) (x3 : Int32) (o4 : Option PV) (L : QH FA) (F : Nat) : xnG call 23 (F + 1) 49 [some (vR 8), some (vI x1), some (vI x2), some (vI x3), o4] [] L = xnG call 23 F 50 [some (vR 8), some (vI x1), some (vI (x2 + 1)), some (vI x3), o4] [] L := rfl
set_option maxRecDepth 100000 in
theorem bc8_23_17 (call : QC FA) (x1 : Int32) (x2 : Int32) (x3 : Int32) (o4 : Option PV) (L : QH FA) (F : Nat) : xnG call 23 (F + 1) 50 [some (vR 8), some (vI x1), some (vI x2), some (vI x3), o4] [] L = xnG call 23 F 8 [some (vR 8), some (vI x1), some (vI x2), some (vI x3), o4] [] L := rfl
set_option maxRecDepth 100000 in
theorem bc8_23_18 (call : QC FA) (x1 : Int32) (x2 : Int32) (x3 : Int32) (o4 : Option PV) (L : QH FA) (F : Nat) : xnG call 23 (F + 1) 34 [some (vR 8), some (vI x1), some (vI x2), some (vI x3), o4] [] L = xnG call 23 F 35 [some (vR 8), some (vI x1), some (vI x2), some (vI x3), o4] [vI x3] L := rfl
set_option maxRecDepth 100000 in
theorem bc8_23_19 (call : QC FA) (x : Int32) (ls : List (Option PV)) (L : QH FA) (F : Nat) : xnG call 23 (F + 1) 35 ls [vI x] L = bif pcmp 2 x 0 then xnG call 23 F 49 ls [] L else xnG call 23 F 36 ls [] L := rfl
set_option maxRecDepth 100000 in
theorem bc8_23_20 (call : QC FA) (x1 : Int32) (x2 : Int32) (x3 : Int32) (o4 : Option PV) (z : Nat → Int32) (f : Nat → FA) (F : Nat) : xnG call 23 (F + 4) 36 [some (vR 8), some (vI x1), some (vI x2), some (vI x3), o4] [] (LW W z f) = xnG call 23 F 40 [some (vR 8), some (vI x1), some (vI x2), some (vI x3), o4] [vI (nI 100), vI x3] (LW W z f) := rfl
set_option maxRecDepth 100000 in
theorem bc8_23_21 (call : QC FA) (x y : Int32) (ls : List (Option PV)) (L : QH FA) (F : Nat) : xnG call 23 (F + 1) 40 ls [vI y, vI x] L = bif pcmp 3 x y then xnG call 23 F 49 ls [] L else xnG call 23 F 41 ls [] L := rfl
set_option maxRecDepth 100000 in
theorem bc8_23_22 (call : QC FA) (x1 : Int32) (x2 : Int32) (x3 : Int32) (o4 : Option PV) (z : Nat → Int32) (f : Nat → FA) (F : Nat) : xnG call 23 (F + 4) 41 [some (vR 8), some (vI x1), some (vI x2), some (vI x3), o4] [] (LW W z f) = xnG call 23 F 45 [some (vR 8), some (vI x1), some (vI x2), some (vI x3), o4] [vI x3, vR 11, vI x3, vR 11] (LW W z f) := rfl
set_option maxRecDepth 100000 in
theorem bc8_23_23 (call : QC FA) (x : Int32) (s0 : Int32) (ls : List (Option PV)) (z : Nat → Int32) (f : Nat → FA) (F : Nat) : xnG call 23 (F + 1) 45 ls [vI x, vR 11, vI s0, vR 11] (LW W z f) = bif (Nat.beq 0 0 && pin x 100) then xnG call 23 F 46 ls [vI (f 11 (ix x)), vI s0, vR 11] (LW W z f) else none := rfl
set_option maxRecDepth 100000 in
theorem bc8_23_24 (call : QC FA) (x1 : Int32) (x2 : Int32) (x3 : Int32) (o4 : Option PV) (s0 : Int32) (s1 : Int32) (L : QH FA) (F : Nat) : xnG call 23 (F + 2) 46 [some (vR 8), some (vI x1), some (vI x2), some (vI x3), o4] [vI s0, vI s1, vR 11] L = xnG call 23 F 48 [some (vR 8), some (vI x1), some (vI x2), some (vI x3), o4] [vI (s0 + 1), vI s1, vR 11] L := rfl
set_option maxRecDepth 100000 in
theorem bc8_23_25 (call : QC FA) (x y : Int32) (ls : List (Option PV)) (z : Nat → Int32) (f : Nat → FA) (F : Nat) : xnG call 23 (F + 1) 48 ls [vI y, vI x, vR 11] (LW W z f) = bif (Nat.beq 0 0 && pin x 100) then xnG call 23 F 49 ls [] (LW W z (uA f 11 (upd (f 11) (ix x) y))) else none := rfl
theorem vcc8_23_8 (call : QC FA) (x1 : Int32) (x2 : Int32) (o3 : Option PV) (o4 : Option PV) (z : Nat → Int32) (f : Nat → FA) (res : Option PV × QH FA) (H : ((144 ≤ I x2 → XC call (mP 23) 55 [some (vR 8), some (vI x1), some (vI 0), some (vI 99), o4] [] (LW W z f) res) ∧ (I x2 < 144 → (∃ (r1 : Int32) (z1 : Nat → Int32) (f1 : Nat → FA), call 6 [vR 2, vI x2] (LW W z f) = some (some (vI r1), LW W z1 f1) ∧ ((r1 = 0 → XC call (mP 23) 8 [some (vR 8), some (vI x1), some (vI (x2 + 1)), o3, o4] [] (LW W z1 f1) res) ∧ (¬ r1 = 0 → (∃ (r2 : Int32) (z2 : Nat → Int32) (f2 : Nat → FA), call 10 [vR 8, vI x2] (LW W z1 f1) = some (some (vI r2), LW W z2 f2) ∧ (∃ (r3 : Int32) (z3 : Nat → Int32) (f3 : Nat → FA), call 7 [vR 2, vI x2] (LW W z2 f2) = some (some (vI r3), LW W z3 f3) ∧ (∃ (r4 : Int32) (z4 : Nat → Int32) (f4 : Nat → FA), call 7 [vR 2, vI x2] (LW W z3 f3) = some (some (vI r4), LW W z4 f4) ∧ ((0 ≤ I r4 → XC call (mP 23) 8 [some (vR 8), some (vI (x1 + (r3 * r2))), some (vI (x2 + 1)), some (vI r2), o4] [] (LW W z4 f4) res) ∧ (I r4 < 0 → ((I r2 < 0 → XC call (mP 23) 8 [some (vR 8), some (vI (x1 + (r3 * r2))), some (vI (x2 + 1)), some (vI r2), o4] [] (LW W z4 f4) res) ∧ (0 ≤ I r2 → ((I (nI 100) ≤ I r2 → XC call (mP 23) 8 [some (vR 8), some (vI (x1 + (r3 * r2))), some (vI (x2 + 1)), some (vI r2), o4] [] (LW W z4 f4) res) ∧ (I r2 < I (nI 100) → (pin r2 100 = true ∧ (pin r2 100 = true ∧ XC call (mP 23) 8 [some (vR 8), some (vI (x1 + (r3 * r2))), some (vI (x2 + 1)), some (vI r2), o4] [] (LW W z4 (uA f4 11 (upd (f4 11) (ix r2) ((f4 11 (ix r2)) + 1)))) res))))))))))))))))) : XC call (mP 23) 8 [some (vR 8), some (vI x1), some (vI x2), o3, o4] [] (LW W z f) res := by
  refine xc_b (i' := 10) (ls' := [some (vR 8), some (vI x1), some (vI x2), o3, o4]) (st' := [vI 144, vI x2]) (L' := LW W z f) 2 (bc8_23_1 call x1 x2 o3 o4 _) ?_
  refine xc_if (it := 51) (ie := 11) (ls' := [some (vR 8), some (vI x1), some (vI x2), o3, o4]) (st' := []) (bc8_23_2 call x2 144 _ _) (fun q1 => ?_) (fun q1 => ?_)
  · have H := H.1 (cI3t q1 rfl rfl)
    refine xc_b (i' := 55) (ls' := [some (vR 8), some (vI x1), some (vI 0), some (vI 99), o4]) (st' := []) (L' := LW W z f) 4 (bc8_23_3 call x1 x2 o3 o4 _) ?_
    exact H
  · have H := H.2 (cI3f q1 rfl rfl)
    refine xc_b (i' := 14) (ls' := [some (vR 8), some (vI x1), some (vI x2), o3, o4]) (st' := [vI x2, vR 2]) (L' := LW W z f) 3 (bc8_23_4 call x1 x2 o3 o4 z f) ?_
    obtain ⟨r1, z1, f1, hc, H⟩ := H
    refine xc_call (t := 15) (ls' := [some (vR 8), some (vI x1), some (vI x2), o3, o4]) (st' := []) (bc8_23_5 call x2 _ z f) hc ?_
    show XC call (mP 23) 15 [some (vR 8), some (vI x1), some (vI x2), o3, o4] [vI r1] (LW W z1 f1) res
    refine xc_if (it := 49) (ie := 16) (ls' := [some (vR 8), some (vI x1), some (vI x2), o3, o4]) (st' := []) (bc8_23_6 call r1 _ _) (fun q2 => ?_) (fun q2 => ?_)
    · have H := H.1 (cI0t q2)
      refine xc_b (i' := 50) (ls' := [some (vR 8), some (vI x1), some (vI (x2 + 1)), o3, o4]) (st' := []) (L' := LW W z1 f1) 1 (bc8_23_7 call x1 x2 o3 o4 _) ?_
      refine xc_b (i' := 8) (ls' := [some (vR 8), some (vI x1), some (vI (x2 + 1)), o3, o4]) (st' := []) (L' := LW W z1 f1) 1 (bc8_23_8 call x1 (x2 + 1) o3 o4 _) ?_
      exact H
    · have H := H.2 (cI0f q2)
      refine xc_b (i' := 18) (ls' := [some (vR 8), some (vI x1), some (vI x2), o3, o4]) (st' := [vI x2, vR 8]) (L' := LW W z1 f1) 2 (bc8_23_9 call x1 x2 o3 o4 _) ?_
      obtain ⟨r2, z2, f2, hc, H⟩ := H
      refine xc_call (t := 19) (ls' := [some (vR 8), some (vI x1), some (vI x2), o3, o4]) (st' := []) (bc8_23_10 call x2 _ z1 f1) hc ?_
      show XC call (mP 23) 19 [some (vR 8), some (vI x1), some (vI x2), o3, o4] [vI r2] (LW W z2 f2) res
      refine xc_b (i' := 24) (ls' := [some (vR 8), some (vI x1), some (vI x2), some (vI r2), o4]) (st' := [vI x2, vR 2, vI x1]) (L' := LW W z2 f2) 5 (bc8_23_11 call x1 x2 o3 o4 r2 z2 f2) ?_
      obtain ⟨r3, z3, f3, hc, H⟩ := H
      refine xc_call (t := 25) (ls' := [some (vR 8), some (vI x1), some (vI x2), some (vI r2), o4]) (st' := [vI x1]) (bc8_23_12 call x2 x1 _ z2 f2) hc ?_
      show XC call (mP 23) 25 [some (vR 8), some (vI x1), some (vI x2), some (vI r2), o4] [vI r3, vI x1] (LW W z3 f3) res
      refine xc_b (i' := 32) (ls' := [some (vR 8), some (vI (x1 + (r3 * r2))), some (vI x2), some (vI r2), o4]) (st' := [vI x2, vR 2]) (L' := LW W z3 f3) 7 (bc8_23_13 call x1 x2 r2 o4 r3 x1 z3 f3) ?_
      obtain ⟨r4, z4, f4, hc, H⟩ := H
      refine xc_call (t := 33) (ls' := [some (vR 8), some (vI (x1 + (r3 * r2))), some (vI x2), some (vI r2), o4]) (st' := []) (bc8_23_14 call x2 _ z3 f3) hc ?_
      show XC call (mP 23) 33 [some (vR 8), some (vI (x1 + (r3 * r2))), some (vI x2), some (vI r2), o4] [vI r4] (LW W z4 f4) res
      refine xc_if (it := 49) (ie := 34) (ls' := [some (vR 8), some (vI (x1 + (r3 * r2))), some (vI x2), some (vI r2), o4]) (st' := []) (bc8_23_15 call r4 _ _) (fun q3 => ?_) (fun q3 => ?_)
      · have H := H.1 (cI3t q3 rfl rfl)
        refine xc_b (i' := 50) (ls' := [some (vR 8), some (vI (x1 + (r3 * r2))), some (vI (x2 + 1)), some (vI r2), o4]) (st' := []) (L' := LW W z4 f4) 1 (bc8_23_16 call (x1 + (r3 * r2)) x2 r2 o4 _) ?_
        refine xc_b (i' := 8) (ls' := [some (vR 8), some (vI (x1 + (r3 * r2))), some (vI (x2 + 1)), some (vI r2), o4]) (st' := []) (L' := LW W z4 f4) 1 (bc8_23_17 call (x1 + (r3 * r2)) (x2 + 1) r2 o4 _) ?_
        exact H
      · have H := H.2 (cI3f q3 rfl rfl)
        refine xc_b (i' := 35) (ls' := [some (vR 8), some (vI (x1 + (r3 * r2))), some (vI x2), some (vI r2), o4]) (st' := [vI r2]) (L' := LW W z4 f4) 1 (bc8_23_18 call (x1 + (r3 * r2)) x2 r2 o4 _) ?_
        refine xc_if (it := 49) (ie := 36) (ls' := [some (vR 8), some (vI (x1 + (r3 * r2))), some (vI x2), some (vI r2), o4]) (st' := []) (bc8_23_19 call r2 _ _) (fun q4 => ?_) (fun q4 => ?_)
        · have H := H.1 (cI2t q4 rfl rfl)
          refine xc_b (i' := 50) (ls' := [some (vR 8), some (vI (x1 + (r3 * r2))), some (vI (x2 + 1)), some (vI r2), o4]) (st' := []) (L' := LW W z4 f4) 1 (bc8_23_16 call (x1 + (r3 * r2)) x2 r2 o4 _) ?_
          refine xc_b (i' := 8) (ls' := [some (vR 8), some (vI (x1 + (r3 * r2))), some (vI (x2 + 1)), some (vI r2), o4]) (st' := []) (L' := LW W z4 f4) 1 (bc8_23_17 call (x1 + (r3 * r2)) (x2 + 1) r2 o4 _) ?_
          exact H
        · have H := H.2 (cI2f q4 rfl rfl)
          refine xc_b (i' := 40) (ls' := [some (vR 8), some (vI (x1 + (r3 * r2))), some (vI x2), some (vI r2), o4]) (st' := [vI (nI 100), vI r2]) (L' := LW W z4 f4) 4 (bc8_23_20 call (x1 + (r3 * r2)) x2 r2 o4 z4 f4) ?_
          refine xc_if (it := 49) (ie := 41) (ls' := [some (vR 8), some (vI (x1 + (r3 * r2))), some (vI x2), some (vI r2), o4]) (st' := []) (bc8_23_21 call r2 (nI 100) _ _) (fun q5 => ?_) (fun q5 => ?_)
          · have H := H.1 (cI3t q5 rfl rfl)
            refine xc_b (i' := 50) (ls' := [some (vR 8), some (vI (x1 + (r3 * r2))), some (vI (x2 + 1)), some (vI r2), o4]) (st' := []) (L' := LW W z4 f4) 1 (bc8_23_16 call (x1 + (r3 * r2)) x2 r2 o4 _) ?_
            refine xc_b (i' := 8) (ls' := [some (vR 8), some (vI (x1 + (r3 * r2))), some (vI (x2 + 1)), some (vI r2), o4]) (st' := []) (L' := LW W z4 f4) 1 (bc8_23_17 call (x1 + (r3 * r2)) (x2 + 1) r2 o4 _) ?_
            exact H
          · have H := H.2 (cI3f q5 rfl rfl)
            refine xc_b (i' := 45) (ls' := [some (vR 8), some (vI (x1 + (r3 * r2))), some (vI x2), some (vI r2), o4]) (st' := [vI r2, vR 11, vI r2, vR 11]) (L' := LW W z4 f4) 4 (bc8_23_22 call (x1 + (r3 * r2)) x2 r2 o4 z4 f4) ?_
            obtain ⟨g1, H⟩ := H
            refine xc_g (i' := 46) (ls' := [some (vR 8), some (vI (x1 + (r3 * r2))), some (vI x2), some (vI r2), o4]) (st' := [vI (f4 11 (ix r2)), vI r2, vR 11]) (L' := LW W z4 f4) (bc8_23_23 call r2 r2 _ z4 f4) (pinG g1) ?_
            refine xc_b (i' := 48) (ls' := [some (vR 8), some (vI (x1 + (r3 * r2))), some (vI x2), some (vI r2), o4]) (st' := [vI ((f4 11 (ix r2)) + 1), vI r2, vR 11]) (L' := LW W z4 f4) 2 (bc8_23_24 call (x1 + (r3 * r2)) x2 r2 o4 (f4 11 (ix r2)) r2 _) ?_
            obtain ⟨g1, H⟩ := H
            refine xc_g (i' := 49) (ls' := [some (vR 8), some (vI (x1 + (r3 * r2))), some (vI x2), some (vI r2), o4]) (st' := []) (L' := LW W z4 (uA f4 11 (upd (f4 11) (ix r2) ((f4 11 (ix r2)) + 1)))) (bc8_23_25 call r2 ((f4 11 (ix r2)) + 1) _ z4 f4) (pinG g1) ?_
            refine xc_b (i' := 50) (ls' := [some (vR 8), some (vI (x1 + (r3 * r2))), some (vI (x2 + 1)), some (vI r2), o4]) (st' := []) (L' := LW W z4 (uA f4 11 (upd (f4 11) (ix r2) ((f4 11 (ix r2)) + 1)))) 1 (bc8_23_16 call (x1 + (r3 * r2)) x2 r2 o4 _) ?_
            refine xc_b (i' := 8) (ls' := [some (vR 8), some (vI (x1 + (r3 * r2))), some (vI (x2 + 1)), some (vI r2), o4]) (st' := []) (L' := LW W z4 (uA f4 11 (upd (f4 11) (ix r2) ((f4 11 (ix r2)) + 1)))) 1 (bc8_23_17 call (x1 + (r3 * r2)) (x2 + 1) r2 o4 _) ?_
            exact H
set_option maxRecDepth 100000 in
theorem bc55_23_1 (call : QC FA) (x1 : Int32) (x2 : Int32) (x3 : Int32) (o4 : Option PV) (L : QH FA) (F : Nat) : xnG call 23 (F + 1) 55 [some (vR 8), some (vI x1), some (vI x2), some (vI x3), o4] [] L = xnG call 23 F 56 [some (vR 8), some (vI x1), some (vI x2), some (vI x3), o4] [vI x3] L := rfl
set_option maxRecDepth 100000 in
theorem bc55_23_2 (call : QC FA) (x : Int32) (ls : List (Option PV)) (L : QH FA) (F : Nat) : xnG call 23 (F + 1) 56 ls [vI x] L = bif pcmp 5 x 0 then xnG call 23 F 76 ls [] L else xnG call 23 F 57 ls [] L := rfl
set_option maxRecDepth 100000 in
theorem bc55_23_3 (call : QC FA) (x1 : Int32) (x2 : Int32) (x3 : Int32) (o4 : Option PV) (L : QH FA) (F : Nat) : xnG call 23 (F + 1) 76 [some (vR 8), some (vI x1), some (vI x2), some (vI x3), o4] [] L = xnG call 23 F 77 [some (vR 8), some (vI x1), some (vI x2), some (vI x3), o4] [vI x1] L := rfl
set_option maxRecDepth 100000 in
theorem bc55_23_4 (call : QC FA) (x : Int32) (ls : List (Option PV)) (L : QH FA) (F : Nat) : xnG call 23 (F + 1) 77 ls [vI x] L = bif pcmp 5 x 0 then xnG call 23 F 80 ls [] L else xnG call 23 F 78 ls [] L := rfl
set_option maxRecDepth 100000 in
theorem bc55_23_5 (call : QC FA) (x1 : Int32) (x2 : Int32) (x3 : Int32) (o4 : Option PV) (L : QH FA) (F : Nat) : xnG call 23 (F + 1) 80 [some (vR 8), some (vI x1), some (vI x2), some (vI x3), o4] [] L = xnG call 23 F 81 [some (vR 8), some (vI x1), some (vI x2), some (vI x3), o4] [vI ((-1))] L := rfl
set_option maxRecDepth 100000 in
theorem bc55_23_6 (call : QC FA) (x : Int32) (ls : List (Option PV)) (L : QH FA) (F : Nat) : xnG call 23 (F + 1) 81 ls [vI x] L = some (some (vI x), L) := rfl
set_option maxRecDepth 100000 in
theorem bc55_23_7 (call : QC FA) (x1 : Int32) (x2 : Int32) (x3 : Int32) (o4 : Option PV) (L : QH FA) (F : Nat) : xnG call 23 (F + 2) 78 [some (vR 8), some (vI x1), some (vI x2), some (vI x3), o4] [] L = xnG call 23 F 81 [some (vR 8), some (vI x1), some (vI x2), some (vI x3), o4] [vI x2] L := rfl
set_option maxRecDepth 100000 in
theorem bc55_23_8 (call : QC FA) (x1 : Int32) (x2 : Int32) (x3 : Int32) (o4 : Option PV) (L : QH FA) (F : Nat) : xnG call 23 (F + 2) 57 [some (vR 8), some (vI x1), some (vI x2), some (vI x3), o4] [] L = xnG call 23 F 59 [some (vR 8), some (vI x1), some (vI x2), some (vI x3), some (vI 0)] [] L := rfl
theorem vcc55_23_55 (call : QC FA) (x1 : Int32) (x2 : Int32) (x3 : Int32) (o4 : Option PV) (z : Nat → Int32) (f : Nat → FA) (res : Option PV × QH FA) (H : ((I x3 ≤ 0 → ((I x1 ≤ 0 → res = (some (vI ((-1))), LW W z f)) ∧ (0 < I x1 → res = (some (vI x2), LW W z f)))) ∧ (0 < I x3 → XC call (mP 23) 59 [some (vR 8), some (vI x1), some (vI x2), some (vI x3), some (vI 0)] [] (LW W z f) res))) : XC call (mP 23) 55 [some (vR 8), some (vI x1), some (vI x2), some (vI x3), o4] [] (LW W z f) res := by
  refine xc_b (i' := 56) (ls' := [some (vR 8), some (vI x1), some (vI x2), some (vI x3), o4]) (st' := [vI x3]) (L' := LW W z f) 1 (bc55_23_1 call x1 x2 x3 o4 _) ?_
  refine xc_if (it := 76) (ie := 57) (ls' := [some (vR 8), some (vI x1), some (vI x2), some (vI x3), o4]) (st' := []) (bc55_23_2 call x3 _ _) (fun q1 => ?_) (fun q1 => ?_)
  · have H := H.1 (cI5t q1 rfl rfl)
    refine xc_b (i' := 77) (ls' := [some (vR 8), some (vI x1), some (vI x2), some (vI x3), o4]) (st' := [vI x1]) (L' := LW W z f) 1 (bc55_23_3 call x1 x2 x3 o4 _) ?_
    refine xc_if (it := 80) (ie := 78) (ls' := [some (vR 8), some (vI x1), some (vI x2), some (vI x3), o4]) (st' := []) (bc55_23_4 call x1 _ _) (fun q2 => ?_) (fun q2 => ?_)
    · have H := H.1 (cI5t q2 rfl rfl)
      refine xc_b (i' := 81) (ls' := [some (vR 8), some (vI x1), some (vI x2), some (vI x3), o4]) (st' := [vI ((-1))]) (L' := LW W z f) 1 (bc55_23_5 call x1 x2 x3 o4 _) ?_
      subst H
      exact xc_ret (bc55_23_6 call _ _ _)
    · have H := H.2 (cI5f q2 rfl rfl)
      refine xc_b (i' := 81) (ls' := [some (vR 8), some (vI x1), some (vI x2), some (vI x3), o4]) (st' := [vI x2]) (L' := LW W z f) 2 (bc55_23_7 call x1 x2 x3 o4 _) ?_
      subst H
      exact xc_ret (bc55_23_6 call _ _ _)
  · have H := H.2 (cI5f q1 rfl rfl)
    refine xc_b (i' := 59) (ls' := [some (vR 8), some (vI x1), some (vI x2), some (vI x3), some (vI 0)]) (st' := []) (L' := LW W z f) 2 (bc55_23_8 call x1 x2 x3 o4 _) ?_
    exact H
set_option maxRecDepth 100000 in
theorem bc59_23_1 (call : QC FA) (x1 : Int32) (x2 : Int32) (x3 : Int32) (x4 : Int32) (z : Nat → Int32) (f : Nat → FA) (F : Nat) : xnG call 23 (F + 4) 59 [some (vR 8), some (vI x1), some (vI x2), some (vI x3), some (vI x4)] [] (LW W z f) = xnG call 23 F 63 [some (vR 8), some (vI x1), some (vI x2), some (vI x3), some (vI x4)] [vI x3, vR 11, vI x4] (LW W z f) := rfl
set_option maxRecDepth 100000 in
theorem bc59_23_2 (call : QC FA) (x : Int32) (s0 : Int32) (ls : List (Option PV)) (z : Nat → Int32) (f : Nat → FA) (F : Nat) : xnG call 23 (F + 1) 63 ls [vI x, vR 11, vI s0] (LW W z f) = bif (Nat.beq 0 0 && pin x 100) then xnG call 23 F 64 ls [vI (f 11 (ix x)), vI s0] (LW W z f) else none := rfl
set_option maxRecDepth 100000 in
theorem bc59_23_3 (call : QC FA) (x y : Int32) (ls : List (Option PV)) (L : QH FA) (F : Nat) : xnG call 23 (F + 1) 64 ls [vI y, vI x] L = bif pcmp 3 x y then xnG call 23 F 74 ls [] L else xnG call 23 F 65 ls [] L := rfl
theorem bc59_23_4i (ih : QK FA) (t : Nat) (v x : Int32) (l0 l1 l2 l4 : Option PV) (st : List PV) (L : QH FA) : p_iinc ih fzF 3 v t [l0, l1, l2, some (vI x), l4] st L = ih t [l0, l1, l2, some (vI (x + v)), l4] st L := rfl
set_option maxRecDepth 100000 in
theorem bc59_23_4 (call : QC FA) (x1 : Int32) (x2 : Int32) (x3 : Int32) (x4 : Int32) (L : QH FA) (F : Nat) : xnG call 23 (F + 1) 74 [some (vR 8), some (vI x1), some (vI x2), some (vI x3), some (vI x4)] [] L = xnG call 23 F 75 [some (vR 8), some (vI x1), some (vI x2), some (vI (x3 + (-1))), some (vI x4)] [] L := bc59_23_4i (xnG call 23 F) 75 (-1) x3 _ _ _ _ _ _
set_option maxRecDepth 100000 in
theorem bc59_23_5 (call : QC FA) (x1 : Int32) (x2 : Int32) (x3 : Int32) (x4 : Int32) (L : QH FA) (F : Nat) : xnG call 23 (F + 1) 75 [some (vR 8), some (vI x1), some (vI x2), some (vI x3), some (vI x4)] [] L = xnG call 23 F 55 [some (vR 8), some (vI x1), some (vI x2), some (vI x3), some (vI x4)] [] L := rfl
set_option maxRecDepth 100000 in
theorem bc59_23_6 (call : QC FA) (x1 : Int32) (x2 : Int32) (x3 : Int32) (x4 : Int32) (L : QH FA) (F : Nat) : xnG call 23 (F + 1) 65 [some (vR 8), some (vI x1), some (vI x2), some (vI x3), some (vI x4)] [] L = xnG call 23 F 66 [some (vR 8), some (vI x1), some (vI x2), some (vI x3), some (vI x4)] [vI x1] L := rfl
set_option maxRecDepth 100000 in
theorem bc59_23_7 (call : QC FA) (x : Int32) (ls : List (Option PV)) (L : QH FA) (F : Nat) : xnG call 23 (F + 1) 66 ls [vI x] L = bif pcmp 4 x 0 then xnG call 23 F 74 ls [] L else xnG call 23 F 67 ls [] L := rfl
set_option maxRecDepth 100000 in
theorem bc59_23_8 (call : QC FA) (x1 : Int32) (x2 : Int32) (x3 : Int32) (x4 : Int32) (L : QH FA) (F : Nat) : xnG call 23 (F + 4) 67 [some (vR 8), some (vI x1), some (vI x2), some (vI x3), some (vI x4)] [] L = xnG call 23 F 71 [some (vR 8), some (vI (x1 + x3)), some (vI x2), some (vI x3), some (vI x4)] [] L := rfl
set_option maxRecDepth 100000 in
theorem bc59_23_9 (call : QC FA) (x1 : Int32) (x2 : Int32) (x3 : Int32) (x4 : Int32) (L : QH FA) (F : Nat) : xnG call 23 (F + 1) 71 [some (vR 8), some (vI x1), some (vI x2), some (vI x3), some (vI x4)] [] L = xnG call 23 F 72 [some (vR 8), some (vI x1), some (vI (x2 + 1)), some (vI x3), some (vI x4)] [] L := rfl
set_option maxRecDepth 100000 in
theorem bc59_23_10 (call : QC FA) (x1 : Int32) (x2 : Int32) (x3 : Int32) (x4 : Int32) (L : QH FA) (F : Nat) : xnG call 23 (F + 1) 72 [some (vR 8), some (vI x1), some (vI x2), some (vI x3), some (vI x4)] [] L = xnG call 23 F 73 [some (vR 8), some (vI x1), some (vI x2), some (vI x3), some (vI (x4 + 1))] [] L := rfl
set_option maxRecDepth 100000 in
theorem bc59_23_11 (call : QC FA) (x1 : Int32) (x2 : Int32) (x3 : Int32) (x4 : Int32) (L : QH FA) (F : Nat) : xnG call 23 (F + 1) 73 [some (vR 8), some (vI x1), some (vI x2), some (vI x3), some (vI x4)] [] L = xnG call 23 F 59 [some (vR 8), some (vI x1), some (vI x2), some (vI x3), some (vI x4)] [] L := rfl
theorem vcc59_23_59 (call : QC FA) (x1 : Int32) (x2 : Int32) (x3 : Int32) (x4 : Int32) (z : Nat → Int32) (f : Nat → FA) (res : Option PV × QH FA) (H : (pin x3 100 = true ∧ ((I (f 11 (ix x3)) ≤ I x4 → XC call (mP 23) 55 [some (vR 8), some (vI x1), some (vI x2), some (vI (x3 + (-1))), some (vI x4)] [] (LW W z f) res) ∧ (I x4 < I (f 11 (ix x3)) → ((0 < I x1 → XC call (mP 23) 55 [some (vR 8), some (vI x1), some (vI x2), some (vI (x3 + (-1))), some (vI x4)] [] (LW W z f) res) ∧ (I x1 ≤ 0 → XC call (mP 23) 59 [some (vR 8), some (vI (x1 + x3)), some (vI (x2 + 1)), some (vI x3), some (vI (x4 + 1))] [] (LW W z f) res)))))) : XC call (mP 23) 59 [some (vR 8), some (vI x1), some (vI x2), some (vI x3), some (vI x4)] [] (LW W z f) res := by
  refine xc_b (i' := 63) (ls' := [some (vR 8), some (vI x1), some (vI x2), some (vI x3), some (vI x4)]) (st' := [vI x3, vR 11, vI x4]) (L' := LW W z f) 4 (bc59_23_1 call x1 x2 x3 x4 z f) ?_
  obtain ⟨g1, H⟩ := H
  refine xc_g (i' := 64) (ls' := [some (vR 8), some (vI x1), some (vI x2), some (vI x3), some (vI x4)]) (st' := [vI (f 11 (ix x3)), vI x4]) (L' := LW W z f) (bc59_23_2 call x3 x4 _ z f) (pinG g1) ?_
  refine xc_if (it := 74) (ie := 65) (ls' := [some (vR 8), some (vI x1), some (vI x2), some (vI x3), some (vI x4)]) (st' := []) (bc59_23_3 call x4 (f 11 (ix x3)) _ _) (fun q1 => ?_) (fun q1 => ?_)
  · have H := H.1 (cI3t q1 rfl rfl)
    refine xc_b (i' := 75) (ls' := [some (vR 8), some (vI x1), some (vI x2), some (vI (x3 + (-1))), some (vI x4)]) (st' := []) (L' := LW W z f) 1 (bc59_23_4 call x1 x2 x3 x4 _) ?_
    refine xc_b (i' := 55) (ls' := [some (vR 8), some (vI x1), some (vI x2), some (vI (x3 + (-1))), some (vI x4)]) (st' := []) (L' := LW W z f) 1 (bc59_23_5 call x1 x2 (x3 + (-1)) x4 _) ?_
    exact H
  · have H := H.2 (cI3f q1 rfl rfl)
    refine xc_b (i' := 66) (ls' := [some (vR 8), some (vI x1), some (vI x2), some (vI x3), some (vI x4)]) (st' := [vI x1]) (L' := LW W z f) 1 (bc59_23_6 call x1 x2 x3 x4 _) ?_
    refine xc_if (it := 74) (ie := 67) (ls' := [some (vR 8), some (vI x1), some (vI x2), some (vI x3), some (vI x4)]) (st' := []) (bc59_23_7 call x1 _ _) (fun q2 => ?_) (fun q2 => ?_)
    · have H := H.1 (cI4t q2 rfl rfl)
      refine xc_b (i' := 75) (ls' := [some (vR 8), some (vI x1), some (vI x2), some (vI (x3 + (-1))), some (vI x4)]) (st' := []) (L' := LW W z f) 1 (bc59_23_4 call x1 x2 x3 x4 _) ?_
      refine xc_b (i' := 55) (ls' := [some (vR 8), some (vI x1), some (vI x2), some (vI (x3 + (-1))), some (vI x4)]) (st' := []) (L' := LW W z f) 1 (bc59_23_5 call x1 x2 (x3 + (-1)) x4 _) ?_
      exact H
    · have H := H.2 (cI4f q2 rfl rfl)
      refine xc_b (i' := 71) (ls' := [some (vR 8), some (vI (x1 + x3)), some (vI x2), some (vI x3), some (vI x4)]) (st' := []) (L' := LW W z f) 4 (bc59_23_8 call x1 x2 x3 x4 _) ?_
      refine xc_b (i' := 72) (ls' := [some (vR 8), some (vI (x1 + x3)), some (vI (x2 + 1)), some (vI x3), some (vI x4)]) (st' := []) (L' := LW W z f) 1 (bc59_23_9 call (x1 + x3) x2 x3 x4 _) ?_
      refine xc_b (i' := 73) (ls' := [some (vR 8), some (vI (x1 + x3)), some (vI (x2 + 1)), some (vI x3), some (vI (x4 + 1))]) (st' := []) (L' := LW W z f) 1 (bc59_23_10 call (x1 + x3) (x2 + 1) x3 x4 _) ?_
      refine xc_b (i' := 59) (ls' := [some (vR 8), some (vI (x1 + x3)), some (vI (x2 + 1)), some (vI x3), some (vI (x4 + 1))]) (st' := []) (L' := LW W z f) 1 (bc59_23_11 call (x1 + x3) (x2 + 1) x3 (x4 + 1) _) ?_
      exact H
set_option maxRecDepth 100000 in
theorem b98_1 (call : QC FA) (o1 : Option PV) (L : QH FA) (F : Nat) : xnG call 98 (F + 1) 0 [some (vR 8), o1] [] L = xnG call 98 F 1 [some (vR 8), o1] [vR 8] L := rfl
set_option maxRecDepth 100000 in
theorem b98_2 (call : QC FA) (ls : List (Option PV)) (z : Nat → Int32) (f : Nat → FA) (F : Nat) : xnG call 98 (F + 1) 1 ls [vR 8] (LW W z f) = cbd (call 100 [vR 8] (LW W z f)) (fun r L' => xnG call 98 F 2 ls (r.toList ++ []) L') := pcY (ih := xnG call 98 F) (call := call) (a := 100) (b := 0) (v := 1) (t := 2) (x := 8) (ls := ls) (As := []) (st' := []) (L := LW W z f) rfl rfl rfl
set_option maxRecDepth 100000 in
theorem b98_3 (call : QC FA) (o1 : Option PV) (L : QH FA) (F : Nat) : xnG call 98 (F + 1) 2 [some (vR 8), o1] [] L = xnG call 98 F 3 [some (vR 8), o1] [vR 8] L := rfl
set_option maxRecDepth 100000 in
theorem b98_4 (call : QC FA) (ls : List (Option PV)) (z : Nat → Int32) (f : Nat → FA) (F : Nat) : xnG call 98 (F + 1) 3 ls [vR 8] (LW W z f) = cbd (call 102 [vR 8] (LW W z f)) (fun r L' => xnG call 98 F 4 ls (r.toList ++ []) L') := pcY (ih := xnG call 98 F) (call := call) (a := 102) (b := 0) (v := 1) (t := 4) (x := 8) (ls := ls) (As := []) (st' := []) (L := LW W z f) rfl rfl rfl
set_option maxRecDepth 100000 in
theorem b98_5 (call : QC FA) (o1 : Option PV) (s0 : Int32) (L : QH FA) (F : Nat) : xnG call 98 (F + 2) 4 [some (vR 8), o1] [vI s0] L = xnG call 98 F 6 [some (vR 8), some (vI s0)] [vR 8] L := rfl
set_option maxRecDepth 100000 in
theorem b98_6 (call : QC FA) (ls : List (Option PV)) (z : Nat → Int32) (f : Nat → FA) (F : Nat) : xnG call 98 (F + 1) 6 ls [vR 8] (LW W z f) = cbd (call 95 [vR 8] (LW W z f)) (fun r L' => xnG call 98 F 7 ls (r.toList ++ []) L') := pcY (ih := xnG call 98 F) (call := call) (a := 95) (b := 0) (v := 1) (t := 7) (x := 8) (ls := ls) (As := []) (st' := []) (L := LW W z f) rfl rfl rfl
set_option maxRecDepth 100000 in
theorem b98_7 (call : QC FA) (x1 : Int32) (z : Nat → Int32) (f : Nat → FA) (F : Nat) : xnG call 98 (F + 4) 7 [some (vR 8), some (vI x1)] [] (LW W z f) = xnG call 98 F 11 [some (vR 8), some (vI x1)] [vI 11, vI (z 24)] (LW W z f) := rfl
set_option maxRecDepth 100000 in
theorem b98_8 (call : QC FA) (x y : Int32) (ls : List (Option PV)) (L : QH FA) (F : Nat) : xnG call 98 (F + 1) 11 ls [vI y, vI x] L = bif pcmp 3 x y then xnG call 98 F 20 ls [] L else xnG call 98 F 12 ls [] L := rfl
set_option maxRecDepth 100000 in
theorem b98_9 (call : QC FA) (x1 : Int32) (L : QH FA) (F : Nat) : xnG call 98 (F + 1) 20 [some (vR 8), some (vI x1)] [] L = xnG call 98 F 21 [some (vR 8), some (vI x1)] [vR 8] L := rfl
set_option maxRecDepth 100000 in
theorem b98_10 (call : QC FA) (ls : List (Option PV)) (z : Nat → Int32) (f : Nat → FA) (F : Nat) : xnG call 98 (F + 1) 21 ls [vR 8] (LW W z f) = cbd (call 99 [vR 8] (LW W z f)) (fun r L' => xnG call 98 F 22 ls (r.toList ++ []) L') := pcY (ih := xnG call 98 F) (call := call) (a := 99) (b := 0) (v := 1) (t := 22) (x := 8) (ls := ls) (As := []) (st' := []) (L := LW W z f) rfl rfl rfl
set_option maxRecDepth 100000 in
theorem b98_11 (call : QC FA) (x1 : Int32) (L : QH FA) (F : Nat) : xnG call 98 (F + 1) 22 [some (vR 8), some (vI x1)] [] L = xnG call 98 F 23 [some (vR 8), some (vI x1)] [vI x1] L := rfl
set_option maxRecDepth 100000 in
theorem b98_12 (call : QC FA) (x : Int32) (ls : List (Option PV)) (L : QH FA) (F : Nat) : xnG call 98 (F + 1) 23 ls [vI x] L = some (some (vI x), L) := rfl
set_option maxRecDepth 100000 in
theorem b98_13 (call : QC FA) (x1 : Int32) (z : Nat → Int32) (f : Nat → FA) (F : Nat) : xnG call 98 (F + 6) 12 [some (vR 8), some (vI x1)] [] (LW W z f) = xnG call 98 F 18 [some (vR 8), some (vI x1)] [vI ((z 24) + 1), vR 2] (LW W z f) := rfl
set_option maxRecDepth 100000 in
theorem b98_14 (call : QC FA) (y : Int32) (ls : List (Option PV)) (z : Nat → Int32) (f : Nat → FA) (F : Nat) : xnG call 98 (F + 1) 18 ls [vI y, vR 2] (LW W z f) = xnG call 98 F 19 ls [] (LW W (uZ z 24 y) f) := rfl
set_option maxRecDepth 100000 in
theorem b98_15 (call : QC FA) (x1 : Int32) (L : QH FA) (F : Nat) : xnG call 98 (F + 2) 19 [some (vR 8), some (vI x1)] [] L = xnG call 98 F 23 [some (vR 8), some (vI x1)] [vI x1] L := rfl
theorem vc98_0 (call : QC FA) (o1 : Option PV) (z : Nat → Int32) (f : Nat → FA) (res : Option PV × QH FA) (H : (∃ (z1 : Nat → Int32) (f1 : Nat → FA), call 100 [vR 8] (LW W z f) = some (none, LW W z1 f1) ∧ (∃ (r2 : Int32) (z2 : Nat → Int32) (f2 : Nat → FA), call 102 [vR 8] (LW W z1 f1) = some (some (vI r2), LW W z2 f2) ∧ (∃ (z3 : Nat → Int32) (f3 : Nat → FA), call 95 [vR 8] (LW W z2 f2) = some (none, LW W z3 f3) ∧ ((11 ≤ I (z3 24) → (∃ (z4 : Nat → Int32) (f4 : Nat → FA), call 99 [vR 8] (LW W z3 f3) = some (none, LW W z4 f4) ∧ res = (some (vI r2), LW W z4 f4))) ∧ (I (z3 24) < 11 → res = (some (vI r2), LW W (uZ z3 24 ((z3 24) + 1)) f3))))))) : XC call (mP 98) 0 [some (vR 8), o1] [] (LW W z f) res := by
  refine xc_b (i' := 1) (ls' := [some (vR 8), o1]) (st' := [vR 8]) (L' := LW W z f) 1 (b98_1 call o1 _) ?_
  obtain ⟨z1, f1, hc, H⟩ := H
  refine xc_call (t := 2) (ls' := [some (vR 8), o1]) (st' := []) (b98_2 call _ z f) hc ?_
  show XC call (mP 98) 2 [some (vR 8), o1] [] (LW W z1 f1) res
  refine xc_b (i' := 3) (ls' := [some (vR 8), o1]) (st' := [vR 8]) (L' := LW W z1 f1) 1 (b98_3 call o1 _) ?_
  obtain ⟨r2, z2, f2, hc, H⟩ := H
  refine xc_call (t := 4) (ls' := [some (vR 8), o1]) (st' := []) (b98_4 call _ z1 f1) hc ?_
  show XC call (mP 98) 4 [some (vR 8), o1] [vI r2] (LW W z2 f2) res
  refine xc_b (i' := 6) (ls' := [some (vR 8), some (vI r2)]) (st' := [vR 8]) (L' := LW W z2 f2) 2 (b98_5 call o1 r2 _) ?_
  obtain ⟨z3, f3, hc, H⟩ := H
  refine xc_call (t := 7) (ls' := [some (vR 8), some (vI r2)]) (st' := []) (b98_6 call _ z2 f2) hc ?_
  show XC call (mP 98) 7 [some (vR 8), some (vI r2)] [] (LW W z3 f3) res
  refine xc_b (i' := 11) (ls' := [some (vR 8), some (vI r2)]) (st' := [vI 11, vI (z3 24)]) (L' := LW W z3 f3) 4 (b98_7 call r2 z3 f3) ?_
  refine xc_if (it := 20) (ie := 12) (ls' := [some (vR 8), some (vI r2)]) (st' := []) (b98_8 call (z3 24) 11 _ _) (fun q1 => ?_) (fun q1 => ?_)
  · have H := H.1 (cI3t q1 rfl rfl)
    refine xc_b (i' := 21) (ls' := [some (vR 8), some (vI r2)]) (st' := [vR 8]) (L' := LW W z3 f3) 1 (b98_9 call r2 _) ?_
    obtain ⟨z4, f4, hc, H⟩ := H
    refine xc_call (t := 22) (ls' := [some (vR 8), some (vI r2)]) (st' := []) (b98_10 call _ z3 f3) hc ?_
    show XC call (mP 98) 22 [some (vR 8), some (vI r2)] [] (LW W z4 f4) res
    refine xc_b (i' := 23) (ls' := [some (vR 8), some (vI r2)]) (st' := [vI r2]) (L' := LW W z4 f4) 1 (b98_11 call r2 _) ?_
    subst H
    exact xc_ret (b98_12 call _ _ _)
  · have H := H.2 (cI3f q1 rfl rfl)
    refine xc_b (i' := 18) (ls' := [some (vR 8), some (vI r2)]) (st' := [vI ((z3 24) + 1), vR 2]) (L' := LW W z3 f3) 6 (b98_13 call r2 z3 f3) ?_
    refine xc_b (i' := 19) (ls' := [some (vR 8), some (vI r2)]) (st' := []) (L' := LW W (uZ z3 24 ((z3 24) + 1)) f3) 1 (b98_14 call ((z3 24) + 1) _ z3 f3) ?_
    refine xc_b (i' := 23) (ls' := [some (vR 8), some (vI r2)]) (st' := [vI r2]) (L' := LW W (uZ z3 24 ((z3 24) + 1)) f3) 2 (b98_15 call r2 _) ?_
    subst H
    exact xc_ret (b98_12 call _ _ _)
set_option maxRecDepth 100000 in
theorem b95_1 (call : QC FA) (o1 : Option PV) (L : QH FA) (F : Nat) : xnG call 95 (F + 2) 0 [some (vR 8), o1] [] L = xnG call 95 F 2 [some (vR 8), some (vI 0)] [] L := rfl
theorem vc95_0 (call : QC FA) (o1 : Option PV) (z : Nat → Int32) (f : Nat → FA) (res : Option PV × QH FA) (H : XC call (mP 95) 2 [some (vR 8), some (vI 0)] [] (LW W z f) res) : XC call (mP 95) 0 [some (vR 8), o1] [] (LW W z f) res := by
  refine xc_b (i' := 2) (ls' := [some (vR 8), some (vI 0)]) (st' := []) (L' := LW W z f) 2 (b95_1 call o1 _) ?_
  exact H
set_option maxRecDepth 100000 in
theorem bc2_95_1 (call : QC FA) (x1 : Int32) (L : QH FA) (F : Nat) : xnG call 95 (F + 2) 2 [some (vR 8), some (vI x1)] [] L = xnG call 95 F 4 [some (vR 8), some (vI x1)] [vI 144, vI x1] L := rfl
set_option maxRecDepth 100000 in
theorem bc2_95_2 (call : QC FA) (x y : Int32) (ls : List (Option PV)) (L : QH FA) (F : Nat) : xnG call 95 (F + 1) 4 ls [vI y, vI x] L = bif pcmp 3 x y then xnG call 95 F 33 ls [] L else xnG call 95 F 5 ls [] L := rfl
set_option maxRecDepth 100000 in
theorem bc2_95_3 (call : QC FA) (ls : List (Option PV)) (L : QH FA) (F : Nat) : xnG call 95 (F + 1) 33 ls [] L = some (none, L) := rfl
set_option maxRecDepth 100000 in
theorem bc2_95_4 (call : QC FA) (x1 : Int32) (z : Nat → Int32) (f : Nat → FA) (F : Nat) : xnG call 95 (F + 3) 5 [some (vR 8), some (vI x1)] [] (LW W z f) = xnG call 95 F 8 [some (vR 8), some (vI x1)] [vI x1, vR 2] (LW W z f) := rfl
set_option maxRecDepth 100000 in
theorem bc2_95_5 (call : QC FA) (a0 : Int32) (ls : List (Option PV)) (z : Nat → Int32) (f : Nat → FA) (F : Nat) : xnG call 95 (F + 1) 8 ls [vI a0, vR 2] (LW W z f) = cbd (call 6 [vR 2, vI a0] (LW W z f)) (fun r L' => xnG call 95 F 9 ls (r.toList ++ []) L') := pcY (ih := xnG call 95 F) (call := call) (a := 6) (b := 1) (v := 0) (t := 9) (x := 2) (ls := ls) (As := [vI a0]) (st' := []) (L := LW W z f) rfl rfl rfl
set_option maxRecDepth 100000 in
theorem bc2_95_6 (call : QC FA) (x : Int32) (ls : List (Option PV)) (L : QH FA) (F : Nat) : xnG call 95 (F + 1) 9 ls [vI x] L = bif pcmp 0 x 0 then xnG call 95 F 31 ls [] L else xnG call 95 F 10 ls [] L := rfl
set_option maxRecDepth 100000 in
theorem bc2_95_7 (call : QC FA) (x1 : Int32) (L : QH FA) (F : Nat) : xnG call 95 (F + 1) 31 [some (vR 8), some (vI x1)] [] L = xnG call 95 F 32 [some (vR 8), some (vI (x1 + 1))] [] L := rfl
set_option maxRecDepth 100000 in
theorem bc2_95_8 (call : QC FA) (x1 : Int32) (L : QH FA) (F : Nat) : xnG call 95 (F + 1) 32 [some (vR 8), some (vI x1)] [] L = xnG call 95 F 2 [some (vR 8), some (vI x1)] [] L := rfl
set_option maxRecDepth 100000 in
theorem bc2_95_9 (call : QC FA) (x1 : Int32) (L : QH FA) (F : Nat) : xnG call 95 (F + 3) 10 [some (vR 8), some (vI x1)] [] L = xnG call 95 F 13 [some (vR 8), some (vI x1)] [vI x1, vR 8, vR 8] L := rfl
set_option maxRecDepth 100000 in
theorem bc2_95_10 (call : QC FA) (a0 : Int32) (ls : List (Option PV)) (z : Nat → Int32) (f : Nat → FA) (F : Nat) : xnG call 95 (F + 1) 13 ls [vI a0, vR 8, vR 8] (LW W z f) = cbd (call 96 [vR 8, vI a0] (LW W z f)) (fun r L' => xnG call 95 F 14 ls (r.toList ++ [vR 8]) L') := pcY (ih := xnG call 95 F) (call := call) (a := 96) (b := 1) (v := 1) (t := 14) (x := 8) (ls := ls) (As := [vI a0]) (st' := [vR 8]) (L := LW W z f) rfl rfl rfl
set_option maxRecDepth 100000 in
theorem bc2_95_11 (call : QC FA) (a0 : Int32) (ls : List (Option PV)) (z : Nat → Int32) (f : Nat → FA) (F : Nat) : xnG call 95 (F + 1) 14 ls [vI a0, vR 8] (LW W z f) = cbd (call 93 [vR 8, vI a0] (LW W z f)) (fun r L' => xnG call 95 F 15 ls (r.toList ++ []) L') := pcY (ih := xnG call 95 F) (call := call) (a := 93) (b := 1) (v := 1) (t := 15) (x := 8) (ls := ls) (As := [vI a0]) (st' := []) (L := LW W z f) rfl rfl rfl
set_option maxRecDepth 100000 in
theorem bc2_95_12 (call : QC FA) (x : Int32) (ls : List (Option PV)) (L : QH FA) (F : Nat) : xnG call 95 (F + 1) 15 ls [vI x] L = bif pcmp 0 x 0 then xnG call 95 F 31 ls [] L else xnG call 95 F 16 ls [] L := rfl
set_option maxRecDepth 100000 in
theorem bc2_95_13 (call : QC FA) (x1 : Int32) (z : Nat → Int32) (f : Nat → FA) (F : Nat) : xnG call 95 (F + 3) 16 [some (vR 8), some (vI x1)] [] (LW W z f) = xnG call 95 F 19 [some (vR 8), some (vI x1)] [vI x1, vR 2] (LW W z f) := rfl
set_option maxRecDepth 100000 in
theorem bc2_95_14 (call : QC FA) (a0 : Int32) (ls : List (Option PV)) (z : Nat → Int32) (f : Nat → FA) (F : Nat) : xnG call 95 (F + 1) 19 ls [vI a0, vR 2] (LW W z f) = cbd (call 15 [vR 2, vI a0] (LW W z f)) (fun r L' => xnG call 95 F 20 ls (r.toList ++ []) L') := pcY (ih := xnG call 95 F) (call := call) (a := 15) (b := 1) (v := 0) (t := 20) (x := 2) (ls := ls) (As := [vI a0]) (st' := []) (L := LW W z f) rfl rfl rfl
set_option maxRecDepth 100000 in
theorem bc2_95_15 (call : QC FA) (x1 : Int32) (s0 : Int32) (L : QH FA) (F : Nat) : xnG call 95 (F + 1) 20 [some (vR 8), some (vI x1)] [vI s0] L = xnG call 95 F 21 [some (vR 8), some (vI x1)] [vI 1, vI s0] L := rfl
set_option maxRecDepth 100000 in
theorem bc2_95_16 (call : QC FA) (x y : Int32) (ls : List (Option PV)) (L : QH FA) (F : Nat) : xnG call 95 (F + 1) 21 ls [vI y, vI x] L = bif pcmp 5 x y then xnG call 95 F 27 ls [] L else xnG call 95 F 22 ls [] L := rfl
set_option maxRecDepth 100000 in
theorem bc2_95_17 (call : QC FA) (x1 : Int32) (L : QH FA) (F : Nat) : xnG call 95 (F + 3) 27 [some (vR 8), some (vI x1)] [] L = xnG call 95 F 30 [some (vR 8), some (vI x1)] [vI 2, vI x1, vR 8] L := rfl
set_option maxRecDepth 100000 in
theorem bc2_95_18 (call : QC FA) (a0 : Int32) (a1 : Int32) (ls : List (Option PV)) (z : Nat → Int32) (f : Nat → FA) (F : Nat) : xnG call 95 (F + 1) 30 ls [vI a1, vI a0, vR 8] (LW W z f) = cbd (call 101 [vR 8, vI a0, vI a1] (LW W z f)) (fun r L' => xnG call 95 F 31 ls (r.toList ++ []) L') := pcY (ih := xnG call 95 F) (call := call) (a := 101) (b := 2) (v := 1) (t := 31) (x := 8) (ls := ls) (As := [vI a0, vI a1]) (st' := []) (L := LW W z f) rfl rfl rfl
set_option maxRecDepth 100000 in
theorem bc2_95_19 (call : QC FA) (x1 : Int32) (z : Nat → Int32) (f : Nat → FA) (F : Nat) : xnG call 95 (F + 3) 22 [some (vR 8), some (vI x1)] [] (LW W z f) = xnG call 95 F 25 [some (vR 8), some (vI x1)] [vI x1, vR 2] (LW W z f) := rfl
set_option maxRecDepth 100000 in
theorem bc2_95_20 (call : QC FA) (a0 : Int32) (ls : List (Option PV)) (z : Nat → Int32) (f : Nat → FA) (F : Nat) : xnG call 95 (F + 1) 25 ls [vI a0, vR 2] (LW W z f) = cbd (call 91 [vR 2, vI a0] (LW W z f)) (fun r L' => xnG call 95 F 26 ls (r.toList ++ []) L') := pcY (ih := xnG call 95 F) (call := call) (a := 91) (b := 1) (v := 0) (t := 26) (x := 2) (ls := ls) (As := [vI a0]) (st' := []) (L := LW W z f) rfl rfl rfl
set_option maxRecDepth 100000 in
theorem bc2_95_21 (call : QC FA) (x1 : Int32) (L : QH FA) (F : Nat) : xnG call 95 (F + 1) 26 [some (vR 8), some (vI x1)] [] L = xnG call 95 F 31 [some (vR 8), some (vI x1)] [] L := rfl
theorem vcc2_95_2 (call : QC FA) (x1 : Int32) (z : Nat → Int32) (f : Nat → FA) (res : Option PV × QH FA) (H : ((144 ≤ I x1 → res = (none, LW W z f)) ∧ (I x1 < 144 → (∃ (r1 : Int32) (z1 : Nat → Int32) (f1 : Nat → FA), call 6 [vR 2, vI x1] (LW W z f) = some (some (vI r1), LW W z1 f1) ∧ ((r1 = 0 → XC call (mP 95) 2 [some (vR 8), some (vI (x1 + 1))] [] (LW W z1 f1) res) ∧ (¬ r1 = 0 → (∃ (r2 : Int32) (z2 : Nat → Int32) (f2 : Nat → FA), call 96 [vR 8, vI x1] (LW W z1 f1) = some (some (vI r2), LW W z2 f2) ∧ (∃ (r3 : Int32) (z3 : Nat → Int32) (f3 : Nat → FA), call 93 [vR 8, vI r2] (LW W z2 f2) = some (some (vI r3), LW W z3 f3) ∧ ((r3 = 0 → XC call (mP 95) 2 [some (vR 8), some (vI (x1 + 1))] [] (LW W z3 f3) res) ∧ (¬ r3 = 0 → (∃ (r4 : Int32) (z4 : Nat → Int32) (f4 : Nat → FA), call 15 [vR 2, vI x1] (LW W z3 f3) = some (some (vI r4), LW W z4 f4) ∧ ((I r4 ≤ 1 → (∃ (z5 : Nat → Int32) (f5 : Nat → FA), call 101 [vR 8, vI x1, vI 2] (LW W z4 f4) = some (none, LW W z5 f5) ∧ XC call (mP 95) 2 [some (vR 8), some (vI (x1 + 1))] [] (LW W z5 f5) res)) ∧ (1 < I r4 → (∃ (z6 : Nat → Int32) (f6 : Nat → FA), call 91 [vR 2, vI x1] (LW W z4 f4) = some (none, LW W z6 f6) ∧ XC call (mP 95) 2 [some (vR 8), some (vI (x1 + 1))] [] (LW W z6 f6) res)))))))))))))) : XC call (mP 95) 2 [some (vR 8), some (vI x1)] [] (LW W z f) res := by
  refine xc_b (i' := 4) (ls' := [some (vR 8), some (vI x1)]) (st' := [vI 144, vI x1]) (L' := LW W z f) 2 (bc2_95_1 call x1 _) ?_
  refine xc_if (it := 33) (ie := 5) (ls' := [some (vR 8), some (vI x1)]) (st' := []) (bc2_95_2 call x1 144 _ _) (fun q1 => ?_) (fun q1 => ?_)
  · have H := H.1 (cI3t q1 rfl rfl)
    subst H
    exact xc_ret (bc2_95_3 call _ _)
  · have H := H.2 (cI3f q1 rfl rfl)
    refine xc_b (i' := 8) (ls' := [some (vR 8), some (vI x1)]) (st' := [vI x1, vR 2]) (L' := LW W z f) 3 (bc2_95_4 call x1 z f) ?_
    obtain ⟨r1, z1, f1, hc, H⟩ := H
    refine xc_call (t := 9) (ls' := [some (vR 8), some (vI x1)]) (st' := []) (bc2_95_5 call x1 _ z f) hc ?_
    show XC call (mP 95) 9 [some (vR 8), some (vI x1)] [vI r1] (LW W z1 f1) res
    refine xc_if (it := 31) (ie := 10) (ls' := [some (vR 8), some (vI x1)]) (st' := []) (bc2_95_6 call r1 _ _) (fun q2 => ?_) (fun q2 => ?_)
    · have H := H.1 (cI0t q2)
      refine xc_b (i' := 32) (ls' := [some (vR 8), some (vI (x1 + 1))]) (st' := []) (L' := LW W z1 f1) 1 (bc2_95_7 call x1 _) ?_
      refine xc_b (i' := 2) (ls' := [some (vR 8), some (vI (x1 + 1))]) (st' := []) (L' := LW W z1 f1) 1 (bc2_95_8 call (x1 + 1) _) ?_
      exact H
    · have H := H.2 (cI0f q2)
      refine xc_b (i' := 13) (ls' := [some (vR 8), some (vI x1)]) (st' := [vI x1, vR 8, vR 8]) (L' := LW W z1 f1) 3 (bc2_95_9 call x1 _) ?_
      obtain ⟨r2, z2, f2, hc, H⟩ := H
      refine xc_call (t := 14) (ls' := [some (vR 8), some (vI x1)]) (st' := [vR 8]) (bc2_95_10 call x1 _ z1 f1) hc ?_
      show XC call (mP 95) 14 [some (vR 8), some (vI x1)] [vI r2, vR 8] (LW W z2 f2) res
      obtain ⟨r3, z3, f3, hc, H⟩ := H
      refine xc_call (t := 15) (ls' := [some (vR 8), some (vI x1)]) (st' := []) (bc2_95_11 call r2 _ z2 f2) hc ?_
      show XC call (mP 95) 15 [some (vR 8), some (vI x1)] [vI r3] (LW W z3 f3) res
      refine xc_if (it := 31) (ie := 16) (ls' := [some (vR 8), some (vI x1)]) (st' := []) (bc2_95_12 call r3 _ _) (fun q3 => ?_) (fun q3 => ?_)
      · have H := H.1 (cI0t q3)
        refine xc_b (i' := 32) (ls' := [some (vR 8), some (vI (x1 + 1))]) (st' := []) (L' := LW W z3 f3) 1 (bc2_95_7 call x1 _) ?_
        refine xc_b (i' := 2) (ls' := [some (vR 8), some (vI (x1 + 1))]) (st' := []) (L' := LW W z3 f3) 1 (bc2_95_8 call (x1 + 1) _) ?_
        exact H
      · have H := H.2 (cI0f q3)
        refine xc_b (i' := 19) (ls' := [some (vR 8), some (vI x1)]) (st' := [vI x1, vR 2]) (L' := LW W z3 f3) 3 (bc2_95_13 call x1 z3 f3) ?_
        obtain ⟨r4, z4, f4, hc, H⟩ := H
        refine xc_call (t := 20) (ls' := [some (vR 8), some (vI x1)]) (st' := []) (bc2_95_14 call x1 _ z3 f3) hc ?_
        show XC call (mP 95) 20 [some (vR 8), some (vI x1)] [vI r4] (LW W z4 f4) res
        refine xc_b (i' := 21) (ls' := [some (vR 8), some (vI x1)]) (st' := [vI 1, vI r4]) (L' := LW W z4 f4) 1 (bc2_95_15 call x1 r4 _) ?_
        refine xc_if (it := 27) (ie := 22) (ls' := [some (vR 8), some (vI x1)]) (st' := []) (bc2_95_16 call r4 1 _ _) (fun q4 => ?_) (fun q4 => ?_)
        · have H := H.1 (cI5t q4 rfl rfl)
          refine xc_b (i' := 30) (ls' := [some (vR 8), some (vI x1)]) (st' := [vI 2, vI x1, vR 8]) (L' := LW W z4 f4) 3 (bc2_95_17 call x1 _) ?_
          obtain ⟨z5, f5, hc, H⟩ := H
          refine xc_call (t := 31) (ls' := [some (vR 8), some (vI x1)]) (st' := []) (bc2_95_18 call x1 2 _ z4 f4) hc ?_
          show XC call (mP 95) 31 [some (vR 8), some (vI x1)] [] (LW W z5 f5) res
          refine xc_b (i' := 32) (ls' := [some (vR 8), some (vI (x1 + 1))]) (st' := []) (L' := LW W z5 f5) 1 (bc2_95_7 call x1 _) ?_
          refine xc_b (i' := 2) (ls' := [some (vR 8), some (vI (x1 + 1))]) (st' := []) (L' := LW W z5 f5) 1 (bc2_95_8 call (x1 + 1) _) ?_
          exact H
        · have H := H.2 (cI5f q4 rfl rfl)
          refine xc_b (i' := 25) (ls' := [some (vR 8), some (vI x1)]) (st' := [vI x1, vR 2]) (L' := LW W z4 f4) 3 (bc2_95_19 call x1 z4 f4) ?_
          obtain ⟨z6, f6, hc, H⟩ := H
          refine xc_call (t := 26) (ls' := [some (vR 8), some (vI x1)]) (st' := []) (bc2_95_20 call x1 _ z4 f4) hc ?_
          show XC call (mP 95) 26 [some (vR 8), some (vI x1)] [] (LW W z6 f6) res
          refine xc_b (i' := 31) (ls' := [some (vR 8), some (vI x1)]) (st' := []) (L' := LW W z6 f6) 1 (bc2_95_21 call x1 _) ?_
          refine xc_b (i' := 32) (ls' := [some (vR 8), some (vI (x1 + 1))]) (st' := []) (L' := LW W z6 f6) 1 (bc2_95_7 call x1 _) ?_
          refine xc_b (i' := 2) (ls' := [some (vR 8), some (vI (x1 + 1))]) (st' := []) (L' := LW W z6 f6) 1 (bc2_95_8 call (x1 + 1) _) ?_
          exact H
set_option maxRecDepth 100000 in
theorem b99_1 (call : QC FA) (o1 : Option PV) (L : QH FA) (F : Nat) : xnG call 99 (F + 1) 0 [some (vR 8), o1] [] L = xnG call 99 F 1 [some (vR 8), o1] [vR 8] L := rfl
set_option maxRecDepth 100000 in
theorem b99_2 (call : QC FA) (ls : List (Option PV)) (z : Nat → Int32) (f : Nat → FA) (F : Nat) : xnG call 99 (F + 1) 1 ls [vR 8] (LW W z f) = cbd (call 5 [vR 8] (LW W z f)) (fun r L' => xnG call 99 F 2 ls (r.toList ++ []) L') := pcY (ih := xnG call 99 F) (call := call) (a := 5) (b := 0) (v := 1) (t := 2) (x := 8) (ls := ls) (As := []) (st' := []) (L := LW W z f) rfl rfl rfl
set_option maxRecDepth 100000 in
theorem b99_3 (call : QC FA) (o1 : Option PV) (s0 : Int32) (L : QH FA) (F : Nat) : xnG call 99 (F + 2) 2 [some (vR 8), o1] [vI s0] L = xnG call 99 F 4 [some (vR 8), some (vI s0)] [vI s0] L := rfl
set_option maxRecDepth 100000 in
theorem b99_4 (call : QC FA) (x : Int32) (ls : List (Option PV)) (L : QH FA) (F : Nat) : xnG call 99 (F + 1) 4 ls [vI x] L = bif pcmp 5 x 0 then xnG call 99 F 13 ls [] L else xnG call 99 F 5 ls [] L := rfl
set_option maxRecDepth 100000 in
theorem b99_5 (call : QC FA) (x1 : Int32) (z : Nat → Int32) (f : Nat → FA) (F : Nat) : xnG call 99 (F + 6) 13 [some (vR 8), some (vI x1)] [] (LW W z f) = xnG call 99 F 19 [some (vR 8), some (vI x1)] [vI ((z 27) + 1), vR 2] (LW W z f) := rfl
set_option maxRecDepth 100000 in
theorem b99_6 (call : QC FA) (y : Int32) (ls : List (Option PV)) (z : Nat → Int32) (f : Nat → FA) (F : Nat) : xnG call 99 (F + 1) 19 ls [vI y, vR 2] (LW W z f) = xnG call 99 F 20 ls [] (LW W (uZ z 27 y) f) := rfl
set_option maxRecDepth 100000 in
theorem b99_7 (call : QC FA) (x1 : Int32) (L : QH FA) (F : Nat) : xnG call 99 (F + 4) 20 [some (vR 8), some (vI x1)] [] L = xnG call 99 F 24 [some (vR 8), some (vI x1)] [vI x1, vI ((-1)), vI 4, vR 8] L := rfl
set_option maxRecDepth 100000 in
theorem b99_8 (call : QC FA) (a0 : Int32) (a1 : Int32) (a2 : Int32) (ls : List (Option PV)) (z : Nat → Int32) (f : Nat → FA) (F : Nat) : xnG call 99 (F + 1) 24 ls [vI a2, vI a1, vI a0, vR 8] (LW W z f) = cbd (call 97 [vR 8, vI a0, vI a1, vI a2] (LW W z f)) (fun r L' => xnG call 99 F 25 ls (r.toList ++ []) L') := pcY (ih := xnG call 99 F) (call := call) (a := 97) (b := 3) (v := 1) (t := 25) (x := 8) (ls := ls) (As := [vI a0, vI a1, vI a2]) (st' := []) (L := LW W z f) rfl rfl rfl
set_option maxRecDepth 100000 in
theorem b99_9 (call : QC FA) (x1 : Int32) (z : Nat → Int32) (f : Nat → FA) (F : Nat) : xnG call 99 (F + 2) 25 [some (vR 8), some (vI x1)] [] (LW W z f) = xnG call 99 F 27 [some (vR 8), some (vI x1)] [vR 2] (LW W z f) := rfl
set_option maxRecDepth 100000 in
theorem b99_10 (call : QC FA) (ls : List (Option PV)) (z : Nat → Int32) (f : Nat → FA) (F : Nat) : xnG call 99 (F + 1) 27 ls [vR 2] (LW W z f) = cbd (call 88 [vR 2] (LW W z f)) (fun r L' => xnG call 99 F 28 ls (r.toList ++ []) L') := pcY (ih := xnG call 99 F) (call := call) (a := 88) (b := 0) (v := 0) (t := 28) (x := 2) (ls := ls) (As := []) (st' := []) (L := LW W z f) rfl rfl rfl
set_option maxRecDepth 100000 in
theorem b99_11 (call : QC FA) (x1 : Int32) (z : Nat → Int32) (f : Nat → FA) (F : Nat) : xnG call 99 (F + 3) 28 [some (vR 8), some (vI x1)] [] (LW W z f) = xnG call 99 F 31 [some (vR 8), some (vI x1)] [vI 0, vR 2] (LW W z f) := rfl
set_option maxRecDepth 100000 in
theorem b99_12 (call : QC FA) (y : Int32) (ls : List (Option PV)) (z : Nat → Int32) (f : Nat → FA) (F : Nat) : xnG call 99 (F + 1) 31 ls [vI y, vR 2] (LW W z f) = xnG call 99 F 32 ls [] (LW W (uZ z 24 y) f) := rfl
set_option maxRecDepth 100000 in
theorem b99_13 (call : QC FA) (x1 : Int32) (z : Nat → Int32) (f : Nat → FA) (F : Nat) : xnG call 99 (F + 6) 32 [some (vR 8), some (vI x1)] [] (LW W z f) = xnG call 99 F 38 [some (vR 8), some (vI x1)] [vI ((z 25) + 1), vR 2] (LW W z f) := rfl
set_option maxRecDepth 100000 in
theorem b99_14 (call : QC FA) (y : Int32) (ls : List (Option PV)) (z : Nat → Int32) (f : Nat → FA) (F : Nat) : xnG call 99 (F + 1) 38 ls [vI y, vR 2] (LW W z f) = xnG call 99 F 39 ls [] (LW W (uZ z 25 y) f) := rfl
set_option maxRecDepth 100000 in
theorem b99_15 (call : QC FA) (ls : List (Option PV)) (L : QH FA) (F : Nat) : xnG call 99 (F + 1) 39 ls [] L = some (none, L) := rfl
set_option maxRecDepth 100000 in
theorem b99_16 (call : QC FA) (x1 : Int32) (z : Nat → Int32) (f : Nat → FA) (F : Nat) : xnG call 99 (F + 6) 5 [some (vR 8), some (vI x1)] [] (LW W z f) = xnG call 99 F 11 [some (vR 8), some (vI x1)] [vI ((z 26) + 1), vR 2] (LW W z f) := rfl
set_option maxRecDepth 100000 in
theorem b99_17 (call : QC FA) (y : Int32) (ls : List (Option PV)) (z : Nat → Int32) (f : Nat → FA) (F : Nat) : xnG call 99 (F + 1) 11 ls [vI y, vR 2] (LW W z f) = xnG call 99 F 12 ls [] (LW W (uZ z 26 y) f) := rfl
set_option maxRecDepth 100000 in
theorem b99_18 (call : QC FA) (x1 : Int32) (L : QH FA) (F : Nat) : xnG call 99 (F + 5) 12 [some (vR 8), some (vI x1)] [] L = xnG call 99 F 24 [some (vR 8), some (vI x1)] [vI x1, vI ((-1)), vI 4, vR 8] L := rfl
theorem vc99_0 (call : QC FA) (o1 : Option PV) (z : Nat → Int32) (f : Nat → FA) (res : Option PV × QH FA) (H : (∃ (r1 : Int32) (z1 : Nat → Int32) (f1 : Nat → FA), call 5 [vR 8] (LW W z f) = some (some (vI r1), LW W z1 f1) ∧ ((I r1 ≤ 0 → (∃ (z2 : Nat → Int32) (f2 : Nat → FA), call 97 [vR 8, vI 4, vI ((-1)), vI r1] (LW W (uZ z1 27 ((z1 27) + 1)) f1) = some (none, LW W z2 f2) ∧ (∃ (z3 : Nat → Int32) (f3 : Nat → FA), call 88 [vR 2] (LW W z2 f2) = some (none, LW W z3 f3) ∧ res = (none, LW W (uZ (uZ z3 24 0) 25 ((z3 25) + 1)) f3)))) ∧ (0 < I r1 → (∃ (z4 : Nat → Int32) (f4 : Nat → FA), call 97 [vR 8, vI 4, vI ((-1)), vI r1] (LW W (uZ z1 26 ((z1 26) + 1)) f1) = some (none, LW W z4 f4) ∧ (∃ (z5 : Nat → Int32) (f5 : Nat → FA), call 88 [vR 2] (LW W z4 f4) = some (none, LW W z5 f5) ∧ res = (none, LW W (uZ (uZ z5 24 0) 25 ((z5 25) + 1)) f5))))))) : XC call (mP 99) 0 [some (vR 8), o1] [] (LW W z f) res := by
  refine xc_b (i' := 1) (ls' := [some (vR 8), o1]) (st' := [vR 8]) (L' := LW W z f) 1 (b99_1 call o1 _) ?_
  obtain ⟨r1, z1, f1, hc, H⟩ := H
  refine xc_call (t := 2) (ls' := [some (vR 8), o1]) (st' := []) (b99_2 call _ z f) hc ?_
  show XC call (mP 99) 2 [some (vR 8), o1] [vI r1] (LW W z1 f1) res
  refine xc_b (i' := 4) (ls' := [some (vR 8), some (vI r1)]) (st' := [vI r1]) (L' := LW W z1 f1) 2 (b99_3 call o1 r1 _) ?_
  refine xc_if (it := 13) (ie := 5) (ls' := [some (vR 8), some (vI r1)]) (st' := []) (b99_4 call r1 _ _) (fun q1 => ?_) (fun q1 => ?_)
  · have H := H.1 (cI5t q1 rfl rfl)
    refine xc_b (i' := 19) (ls' := [some (vR 8), some (vI r1)]) (st' := [vI ((z1 27) + 1), vR 2]) (L' := LW W z1 f1) 6 (b99_5 call r1 z1 f1) ?_
    refine xc_b (i' := 20) (ls' := [some (vR 8), some (vI r1)]) (st' := []) (L' := LW W (uZ z1 27 ((z1 27) + 1)) f1) 1 (b99_6 call ((z1 27) + 1) _ z1 f1) ?_
    refine xc_b (i' := 24) (ls' := [some (vR 8), some (vI r1)]) (st' := [vI r1, vI ((-1)), vI 4, vR 8]) (L' := LW W (uZ z1 27 ((z1 27) + 1)) f1) 4 (b99_7 call r1 _) ?_
    obtain ⟨z2, f2, hc, H⟩ := H
    refine xc_call (t := 25) (ls' := [some (vR 8), some (vI r1)]) (st' := []) (b99_8 call 4 ((-1)) r1 _ (uZ z1 27 ((z1 27) + 1)) f1) hc ?_
    show XC call (mP 99) 25 [some (vR 8), some (vI r1)] [] (LW W z2 f2) res
    refine xc_b (i' := 27) (ls' := [some (vR 8), some (vI r1)]) (st' := [vR 2]) (L' := LW W z2 f2) 2 (b99_9 call r1 z2 f2) ?_
    obtain ⟨z3, f3, hc, H⟩ := H
    refine xc_call (t := 28) (ls' := [some (vR 8), some (vI r1)]) (st' := []) (b99_10 call _ z2 f2) hc ?_
    show XC call (mP 99) 28 [some (vR 8), some (vI r1)] [] (LW W z3 f3) res
    refine xc_b (i' := 31) (ls' := [some (vR 8), some (vI r1)]) (st' := [vI 0, vR 2]) (L' := LW W z3 f3) 3 (b99_11 call r1 z3 f3) ?_
    refine xc_b (i' := 32) (ls' := [some (vR 8), some (vI r1)]) (st' := []) (L' := LW W (uZ z3 24 0) f3) 1 (b99_12 call 0 _ z3 f3) ?_
    refine xc_b (i' := 38) (ls' := [some (vR 8), some (vI r1)]) (st' := [vI ((z3 25) + 1), vR 2]) (L' := LW W (uZ z3 24 0) f3) 6 (b99_13 call r1 (uZ z3 24 0) f3) ?_
    refine xc_b (i' := 39) (ls' := [some (vR 8), some (vI r1)]) (st' := []) (L' := LW W (uZ (uZ z3 24 0) 25 ((z3 25) + 1)) f3) 1 (b99_14 call ((z3 25) + 1) _ (uZ z3 24 0) f3) ?_
    subst H
    exact xc_ret (b99_15 call _ _)
  · have H := H.2 (cI5f q1 rfl rfl)
    refine xc_b (i' := 11) (ls' := [some (vR 8), some (vI r1)]) (st' := [vI ((z1 26) + 1), vR 2]) (L' := LW W z1 f1) 6 (b99_16 call r1 z1 f1) ?_
    refine xc_b (i' := 12) (ls' := [some (vR 8), some (vI r1)]) (st' := []) (L' := LW W (uZ z1 26 ((z1 26) + 1)) f1) 1 (b99_17 call ((z1 26) + 1) _ z1 f1) ?_
    refine xc_b (i' := 24) (ls' := [some (vR 8), some (vI r1)]) (st' := [vI r1, vI ((-1)), vI 4, vR 8]) (L' := LW W (uZ z1 26 ((z1 26) + 1)) f1) 5 (b99_18 call r1 _) ?_
    obtain ⟨z4, f4, hc, H⟩ := H
    refine xc_call (t := 25) (ls' := [some (vR 8), some (vI r1)]) (st' := []) (b99_8 call 4 ((-1)) r1 _ (uZ z1 26 ((z1 26) + 1)) f1) hc ?_
    show XC call (mP 99) 25 [some (vR 8), some (vI r1)] [] (LW W z4 f4) res
    refine xc_b (i' := 27) (ls' := [some (vR 8), some (vI r1)]) (st' := [vR 2]) (L' := LW W z4 f4) 2 (b99_9 call r1 z4 f4) ?_
    obtain ⟨z5, f5, hc, H⟩ := H
    refine xc_call (t := 28) (ls' := [some (vR 8), some (vI r1)]) (st' := []) (b99_10 call _ z4 f4) hc ?_
    show XC call (mP 99) 28 [some (vR 8), some (vI r1)] [] (LW W z5 f5) res
    refine xc_b (i' := 31) (ls' := [some (vR 8), some (vI r1)]) (st' := [vI 0, vR 2]) (L' := LW W z5 f5) 3 (b99_11 call r1 z5 f5) ?_
    refine xc_b (i' := 32) (ls' := [some (vR 8), some (vI r1)]) (st' := []) (L' := LW W (uZ z5 24 0) f5) 1 (b99_12 call 0 _ z5 f5) ?_
    refine xc_b (i' := 38) (ls' := [some (vR 8), some (vI r1)]) (st' := [vI ((z5 25) + 1), vR 2]) (L' := LW W (uZ z5 24 0) f5) 6 (b99_13 call r1 (uZ z5 24 0) f5) ?_
    refine xc_b (i' := 39) (ls' := [some (vR 8), some (vI r1)]) (st' := []) (L' := LW W (uZ (uZ z5 24 0) 25 ((z5 25) + 1)) f5) 1 (b99_14 call ((z5 25) + 1) _ (uZ z5 24 0) f5) ?_
    subst H
    exact xc_ret (b99_15 call _ _)
set_option maxRecDepth 100000 in
theorem b93_1 (call : QC FA) (x1 : Int32) (z : Nat → Int32) (f : Nat → FA) (F : Nat) : xnG call 93 (F + 2) 0 [some (vR 8), some (vI x1)] [] (LW W z f) = xnG call 93 F 2 [some (vR 8), some (vI x1)] [vR 5] (LW W z f) := rfl
set_option maxRecDepth 100000 in
theorem b93_2 (call : QC FA) (ls : List (Option PV)) (L : QH FA) (F : Nat) : xnG call 93 (F + 1) 2 ls [vR 5] L = xnG call 93 F 10 ls [] L := rfl
set_option maxRecDepth 100000 in
theorem b93_3 (call : QC FA) (x1 : Int32) (L : QH FA) (F : Nat) : xnG call 93 (F + 1) 10 [some (vR 8), some (vI x1)] [] L = xnG call 93 F 11 [some (vR 8), some (vI x1)] [vI x1] L := rfl
set_option maxRecDepth 100000 in
theorem b93_4 (call : QC FA) (x : Int32) (ls : List (Option PV)) (L : QH FA) (F : Nat) : xnG call 93 (F + 1) 11 ls [vI x] L = bif pcmp 5 x 0 then xnG call 93 F 19 ls [] L else xnG call 93 F 12 ls [] L := rfl
set_option maxRecDepth 100000 in
theorem b93_5 (call : QC FA) (x1 : Int32) (L : QH FA) (F : Nat) : xnG call 93 (F + 1) 19 [some (vR 8), some (vI x1)] [] L = xnG call 93 F 20 [some (vR 8), some (vI x1)] [vI 0] L := rfl
set_option maxRecDepth 100000 in
theorem b93_6 (call : QC FA) (ls : List (Option PV)) (L : QH FA) (F : Nat) : xnG call 93 (F + 1) 20 ls [vI 0] L = some (some (vI 0), L) := rfl
set_option maxRecDepth 100000 in
theorem b93_7 (call : QC FA) (x1 : Int32) (z : Nat → Int32) (f : Nat → FA) (F : Nat) : xnG call 93 (F + 2) 12 [some (vR 8), some (vI x1)] [] (LW W z f) = xnG call 93 F 14 [some (vR 8), some (vI x1)] [vR 2] (LW W z f) := rfl
set_option maxRecDepth 100000 in
theorem b93_8 (call : QC FA) (ls : List (Option PV)) (z : Nat → Int32) (f : Nat → FA) (F : Nat) : xnG call 93 (F + 1) 14 ls [vR 2] (LW W z f) = cbd (call 83 [vR 2] (LW W z f)) (fun r L' => xnG call 93 F 15 ls (r.toList ++ []) L') := pcY (ih := xnG call 93 F) (call := call) (a := 83) (b := 0) (v := 0) (t := 15) (x := 2) (ls := ls) (As := []) (st' := []) (L := LW W z f) rfl rfl rfl
set_option maxRecDepth 100000 in
theorem b93_9 (call : QC FA) (x1 : Int32) (s0 : Int32) (L : QH FA) (F : Nat) : xnG call 93 (F + 1) 15 [some (vR 8), some (vI x1)] [vI s0] L = xnG call 93 F 16 [some (vR 8), some (vI x1)] [vI x1, vI s0] L := rfl
set_option maxRecDepth 100000 in
theorem b93_10 (call : QC FA) (x y : Int32) (ls : List (Option PV)) (L : QH FA) (F : Nat) : xnG call 93 (F + 1) 16 ls [vI y, vI x] L = bif pcmp 3 x y then xnG call 93 F 19 ls [] L else xnG call 93 F 17 ls [] L := rfl
set_option maxRecDepth 100000 in
theorem b93_11 (call : QC FA) (x1 : Int32) (L : QH FA) (F : Nat) : xnG call 93 (F + 2) 17 [some (vR 8), some (vI x1)] [] L = xnG call 93 F 20 [some (vR 8), some (vI x1)] [vI 1] L := rfl
set_option maxRecDepth 100000 in
theorem b93_12 (call : QC FA) (ls : List (Option PV)) (L : QH FA) (F : Nat) : xnG call 93 (F + 1) 20 ls [vI 1] L = some (some (vI 1), L) := rfl
theorem vc93_0 (call : QC FA) (x1 : Int32) (z : Nat → Int32) (f : Nat → FA) (res : Option PV × QH FA) (H : ((I x1 ≤ 0 → res = (some (vI 0), LW W z f)) ∧ (0 < I x1 → (∃ (r1 : Int32) (z1 : Nat → Int32) (f1 : Nat → FA), call 83 [vR 2] (LW W z f) = some (some (vI r1), LW W z1 f1) ∧ ((I x1 ≤ I r1 → res = (some (vI 0), LW W z1 f1)) ∧ (I r1 < I x1 → res = (some (vI 1), LW W z1 f1))))))) : XC call (mP 93) 0 [some (vR 8), some (vI x1)] [] (LW W z f) res := by
  refine xc_b (i' := 2) (ls' := [some (vR 8), some (vI x1)]) (st' := [vR 5]) (L' := LW W z f) 2 (b93_1 call x1 z f) ?_
  refine xc_b (i' := 10) (ls' := [some (vR 8), some (vI x1)]) (st' := []) (L' := LW W z f) 1 (b93_2 call _ _) ?_
  refine xc_b (i' := 11) (ls' := [some (vR 8), some (vI x1)]) (st' := [vI x1]) (L' := LW W z f) 1 (b93_3 call x1 _) ?_
  refine xc_if (it := 19) (ie := 12) (ls' := [some (vR 8), some (vI x1)]) (st' := []) (b93_4 call x1 _ _) (fun q1 => ?_) (fun q1 => ?_)
  · have H := H.1 (cI5t q1 rfl rfl)
    refine xc_b (i' := 20) (ls' := [some (vR 8), some (vI x1)]) (st' := [vI 0]) (L' := LW W z f) 1 (b93_5 call x1 _) ?_
    subst H
    exact xc_ret (b93_6 call _ _)
  · have H := H.2 (cI5f q1 rfl rfl)
    refine xc_b (i' := 14) (ls' := [some (vR 8), some (vI x1)]) (st' := [vR 2]) (L' := LW W z f) 2 (b93_7 call x1 z f) ?_
    obtain ⟨r1, z1, f1, hc, H⟩ := H
    refine xc_call (t := 15) (ls' := [some (vR 8), some (vI x1)]) (st' := []) (b93_8 call _ z f) hc ?_
    show XC call (mP 93) 15 [some (vR 8), some (vI x1)] [vI r1] (LW W z1 f1) res
    refine xc_b (i' := 16) (ls' := [some (vR 8), some (vI x1)]) (st' := [vI x1, vI r1]) (L' := LW W z1 f1) 1 (b93_9 call x1 r1 _) ?_
    refine xc_if (it := 19) (ie := 17) (ls' := [some (vR 8), some (vI x1)]) (st' := []) (b93_10 call r1 x1 _ _) (fun q2 => ?_) (fun q2 => ?_)
    · have H := H.1 (cI3t q2 rfl rfl)
      refine xc_b (i' := 20) (ls' := [some (vR 8), some (vI x1)]) (st' := [vI 0]) (L' := LW W z1 f1) 1 (b93_5 call x1 _) ?_
      subst H
      exact xc_ret (b93_6 call _ _)
    · have H := H.2 (cI3f q2 rfl rfl)
      refine xc_b (i' := 20) (ls' := [some (vR 8), some (vI x1)]) (st' := [vI 1]) (L' := LW W z1 f1) 2 (b93_11 call x1 _) ?_
      subst H
      exact xc_ret (b93_12 call _ _)
set_option maxRecDepth 100000 in
theorem b94_1 (call : QC FA) (x1 : Int32) (x2 : Int32) (o3 : Option PV) (o4 : Option PV) (o5 : Option PV) (o6 : Option PV) (o7 : Option PV) (z : Nat → Int32) (f : Nat → FA) (F : Nat) : xnG call 94 (F + 4) 0 [some (vR 8), some (vI x1), some (vI x2), o3, o4, o5, o6, o7] [] (LW W z f) = xnG call 94 F 4 [some (vR 8), some (vI x1), some (vI x2), o3, o4, o5, o6, o7] [vI 2, vI x1, vR 2] (LW W z f) := rfl
set_option maxRecDepth 100000 in
theorem b94_2 (call : QC FA) (a0 : Int32) (a1 : Int32) (ls : List (Option PV)) (z : Nat → Int32) (f : Nat → FA) (F : Nat) : xnG call 94 (F + 1) 4 ls [vI a1, vI a0, vR 2] (LW W z f) = cbd (call 13 [vR 2, vI a0, vI a1] (LW W z f)) (fun r L' => xnG call 94 F 5 ls (r.toList ++ []) L') := pcY (ih := xnG call 94 F) (call := call) (a := 13) (b := 2) (v := 0) (t := 5) (x := 2) (ls := ls) (As := [vI a0, vI a1]) (st' := []) (L := LW W z f) rfl rfl rfl
set_option maxRecDepth 100000 in
theorem b94_3 (call : QC FA) (x1 : Int32) (x2 : Int32) (o3 : Option PV) (o4 : Option PV) (o5 : Option PV) (o6 : Option PV) (o7 : Option PV) (s0 : Int32) (L : QH FA) (F : Nat) : xnG call 94 (F + 3) 5 [some (vR 8), some (vI x1), some (vI x2), o3, o4, o5, o6, o7] [vI s0] L = xnG call 94 F 8 [some (vR 8), some (vI x1), some (vI x2), some (vI s0), some (vI 0), o5, o6, o7] [] L := rfl
theorem vc94_0 (call : QC FA) (x1 : Int32) (x2 : Int32) (o3 : Option PV) (o4 : Option PV) (o5 : Option PV) (o6 : Option PV) (o7 : Option PV) (z : Nat → Int32) (f : Nat → FA) (res : Option PV × QH FA) (H : (∃ (r1 : Int32) (z1 : Nat → Int32) (f1 : Nat → FA), call 13 [vR 2, vI x1, vI 2] (LW W z f) = some (some (vI r1), LW W z1 f1) ∧ XC call (mP 94) 8 [some (vR 8), some (vI x1), some (vI x2), some (vI r1), some (vI 0), o5, o6, o7] [] (LW W z1 f1) res)) : XC call (mP 94) 0 [some (vR 8), some (vI x1), some (vI x2), o3, o4, o5, o6, o7] [] (LW W z f) res := by
  refine xc_b (i' := 4) (ls' := [some (vR 8), some (vI x1), some (vI x2), o3, o4, o5, o6, o7]) (st' := [vI 2, vI x1, vR 2]) (L' := LW W z f) 4 (b94_1 call x1 x2 o3 o4 o5 o6 o7 z f) ?_
  obtain ⟨r1, z1, f1, hc, H⟩ := H
  refine xc_call (t := 5) (ls' := [some (vR 8), some (vI x1), some (vI x2), o3, o4, o5, o6, o7]) (st' := []) (b94_2 call x1 2 _ z f) hc ?_
  show XC call (mP 94) 5 [some (vR 8), some (vI x1), some (vI x2), o3, o4, o5, o6, o7] [vI r1] (LW W z1 f1) res
  refine xc_b (i' := 8) (ls' := [some (vR 8), some (vI x1), some (vI x2), some (vI r1), some (vI 0), o5, o6, o7]) (st' := []) (L' := LW W z1 f1) 3 (b94_3 call x1 x2 o3 o4 o5 o6 o7 r1 _) ?_
  exact H
set_option maxRecDepth 100000 in
theorem bc8_94_1 (call : QC FA) (x1 : Int32) (x2 : Int32) (x3 : Int32) (x4 : Int32) (o5 : Option PV) (o6 : Option PV) (o7 : Option PV) (L : QH FA) (F : Nat) : xnG call 94 (F + 2) 8 [some (vR 8), some (vI x1), some (vI x2), some (vI x3), some (vI x4), o5, o6, o7] [] L = xnG call 94 F 10 [some (vR 8), some (vI x1), some (vI x2), some (vI x3), some (vI x4), o5, o6, o7] [vI x3, vI x4] L := rfl
set_option maxRecDepth 100000 in
theorem bc8_94_2 (call : QC FA) (x y : Int32) (ls : List (Option PV)) (L : QH FA) (F : Nat) : xnG call 94 (F + 1) 10 ls [vI y, vI x] L = bif pcmp 3 x y then xnG call 94 F 25 ls [] L else xnG call 94 F 11 ls [] L := rfl
set_option maxRecDepth 100000 in
theorem bc8_94_3 (call : QC FA) (x1 : Int32) (x2 : Int32) (x3 : Int32) (x4 : Int32) (o5 : Option PV) (o6 : Option PV) (o7 : Option PV) (z : Nat → Int32) (f : Nat → FA) (F : Nat) : xnG call 94 (F + 9) 25 [some (vR 8), some (vI x1), some (vI x2), some (vI x3), some (vI x4), o5, o6, o7] [] (LW W z f) = xnG call 94 F 34 [some (vR 8), some (vI x1), some (vI x2), some (vI x3), some (vI x4), some (vI ((x4 * 12) + x2)), o6, o7] [vI ((x4 * 12) + x2), vR 2] (LW W z f) := rfl
set_option maxRecDepth 100000 in
theorem bc8_94_4 (call : QC FA) (a0 : Int32) (ls : List (Option PV)) (z : Nat → Int32) (f : Nat → FA) (F : Nat) : xnG call 94 (F + 1) 34 ls [vI a0, vR 2] (LW W z f) = cbd (call 6 [vR 2, vI a0] (LW W z f)) (fun r L' => xnG call 94 F 35 ls (r.toList ++ []) L') := pcY (ih := xnG call 94 F) (call := call) (a := 6) (b := 1) (v := 0) (t := 35) (x := 2) (ls := ls) (As := [vI a0]) (st' := []) (L := LW W z f) rfl rfl rfl
set_option maxRecDepth 100000 in
theorem bc8_94_5 (call : QC FA) (x : Int32) (ls : List (Option PV)) (L : QH FA) (F : Nat) : xnG call 94 (F + 1) 35 ls [vI x] L = bif pcmp 0 x 0 then xnG call 94 F 38 ls [] L else xnG call 94 F 36 ls [] L := rfl
set_option maxRecDepth 100000 in
theorem bc8_94_6 (call : QC FA) (x1 : Int32) (x2 : Int32) (x3 : Int32) (x4 : Int32) (x5 : Int32) (o6 : Option PV) (o7 : Option PV) (z : Nat → Int32) (f : Nat → FA) (F : Nat) : xnG call 94 (F + 7) 38 [some (vR 8), some (vI x1), some (vI x2), some (vI x3), some (vI x4), some (vI x5), o6, o7] [] (LW W z f) = xnG call 94 F 45 [some (vR 8), some (vI x1), some (vI x2), some (vI x3), some (vI x4), some (vI x5), some (vI 0), o7] [vI 3, vI x1, vR 2, vI 1] (LW W z f) := rfl
set_option maxRecDepth 100000 in
theorem bc8_94_7 (call : QC FA) (a0 : Int32) (a1 : Int32) (s0 : Int32) (ls : List (Option PV)) (z : Nat → Int32) (f : Nat → FA) (F : Nat) : xnG call 94 (F + 1) 45 ls [vI a1, vI a0, vR 2, vI s0] (LW W z f) = cbd (call 13 [vR 2, vI a0, vI a1] (LW W z f)) (fun r L' => xnG call 94 F 46 ls (r.toList ++ [vI s0]) L') := pcY (ih := xnG call 94 F) (call := call) (a := 13) (b := 2) (v := 0) (t := 46) (x := 2) (ls := ls) (As := [vI a0, vI a1]) (st' := [vI s0]) (L := LW W z f) rfl rfl rfl
set_option maxRecDepth 100000 in
theorem bc8_94_8 (call : QC FA) (x1 : Int32) (x2 : Int32) (x3 : Int32) (x4 : Int32) (x5 : Int32) (x6 : Int32) (o7 : Option PV) (s0 : Int32) (s1 : Int32) (L : QH FA) (F : Nat) : xnG call 94 (F + 1) 46 [some (vR 8), some (vI x1), some (vI x2), some (vI x3), some (vI x4), some (vI x5), some (vI x6), o7] [vI s0, vI s1] L = xnG call 94 F 47 [some (vR 8), some (vI x1), some (vI x2), some (vI x3), some (vI x4), some (vI x5), some (vI x6), o7] [vI 2, vI s0, vI s1] L := rfl
set_option maxRecDepth 100000 in
theorem bc8_94_9 (call : QC FA) (x y : Int32) (s0 : Int32) (ls : List (Option PV)) (L : QH FA) (F : Nat) : xnG call 94 (F + 1) 47 ls [vI y, vI x, vI s0] L = bif pcmp 1 y 0 then xnG call 94 F 48 ls [vI (x / y), vI s0] L else none := rfl
set_option maxRecDepth 100000 in
theorem bc8_94_10 (call : QC FA) (x1 : Int32) (x2 : Int32) (x3 : Int32) (x4 : Int32) (x5 : Int32) (x6 : Int32) (o7 : Option PV) (s0 : Int32) (s1 : Int32) (L : QH FA) (F : Nat) : xnG call 94 (F + 2) 48 [some (vR 8), some (vI x1), some (vI x2), some (vI x3), some (vI x4), some (vI x5), some (vI x6), o7] [vI s0, vI s1] L = xnG call 94 F 50 [some (vR 8), some (vI x1), some (vI x2), some (vI x3), some (vI x4), some (vI x5), some (vI x6), o7] [vI 9, vI (s1 + s0)] L := rfl
set_option maxRecDepth 100000 in
theorem bc8_94_11 (call : QC FA) (x y : Int32) (ls : List (Option PV)) (L : QH FA) (F : Nat) : xnG call 94 (F + 1) 50 ls [vI y, vI x] L = bif pcmp 2 y x then xnG call 94 F 51 ls [vI y] L else xnG call 94 F 51 ls [vI x] L := pmn (xnG call 94 F) 51 x y ls [] L rfl
set_option maxRecDepth 100000 in
theorem bc8_94_12 (call : QC FA) (x1 : Int32) (x2 : Int32) (x3 : Int32) (x4 : Int32) (x5 : Int32) (x6 : Int32) (o7 : Option PV) (s0 : Int32) (z : Nat → Int32) (f : Nat → FA) (F : Nat) : xnG call 94 (F + 9) 51 [some (vR 8), some (vI x1), some (vI x2), some (vI x3), some (vI x4), some (vI x5), some (vI x6), o7] [vI s0] (LW W z f) = xnG call 94 F 60 [some (vR 8), some (vI x1), some (vI x2), some (vI x3), some (vI x4), some (vI x5), some (vI x6), some (vI s0)] [vI 1, vI x1, vR 2, vI x1, vI x5, vR 2] (LW W z f) := rfl
set_option maxRecDepth 100000 in
theorem bc8_94_13 (call : QC FA) (a0 : Int32) (a1 : Int32) (s0 : Int32) (s1 : Int32) (ls : List (Option PV)) (z : Nat → Int32) (f : Nat → FA) (F : Nat) : xnG call 94 (F + 1) 60 ls [vI a1, vI a0, vR 2, vI s0, vI s1, vR 2] (LW W z f) = cbd (call 13 [vR 2, vI a0, vI a1] (LW W z f)) (fun r L' => xnG call 94 F 61 ls (r.toList ++ [vI s0, vI s1, vR 2]) L') := pcY (ih := xnG call 94 F) (call := call) (a := 13) (b := 2) (v := 0) (t := 61) (x := 2) (ls := ls) (As := [vI a0, vI a1]) (st' := [vI s0, vI s1, vR 2]) (L := LW W z f) rfl rfl rfl
set_option maxRecDepth 100000 in
theorem bc8_94_14 (call : QC FA) (x1 : Int32) (x2 : Int32) (x3 : Int32) (x4 : Int32) (x5 : Int32) (x6 : Int32) (x7 : Int32) (s0 : Int32) (s1 : Int32) (s2 : Int32) (L : QH FA) (F : Nat) : xnG call 94 (F + 1) 61 [some (vR 8), some (vI x1), some (vI x2), some (vI x3), some (vI x4), some (vI x5), some (vI x6), some (vI x7)] [vI s0, vI s1, vI s2, vR 2] L = xnG call 94 F 62 [some (vR 8), some (vI x1), some (vI x2), some (vI x3), some (vI x4), some (vI x5), some (vI x6), some (vI x7)] [vI x7, vI s0, vI s1, vI s2, vR 2] L := rfl
set_option maxRecDepth 100000 in
theorem bc8_94_15 (call : QC FA) (a0 : Int32) (a1 : Int32) (a2 : Int32) (a3 : Int32) (ls : List (Option PV)) (z : Nat → Int32) (f : Nat → FA) (F : Nat) : xnG call 94 (F + 1) 62 ls [vI a3, vI a2, vI a1, vI a0, vR 2] (LW W z f) = cbd (call 86 [vR 2, vI a0, vI a1, vI a2, vI a3] (LW W z f)) (fun r L' => xnG call 94 F 63 ls (r.toList ++ []) L') := pcY (ih := xnG call 94 F) (call := call) (a := 86) (b := 4) (v := 0) (t := 63) (x := 2) (ls := ls) (As := [vI a0, vI a1, vI a2, vI a3]) (st' := []) (L := LW W z f) rfl rfl rfl
set_option maxRecDepth 100000 in
theorem bc8_94_16 (call : QC FA) (x1 : Int32) (x2 : Int32) (x3 : Int32) (x4 : Int32) (x5 : Int32) (x6 : Int32) (x7 : Int32) (z : Nat → Int32) (f : Nat → FA) (F : Nat) : xnG call 94 (F + 8) 63 [some (vR 8), some (vI x1), some (vI x2), some (vI x3), some (vI x4), some (vI x5), some (vI x6), some (vI x7)] [] (LW W z f) = xnG call 94 F 71 [some (vR 8), some (vI x1), some (vI x2), some (vI x3), some (vI x4), some (vI x5), some (vI x6), some (vI x7)] [vI 5, vI x1, vR 2, vI 5, vI x1, vR 2] (LW W z f) := rfl
set_option maxRecDepth 100000 in
theorem bc8_94_17 (call : QC FA) (a0 : Int32) (a1 : Int32) (s0 : Int32) (s1 : Int32) (ls : List (Option PV)) (z : Nat → Int32) (f : Nat → FA) (F : Nat) : xnG call 94 (F + 1) 71 ls [vI a1, vI a0, vR 2, vI s0, vI s1, vR 2] (LW W z f) = cbd (call 13 [vR 2, vI a0, vI a1] (LW W z f)) (fun r L' => xnG call 94 F 72 ls (r.toList ++ [vI s0, vI s1, vR 2]) L') := pcY (ih := xnG call 94 F) (call := call) (a := 13) (b := 2) (v := 0) (t := 72) (x := 2) (ls := ls) (As := [vI a0, vI a1]) (st' := [vI s0, vI s1, vR 2]) (L := LW W z f) rfl rfl rfl
set_option maxRecDepth 100000 in
theorem bc8_94_18 (call : QC FA) (x1 : Int32) (x2 : Int32) (x3 : Int32) (x4 : Int32) (x5 : Int32) (x6 : Int32) (x7 : Int32) (s0 : Int32) (s1 : Int32) (s2 : Int32) (L : QH FA) (F : Nat) : xnG call 94 (F + 2) 72 [some (vR 8), some (vI x1), some (vI x2), some (vI x3), some (vI x4), some (vI x5), some (vI x6), some (vI x7)] [vI s0, vI s1, vI s2, vR 2] L = xnG call 94 F 74 [some (vR 8), some (vI x1), some (vI x2), some (vI x3), some (vI x4), some (vI x5), some (vI x6), some (vI x7)] [vI (s0 + 1), vI s1, vI s2, vR 2] L := rfl
set_option maxRecDepth 100000 in
theorem bc8_94_19 (call : QC FA) (a0 : Int32) (a1 : Int32) (a2 : Int32) (ls : List (Option PV)) (z : Nat → Int32) (f : Nat → FA) (F : Nat) : xnG call 94 (F + 1) 74 ls [vI a2, vI a1, vI a0, vR 2] (LW W z f) = cbd (call 87 [vR 2, vI a0, vI a1, vI a2] (LW W z f)) (fun r L' => xnG call 94 F 75 ls (r.toList ++ []) L') := pcY (ih := xnG call 94 F) (call := call) (a := 87) (b := 3) (v := 0) (t := 75) (x := 2) (ls := ls) (As := [vI a0, vI a1, vI a2]) (st' := []) (L := LW W z f) rfl rfl rfl
set_option maxRecDepth 100000 in
theorem bc8_94_20 (call : QC FA) (x1 : Int32) (x2 : Int32) (x3 : Int32) (x4 : Int32) (x5 : Int32) (x6 : Int32) (x7 : Int32) (L : QH FA) (F : Nat) : xnG call 94 (F + 4) 75 [some (vR 8), some (vI x1), some (vI x2), some (vI x3), some (vI x4), some (vI x5), some (vI x6), some (vI x7)] [] L = xnG call 94 F 79 [some (vR 8), some (vI x1), some (vI x2), some (vI x3), some (vI x4), some (vI x5), some (vI x6), some (vI x7)] [vI x5, vI x1, vI x6, vR 8] L := rfl
set_option maxRecDepth 100000 in
theorem bc8_94_21 (call : QC FA) (a0 : Int32) (a1 : Int32) (a2 : Int32) (ls : List (Option PV)) (z : Nat → Int32) (f : Nat → FA) (F : Nat) : xnG call 94 (F + 1) 79 ls [vI a2, vI a1, vI a0, vR 8] (LW W z f) = cbd (call 97 [vR 8, vI a0, vI a1, vI a2] (LW W z f)) (fun r L' => xnG call 94 F 80 ls (r.toList ++ []) L') := pcY (ih := xnG call 94 F) (call := call) (a := 97) (b := 3) (v := 1) (t := 80) (x := 8) (ls := ls) (As := [vI a0, vI a1, vI a2]) (st' := []) (L := LW W z f) rfl rfl rfl
set_option maxRecDepth 100000 in
theorem bc8_94_22 (call : QC FA) (x1 : Int32) (x2 : Int32) (x3 : Int32) (x4 : Int32) (x5 : Int32) (x6 : Int32) (x7 : Int32) (L : QH FA) (F : Nat) : xnG call 94 (F + 1) 80 [some (vR 8), some (vI x1), some (vI x2), some (vI x3), some (vI x4), some (vI x5), some (vI x6), some (vI x7)] [] L = xnG call 94 F 81 [some (vR 8), some (vI x1), some (vI x2), some (vI x3), some (vI x4), some (vI x5), some (vI x6), some (vI x7)] [vI x5] L := rfl
set_option maxRecDepth 100000 in
theorem bc8_94_23 (call : QC FA) (x : Int32) (ls : List (Option PV)) (L : QH FA) (F : Nat) : xnG call 94 (F + 1) 81 ls [vI x] L = some (some (vI x), L) := rfl
set_option maxRecDepth 100000 in
theorem bc8_94_24 (call : QC FA) (x1 : Int32) (x2 : Int32) (x3 : Int32) (x4 : Int32) (x5 : Int32) (o6 : Option PV) (o7 : Option PV) (z : Nat → Int32) (f : Nat → FA) (F : Nat) : xnG call 94 (F + 8) 36 [some (vR 8), some (vI x1), some (vI x2), some (vI x3), some (vI x4), some (vI x5), o6, o7] [] (LW W z f) = xnG call 94 F 45 [some (vR 8), some (vI x1), some (vI x2), some (vI x3), some (vI x4), some (vI x5), some (vI 1), o7] [vI 3, vI x1, vR 2, vI 1] (LW W z f) := rfl
set_option maxRecDepth 100000 in
theorem bc8_94_25 (call : QC FA) (x1 : Int32) (x2 : Int32) (x3 : Int32) (x4 : Int32) (o5 : Option PV) (o6 : Option PV) (o7 : Option PV) (L : QH FA) (F : Nat) : xnG call 94 (F + 2) 11 [some (vR 8), some (vI x1), some (vI x2), some (vI x3), some (vI x4), o5, o6, o7] [] L = xnG call 94 F 13 [some (vR 8), some (vI x1), some (vI x2), some (vI x3), some (vI x4), o5, o6, o7] [vI 11, vI x4] L := rfl
set_option maxRecDepth 100000 in
theorem bc8_94_26 (call : QC FA) (x y : Int32) (ls : List (Option PV)) (L : QH FA) (F : Nat) : xnG call 94 (F + 1) 13 ls [vI y, vI x] L = bif pcmp 3 x y then xnG call 94 F 25 ls [] L else xnG call 94 F 14 ls [] L := rfl
set_option maxRecDepth 100000 in
theorem bc8_94_27 (call : QC FA) (x1 : Int32) (x2 : Int32) (x3 : Int32) (x4 : Int32) (o5 : Option PV) (o6 : Option PV) (o7 : Option PV) (z : Nat → Int32) (f : Nat → FA) (F : Nat) : xnG call 94 (F + 7) 14 [some (vR 8), some (vI x1), some (vI x2), some (vI x3), some (vI x4), o5, o6, o7] [] (LW W z f) = xnG call 94 F 21 [some (vR 8), some (vI x1), some (vI x2), some (vI x3), some (vI x4), o5, o6, o7] [vI ((x4 * 12) + x2), vR 2] (LW W z f) := rfl
set_option maxRecDepth 100000 in
theorem bc8_94_28 (call : QC FA) (a0 : Int32) (ls : List (Option PV)) (z : Nat → Int32) (f : Nat → FA) (F : Nat) : xnG call 94 (F + 1) 21 ls [vI a0, vR 2] (LW W z f) = cbd (call 6 [vR 2, vI a0] (LW W z f)) (fun r L' => xnG call 94 F 22 ls (r.toList ++ []) L') := pcY (ih := xnG call 94 F) (call := call) (a := 6) (b := 1) (v := 0) (t := 22) (x := 2) (ls := ls) (As := [vI a0]) (st' := []) (L := LW W z f) rfl rfl rfl
set_option maxRecDepth 100000 in
theorem bc8_94_29 (call : QC FA) (x : Int32) (ls : List (Option PV)) (L : QH FA) (F : Nat) : xnG call 94 (F + 1) 22 ls [vI x] L = bif pcmp 0 x 0 then xnG call 94 F 25 ls [] L else xnG call 94 F 23 ls [] L := rfl
set_option maxRecDepth 100000 in
theorem bc8_94_30 (call : QC FA) (x1 : Int32) (x2 : Int32) (x3 : Int32) (x4 : Int32) (o5 : Option PV) (o6 : Option PV) (o7 : Option PV) (L : QH FA) (F : Nat) : xnG call 94 (F + 1) 23 [some (vR 8), some (vI x1), some (vI x2), some (vI x3), some (vI x4), o5, o6, o7] [] L = xnG call 94 F 24 [some (vR 8), some (vI x1), some (vI x2), some (vI x3), some (vI (x4 + 1)), o5, o6, o7] [] L := rfl
set_option maxRecDepth 100000 in
theorem bc8_94_31 (call : QC FA) (x1 : Int32) (x2 : Int32) (x3 : Int32) (x4 : Int32) (o5 : Option PV) (o6 : Option PV) (o7 : Option PV) (L : QH FA) (F : Nat) : xnG call 94 (F + 1) 24 [some (vR 8), some (vI x1), some (vI x2), some (vI x3), some (vI x4), o5, o6, o7] [] L = xnG call 94 F 8 [some (vR 8), some (vI x1), some (vI x2), some (vI x3), some (vI x4), o5, o6, o7] [] L := rfl
theorem vcc8_94_8 (call : QC FA) (x1 : Int32) (x2 : Int32) (x3 : Int32) (x4 : Int32) (o5 : Option PV) (o6 : Option PV) (o7 : Option PV) (z : Nat → Int32) (f : Nat → FA) (res : Option PV × QH FA) (H : ((I x3 ≤ I x4 → (∃ (r1 : Int32) (z1 : Nat → Int32) (f1 : Nat → FA), call 6 [vR 2, vI ((x4 * 12) + x2)] (LW W z f) = some (some (vI r1), LW W z1 f1) ∧ ((r1 = 0 → (∃ (r2 : Int32) (z2 : Nat → Int32) (f2 : Nat → FA), call 13 [vR 2, vI x1, vI 3] (LW W z1 f1) = some (some (vI r2), LW W z2 f2) ∧ (¬ (2 : Int32) = 0 ∧ ((9 < I (1 + (r2 / 2)) → (∃ (r3 : Int32) (z3 : Nat → Int32) (f3 : Nat → FA), call 13 [vR 2, vI x1, vI 1] (LW W z2 f2) = some (some (vI r3), LW W z3 f3) ∧ (∃ (z4 : Nat → Int32) (f4 : Nat → FA), call 86 [vR 2, vI ((x4 * 12) + x2), vI x1, vI r3, vI 9] (LW W z3 f3) = some (none, LW W z4 f4) ∧ (∃ (r5 : Int32) (z5 : Nat → Int32) (f5 : Nat → FA), call 13 [vR 2, vI x1, vI 5] (LW W z4 f4) = some (some (vI r5), LW W z5 f5) ∧ (∃ (z6 : Nat → Int32) (f6 : Nat → FA), call 87 [vR 2, vI x1, vI 5, vI (r5 + 1)] (LW W z5 f5) = some (none, LW W z6 f6) ∧ (∃ (z7 : Nat → Int32) (f7 : Nat → FA), call 97 [vR 8, vI 0, vI x1, vI ((x4 * 12) + x2)] (LW W z6 f6) = some (none, LW W z7 f7) ∧ res = (some (vI ((x4 * 12) + x2)), LW W z7 f7))))))) ∧ (I (1 + (r2 / 2)) ≤ 9 → (∃ (r8 : Int32) (z8 : Nat → Int32) (f8 : Nat → FA), call 13 [vR 2, vI x1, vI 1] (LW W z2 f2) = some (some (vI r8), LW W z8 f8) ∧ (∃ (z9 : Nat → Int32) (f9 : Nat → FA), call 86 [vR 2, vI ((x4 * 12) + x2), vI x1, vI r8, vI (1 + (r2 / 2))] (LW W z8 f8) = some (none, LW W z9 f9) ∧ (∃ (r10 : Int32) (z10 : Nat → Int32) (f10 : Nat → FA), call 13 [vR 2, vI x1, vI 5] (LW W z9 f9) = some (some (vI r10), LW W z10 f10) ∧ (∃ (z11 : Nat → Int32) (f11 : Nat → FA), call 87 [vR 2, vI x1, vI 5, vI (r10 + 1)] (LW W z10 f10) = some (none, LW W z11 f11) ∧ (∃ (z12 : Nat → Int32) (f12 : Nat → FA), call 97 [vR 8, vI 0, vI x1, vI ((x4 * 12) + x2)] (LW W z11 f11) = some (none, LW W z12 f12) ∧ res = (some (vI ((x4 * 12) + x2)), LW W z12 f12))))))))))) ∧ (¬ r1 = 0 → (∃ (r13 : Int32) (z13 : Nat → Int32) (f13 : Nat → FA), call 13 [vR 2, vI x1, vI 3] (LW W z1 f1) = some (some (vI r13), LW W z13 f13) ∧ (¬ (2 : Int32) = 0 ∧ ((9 < I (1 + (r13 / 2)) → (∃ (r14 : Int32) (z14 : Nat → Int32) (f14 : Nat → FA), call 13 [vR 2, vI x1, vI 1] (LW W z13 f13) = some (some (vI r14), LW W z14 f14) ∧ (∃ (z15 : Nat → Int32) (f15 : Nat → FA), call 86 [vR 2, vI ((x4 * 12) + x2), vI x1, vI r14, vI 9] (LW W z14 f14) = some (none, LW W z15 f15) ∧ (∃ (r16 : Int32) (z16 : Nat → Int32) (f16 : Nat → FA), call 13 [vR 2, vI x1, vI 5] (LW W z15 f15) = some (some (vI r16), LW W z16 f16) ∧ (∃ (z17 : Nat → Int32) (f17 : Nat → FA), call 87 [vR 2, vI x1, vI 5, vI (r16 + 1)] (LW W z16 f16) = some (none, LW W z17 f17) ∧ (∃ (z18 : Nat → Int32) (f18 : Nat → FA), call 97 [vR 8, vI 1, vI x1, vI ((x4 * 12) + x2)] (LW W z17 f17) = some (none, LW W z18 f18) ∧ res = (some (vI ((x4 * 12) + x2)), LW W z18 f18))))))) ∧ (I (1 + (r13 / 2)) ≤ 9 → (∃ (r19 : Int32) (z19 : Nat → Int32) (f19 : Nat → FA), call 13 [vR 2, vI x1, vI 1] (LW W z13 f13) = some (some (vI r19), LW W z19 f19) ∧ (∃ (z20 : Nat → Int32) (f20 : Nat → FA), call 86 [vR 2, vI ((x4 * 12) + x2), vI x1, vI r19, vI (1 + (r13 / 2))] (LW W z19 f19) = some (none, LW W z20 f20) ∧ (∃ (r21 : Int32) (z21 : Nat → Int32) (f21 : Nat → FA), call 13 [vR 2, vI x1, vI 5] (LW W z20 f20) = some (some (vI r21), LW W z21 f21) ∧ (∃ (z22 : Nat → Int32) (f22 : Nat → FA), call 87 [vR 2, vI x1, vI 5, vI (r21 + 1)] (LW W z21 f21) = some (none, LW W z22 f22) ∧ (∃ (z23 : Nat → Int32) (f23 : Nat → FA), call 97 [vR 8, vI 1, vI x1, vI ((x4 * 12) + x2)] (LW W z22 f22) = some (none, LW W z23 f23) ∧ res = (some (vI ((x4 * 12) + x2)), LW W z23 f23)))))))))))))) ∧ (I x4 < I x3 → ((11 ≤ I x4 → (∃ (r24 : Int32) (z24 : Nat → Int32) (f24 : Nat → FA), call 6 [vR 2, vI ((x4 * 12) + x2)] (LW W z f) = some (some (vI r24), LW W z24 f24) ∧ ((r24 = 0 → (∃ (r25 : Int32) (z25 : Nat → Int32) (f25 : Nat → FA), call 13 [vR 2, vI x1, vI 3] (LW W z24 f24) = some (some (vI r25), LW W z25 f25) ∧ (¬ (2 : Int32) = 0 ∧ ((9 < I (1 + (r25 / 2)) → (∃ (r26 : Int32) (z26 : Nat → Int32) (f26 : Nat → FA), call 13 [vR 2, vI x1, vI 1] (LW W z25 f25) = some (some (vI r26), LW W z26 f26) ∧ (∃ (z27 : Nat → Int32) (f27 : Nat → FA), call 86 [vR 2, vI ((x4 * 12) + x2), vI x1, vI r26, vI 9] (LW W z26 f26) = some (none, LW W z27 f27) ∧ (∃ (r28 : Int32) (z28 : Nat → Int32) (f28 : Nat → FA), call 13 [vR 2, vI x1, vI 5] (LW W z27 f27) = some (some (vI r28), LW W z28 f28) ∧ (∃ (z29 : Nat → Int32) (f29 : Nat → FA), call 87 [vR 2, vI x1, vI 5, vI (r28 + 1)] (LW W z28 f28) = some (none, LW W z29 f29) ∧ (∃ (z30 : Nat → Int32) (f30 : Nat → FA), call 97 [vR 8, vI 0, vI x1, vI ((x4 * 12) + x2)] (LW W z29 f29) = some (none, LW W z30 f30) ∧ res = (some (vI ((x4 * 12) + x2)), LW W z30 f30))))))) ∧ (I (1 + (r25 / 2)) ≤ 9 → (∃ (r31 : Int32) (z31 : Nat → Int32) (f31 : Nat → FA), call 13 [vR 2, vI x1, vI 1] (LW W z25 f25) = some (some (vI r31), LW W z31 f31) ∧ (∃ (z32 : Nat → Int32) (f32 : Nat → FA), call 86 [vR 2, vI ((x4 * 12) + x2), vI x1, vI r31, vI (1 + (r25 / 2))] (LW W z31 f31) = some (none, LW W z32 f32) ∧ (∃ (r33 : Int32) (z33 : Nat → Int32) (f33 : Nat → FA), call 13 [vR 2, vI x1, vI 5] (LW W z32 f32) = some (some (vI r33), LW W z33 f33) ∧ (∃ (z34 : Nat → Int32) (f34 : Nat → FA), call 87 [vR 2, vI x1, vI 5, vI (r33 + 1)] (LW W z33 f33) = some (none, LW W z34 f34) ∧ (∃ (z35 : Nat → Int32) (f35 : Nat → FA), call 97 [vR 8, vI 0, vI x1, vI ((x4 * 12) + x2)] (LW W z34 f34) = some (none, LW W z35 f35) ∧ res = (some (vI ((x4 * 12) + x2)), LW W z35 f35))))))))))) ∧ (¬ r24 = 0 → (∃ (r36 : Int32) (z36 : Nat → Int32) (f36 : Nat → FA), call 13 [vR 2, vI x1, vI 3] (LW W z24 f24) = some (some (vI r36), LW W z36 f36) ∧ (¬ (2 : Int32) = 0 ∧ ((9 < I (1 + (r36 / 2)) → (∃ (r37 : Int32) (z37 : Nat → Int32) (f37 : Nat → FA), call 13 [vR 2, vI x1, vI 1] (LW W z36 f36) = some (some (vI r37), LW W z37 f37) ∧ (∃ (z38 : Nat → Int32) (f38 : Nat → FA), call 86 [vR 2, vI ((x4 * 12) + x2), vI x1, vI r37, vI 9] (LW W z37 f37) = some (none, LW W z38 f38) ∧ (∃ (r39 : Int32) (z39 : Nat → Int32) (f39 : Nat → FA), call 13 [vR 2, vI x1, vI 5] (LW W z38 f38) = some (some (vI r39), LW W z39 f39) ∧ (∃ (z40 : Nat → Int32) (f40 : Nat → FA), call 87 [vR 2, vI x1, vI 5, vI (r39 + 1)] (LW W z39 f39) = some (none, LW W z40 f40) ∧ (∃ (z41 : Nat → Int32) (f41 : Nat → FA), call 97 [vR 8, vI 1, vI x1, vI ((x4 * 12) + x2)] (LW W z40 f40) = some (none, LW W z41 f41) ∧ res = (some (vI ((x4 * 12) + x2)), LW W z41 f41))))))) ∧ (I (1 + (r36 / 2)) ≤ 9 → (∃ (r42 : Int32) (z42 : Nat → Int32) (f42 : Nat → FA), call 13 [vR 2, vI x1, vI 1] (LW W z36 f36) = some (some (vI r42), LW W z42 f42) ∧ (∃ (z43 : Nat → Int32) (f43 : Nat → FA), call 86 [vR 2, vI ((x4 * 12) + x2), vI x1, vI r42, vI (1 + (r36 / 2))] (LW W z42 f42) = some (none, LW W z43 f43) ∧ (∃ (r44 : Int32) (z44 : Nat → Int32) (f44 : Nat → FA), call 13 [vR 2, vI x1, vI 5] (LW W z43 f43) = some (some (vI r44), LW W z44 f44) ∧ (∃ (z45 : Nat → Int32) (f45 : Nat → FA), call 87 [vR 2, vI x1, vI 5, vI (r44 + 1)] (LW W z44 f44) = some (none, LW W z45 f45) ∧ (∃ (z46 : Nat → Int32) (f46 : Nat → FA), call 97 [vR 8, vI 1, vI x1, vI ((x4 * 12) + x2)] (LW W z45 f45) = some (none, LW W z46 f46) ∧ res = (some (vI ((x4 * 12) + x2)), LW W z46 f46)))))))))))))) ∧ (I x4 < 11 → (∃ (r47 : Int32) (z47 : Nat → Int32) (f47 : Nat → FA), call 6 [vR 2, vI ((x4 * 12) + x2)] (LW W z f) = some (some (vI r47), LW W z47 f47) ∧ ((r47 = 0 → (∃ (r48 : Int32) (z48 : Nat → Int32) (f48 : Nat → FA), call 6 [vR 2, vI ((x4 * 12) + x2)] (LW W z47 f47) = some (some (vI r48), LW W z48 f48) ∧ ((r48 = 0 → (∃ (r49 : Int32) (z49 : Nat → Int32) (f49 : Nat → FA), call 13 [vR 2, vI x1, vI 3] (LW W z48 f48) = some (some (vI r49), LW W z49 f49) ∧ (¬ (2 : Int32) = 0 ∧ ((9 < I (1 + (r49 / 2)) → (∃ (r50 : Int32) (z50 : Nat → Int32) (f50 : Nat → FA), call 13 [vR 2, vI x1, vI 1] (LW W z49 f49) = some (some (vI r50), LW W z50 f50) ∧ (∃ (z51 : Nat → Int32) (f51 : Nat → FA), call 86 [vR 2, vI ((x4 * 12) + x2), vI x1, vI r50, vI 9] (LW W z50 f50) = some (none, LW W z51 f51) ∧ (∃ (r52 : Int32) (z52 : Nat → Int32) (f52 : Nat → FA), call 13 [vR 2, vI x1, vI 5] (LW W z51 f51) = some (some (vI r52), LW W z52 f52) ∧ (∃ (z53 : Nat → Int32) (f53 : Nat → FA), call 87 [vR 2, vI x1, vI 5, vI (r52 + 1)] (LW W z52 f52) = some (none, LW W z53 f53) ∧ (∃ (z54 : Nat → Int32) (f54 : Nat → FA), call 97 [vR 8, vI 0, vI x1, vI ((x4 * 12) + x2)] (LW W z53 f53) = some (none, LW W z54 f54) ∧ res = (some (vI ((x4 * 12) + x2)), LW W z54 f54))))))) ∧ (I (1 + (r49 / 2)) ≤ 9 → (∃ (r55 : Int32) (z55 : Nat → Int32) (f55 : Nat → FA), call 13 [vR 2, vI x1, vI 1] (LW W z49 f49) = some (some (vI r55), LW W z55 f55) ∧ (∃ (z56 : Nat → Int32) (f56 : Nat → FA), call 86 [vR 2, vI ((x4 * 12) + x2), vI x1, vI r55, vI (1 + (r49 / 2))] (LW W z55 f55) = some (none, LW W z56 f56) ∧ (∃ (r57 : Int32) (z57 : Nat → Int32) (f57 : Nat → FA), call 13 [vR 2, vI x1, vI 5] (LW W z56 f56) = some (some (vI r57), LW W z57 f57) ∧ (∃ (z58 : Nat → Int32) (f58 : Nat → FA), call 87 [vR 2, vI x1, vI 5, vI (r57 + 1)] (LW W z57 f57) = some (none, LW W z58 f58) ∧ (∃ (z59 : Nat → Int32) (f59 : Nat → FA), call 97 [vR 8, vI 0, vI x1, vI ((x4 * 12) + x2)] (LW W z58 f58) = some (none, LW W z59 f59) ∧ res = (some (vI ((x4 * 12) + x2)), LW W z59 f59))))))))))) ∧ (¬ r48 = 0 → (∃ (r60 : Int32) (z60 : Nat → Int32) (f60 : Nat → FA), call 13 [vR 2, vI x1, vI 3] (LW W z48 f48) = some (some (vI r60), LW W z60 f60) ∧ (¬ (2 : Int32) = 0 ∧ ((9 < I (1 + (r60 / 2)) → (∃ (r61 : Int32) (z61 : Nat → Int32) (f61 : Nat → FA), call 13 [vR 2, vI x1, vI 1] (LW W z60 f60) = some (some (vI r61), LW W z61 f61) ∧ (∃ (z62 : Nat → Int32) (f62 : Nat → FA), call 86 [vR 2, vI ((x4 * 12) + x2), vI x1, vI r61, vI 9] (LW W z61 f61) = some (none, LW W z62 f62) ∧ (∃ (r63 : Int32) (z63 : Nat → Int32) (f63 : Nat → FA), call 13 [vR 2, vI x1, vI 5] (LW W z62 f62) = some (some (vI r63), LW W z63 f63) ∧ (∃ (z64 : Nat → Int32) (f64 : Nat → FA), call 87 [vR 2, vI x1, vI 5, vI (r63 + 1)] (LW W z63 f63) = some (none, LW W z64 f64) ∧ (∃ (z65 : Nat → Int32) (f65 : Nat → FA), call 97 [vR 8, vI 1, vI x1, vI ((x4 * 12) + x2)] (LW W z64 f64) = some (none, LW W z65 f65) ∧ res = (some (vI ((x4 * 12) + x2)), LW W z65 f65))))))) ∧ (I (1 + (r60 / 2)) ≤ 9 → (∃ (r66 : Int32) (z66 : Nat → Int32) (f66 : Nat → FA), call 13 [vR 2, vI x1, vI 1] (LW W z60 f60) = some (some (vI r66), LW W z66 f66) ∧ (∃ (z67 : Nat → Int32) (f67 : Nat → FA), call 86 [vR 2, vI ((x4 * 12) + x2), vI x1, vI r66, vI (1 + (r60 / 2))] (LW W z66 f66) = some (none, LW W z67 f67) ∧ (∃ (r68 : Int32) (z68 : Nat → Int32) (f68 : Nat → FA), call 13 [vR 2, vI x1, vI 5] (LW W z67 f67) = some (some (vI r68), LW W z68 f68) ∧ (∃ (z69 : Nat → Int32) (f69 : Nat → FA), call 87 [vR 2, vI x1, vI 5, vI (r68 + 1)] (LW W z68 f68) = some (none, LW W z69 f69) ∧ (∃ (z70 : Nat → Int32) (f70 : Nat → FA), call 97 [vR 8, vI 1, vI x1, vI ((x4 * 12) + x2)] (LW W z69 f69) = some (none, LW W z70 f70) ∧ res = (some (vI ((x4 * 12) + x2)), LW W z70 f70)))))))))))))) ∧ (¬ r47 = 0 → XC call (mP 94) 8 [some (vR 8), some (vI x1), some (vI x2), some (vI x3), some (vI (x4 + 1)), o5, o6, o7] [] (LW W z47 f47) res)))))))) : XC call (mP 94) 8 [some (vR 8), some (vI x1), some (vI x2), some (vI x3), some (vI x4), o5, o6, o7] [] (LW W z f) res := by
  refine xc_b (i' := 10) (ls' := [some (vR 8), some (vI x1), some (vI x2), some (vI x3), some (vI x4), o5, o6, o7]) (st' := [vI x3, vI x4]) (L' := LW W z f) 2 (bc8_94_1 call x1 x2 x3 x4 o5 o6 o7 _) ?_
  refine xc_if (it := 25) (ie := 11) (ls' := [some (vR 8), some (vI x1), some (vI x2), some (vI x3), some (vI x4), o5, o6, o7]) (st' := []) (bc8_94_2 call x4 x3 _ _) (fun q1 => ?_) (fun q1 => ?_)
  · have H := H.1 (cI3t q1 rfl rfl)
    refine xc_b (i' := 34) (ls' := [some (vR 8), some (vI x1), some (vI x2), some (vI x3), some (vI x4), some (vI ((x4 * 12) + x2)), o6, o7]) (st' := [vI ((x4 * 12) + x2), vR 2]) (L' := LW W z f) 9 (bc8_94_3 call x1 x2 x3 x4 o5 o6 o7 z f) ?_
    obtain ⟨r1, z1, f1, hc, H⟩ := H
    refine xc_call (t := 35) (ls' := [some (vR 8), some (vI x1), some (vI x2), some (vI x3), some (vI x4), some (vI ((x4 * 12) + x2)), o6, o7]) (st' := []) (bc8_94_4 call ((x4 * 12) + x2) _ z f) hc ?_
    show XC call (mP 94) 35 [some (vR 8), some (vI x1), some (vI x2), some (vI x3), some (vI x4), some (vI ((x4 * 12) + x2)), o6, o7] [vI r1] (LW W z1 f1) res
    refine xc_if (it := 38) (ie := 36) (ls' := [some (vR 8), some (vI x1), some (vI x2), some (vI x3), some (vI x4), some (vI ((x4 * 12) + x2)), o6, o7]) (st' := []) (bc8_94_5 call r1 _ _) (fun q2 => ?_) (fun q2 => ?_)
    · have H := H.1 (cI0t q2)
      refine xc_b (i' := 45) (ls' := [some (vR 8), some (vI x1), some (vI x2), some (vI x3), some (vI x4), some (vI ((x4 * 12) + x2)), some (vI 0), o7]) (st' := [vI 3, vI x1, vR 2, vI 1]) (L' := LW W z1 f1) 7 (bc8_94_6 call x1 x2 x3 x4 ((x4 * 12) + x2) o6 o7 z1 f1) ?_
      obtain ⟨r2, z2, f2, hc, H⟩ := H
      refine xc_call (t := 46) (ls' := [some (vR 8), some (vI x1), some (vI x2), some (vI x3), some (vI x4), some (vI ((x4 * 12) + x2)), some (vI 0), o7]) (st' := [vI 1]) (bc8_94_7 call x1 3 1 _ z1 f1) hc ?_
      show XC call (mP 94) 46 [some (vR 8), some (vI x1), some (vI x2), some (vI x3), some (vI x4), some (vI ((x4 * 12) + x2)), some (vI 0), o7] [vI r2, vI 1] (LW W z2 f2) res
      refine xc_b (i' := 47) (ls' := [some (vR 8), some (vI x1), some (vI x2), some (vI x3), some (vI x4), some (vI ((x4 * 12) + x2)), some (vI 0), o7]) (st' := [vI 2, vI r2, vI 1]) (L' := LW W z2 f2) 1 (bc8_94_8 call x1 x2 x3 x4 ((x4 * 12) + x2) 0 o7 r2 1 _) ?_
      obtain ⟨g1, H⟩ := H
      refine xc_g (i' := 48) (ls' := [some (vR 8), some (vI x1), some (vI x2), some (vI x3), some (vI x4), some (vI ((x4 * 12) + x2)), some (vI 0), o7]) (st' := [vI (r2 / 2), vI 1]) (L' := LW W z2 f2) (bc8_94_9 call r2 2 1 _ _) (cmp_ne.trans (decide_eq_true g1)) ?_
      refine xc_b (i' := 50) (ls' := [some (vR 8), some (vI x1), some (vI x2), some (vI x3), some (vI x4), some (vI ((x4 * 12) + x2)), some (vI 0), o7]) (st' := [vI 9, vI (1 + (r2 / 2))]) (L' := LW W z2 f2) 2 (bc8_94_10 call x1 x2 x3 x4 ((x4 * 12) + x2) 0 o7 (r2 / 2) 1 _) ?_
      refine xc_if2 (it := 51) (ie := 51) (ls' := [some (vR 8), some (vI x1), some (vI x2), some (vI x3), some (vI x4), some (vI ((x4 * 12) + x2)), some (vI 0), o7]) (st1 := [vI 9]) (st2 := [vI (1 + (r2 / 2))]) (bc8_94_11 call (1 + (r2 / 2)) 9 _ _) (fun q3 => ?_) (fun q3 => ?_)
      · have H := H.1 (cI2t q3 rfl rfl)
        refine xc_b (i' := 60) (ls' := [some (vR 8), some (vI x1), some (vI x2), some (vI x3), some (vI x4), some (vI ((x4 * 12) + x2)), some (vI 0), some (vI 9)]) (st' := [vI 1, vI x1, vR 2, vI x1, vI ((x4 * 12) + x2), vR 2]) (L' := LW W z2 f2) 9 (bc8_94_12 call x1 x2 x3 x4 ((x4 * 12) + x2) 0 o7 9 z2 f2) ?_
        obtain ⟨r3, z3, f3, hc, H⟩ := H
        refine xc_call (t := 61) (ls' := [some (vR 8), some (vI x1), some (vI x2), some (vI x3), some (vI x4), some (vI ((x4 * 12) + x2)), some (vI 0), some (vI 9)]) (st' := [vI x1, vI ((x4 * 12) + x2), vR 2]) (bc8_94_13 call x1 1 x1 ((x4 * 12) + x2) _ z2 f2) hc ?_
        show XC call (mP 94) 61 [some (vR 8), some (vI x1), some (vI x2), some (vI x3), some (vI x4), some (vI ((x4 * 12) + x2)), some (vI 0), some (vI 9)] [vI r3, vI x1, vI ((x4 * 12) + x2), vR 2] (LW W z3 f3) res
        refine xc_b (i' := 62) (ls' := [some (vR 8), some (vI x1), some (vI x2), some (vI x3), some (vI x4), some (vI ((x4 * 12) + x2)), some (vI 0), some (vI 9)]) (st' := [vI 9, vI r3, vI x1, vI ((x4 * 12) + x2), vR 2]) (L' := LW W z3 f3) 1 (bc8_94_14 call x1 x2 x3 x4 ((x4 * 12) + x2) 0 9 r3 x1 ((x4 * 12) + x2) _) ?_
        obtain ⟨z4, f4, hc, H⟩ := H
        refine xc_call (t := 63) (ls' := [some (vR 8), some (vI x1), some (vI x2), some (vI x3), some (vI x4), some (vI ((x4 * 12) + x2)), some (vI 0), some (vI 9)]) (st' := []) (bc8_94_15 call ((x4 * 12) + x2) x1 r3 9 _ z3 f3) hc ?_
        show XC call (mP 94) 63 [some (vR 8), some (vI x1), some (vI x2), some (vI x3), some (vI x4), some (vI ((x4 * 12) + x2)), some (vI 0), some (vI 9)] [] (LW W z4 f4) res
        refine xc_b (i' := 71) (ls' := [some (vR 8), some (vI x1), some (vI x2), some (vI x3), some (vI x4), some (vI ((x4 * 12) + x2)), some (vI 0), some (vI 9)]) (st' := [vI 5, vI x1, vR 2, vI 5, vI x1, vR 2]) (L' := LW W z4 f4) 8 (bc8_94_16 call x1 x2 x3 x4 ((x4 * 12) + x2) 0 9 z4 f4) ?_
        obtain ⟨r5, z5, f5, hc, H⟩ := H
        refine xc_call (t := 72) (ls' := [some (vR 8), some (vI x1), some (vI x2), some (vI x3), some (vI x4), some (vI ((x4 * 12) + x2)), some (vI 0), some (vI 9)]) (st' := [vI 5, vI x1, vR 2]) (bc8_94_17 call x1 5 5 x1 _ z4 f4) hc ?_
        show XC call (mP 94) 72 [some (vR 8), some (vI x1), some (vI x2), some (vI x3), some (vI x4), some (vI ((x4 * 12) + x2)), some (vI 0), some (vI 9)] [vI r5, vI 5, vI x1, vR 2] (LW W z5 f5) res
        refine xc_b (i' := 74) (ls' := [some (vR 8), some (vI x1), some (vI x2), some (vI x3), some (vI x4), some (vI ((x4 * 12) + x2)), some (vI 0), some (vI 9)]) (st' := [vI (r5 + 1), vI 5, vI x1, vR 2]) (L' := LW W z5 f5) 2 (bc8_94_18 call x1 x2 x3 x4 ((x4 * 12) + x2) 0 9 r5 5 x1 _) ?_
        obtain ⟨z6, f6, hc, H⟩ := H
        refine xc_call (t := 75) (ls' := [some (vR 8), some (vI x1), some (vI x2), some (vI x3), some (vI x4), some (vI ((x4 * 12) + x2)), some (vI 0), some (vI 9)]) (st' := []) (bc8_94_19 call x1 5 (r5 + 1) _ z5 f5) hc ?_
        show XC call (mP 94) 75 [some (vR 8), some (vI x1), some (vI x2), some (vI x3), some (vI x4), some (vI ((x4 * 12) + x2)), some (vI 0), some (vI 9)] [] (LW W z6 f6) res
        refine xc_b (i' := 79) (ls' := [some (vR 8), some (vI x1), some (vI x2), some (vI x3), some (vI x4), some (vI ((x4 * 12) + x2)), some (vI 0), some (vI 9)]) (st' := [vI ((x4 * 12) + x2), vI x1, vI 0, vR 8]) (L' := LW W z6 f6) 4 (bc8_94_20 call x1 x2 x3 x4 ((x4 * 12) + x2) 0 9 _) ?_
        obtain ⟨z7, f7, hc, H⟩ := H
        refine xc_call (t := 80) (ls' := [some (vR 8), some (vI x1), some (vI x2), some (vI x3), some (vI x4), some (vI ((x4 * 12) + x2)), some (vI 0), some (vI 9)]) (st' := []) (bc8_94_21 call 0 x1 ((x4 * 12) + x2) _ z6 f6) hc ?_
        show XC call (mP 94) 80 [some (vR 8), some (vI x1), some (vI x2), some (vI x3), some (vI x4), some (vI ((x4 * 12) + x2)), some (vI 0), some (vI 9)] [] (LW W z7 f7) res
        refine xc_b (i' := 81) (ls' := [some (vR 8), some (vI x1), some (vI x2), some (vI x3), some (vI x4), some (vI ((x4 * 12) + x2)), some (vI 0), some (vI 9)]) (st' := [vI ((x4 * 12) + x2)]) (L' := LW W z7 f7) 1 (bc8_94_22 call x1 x2 x3 x4 ((x4 * 12) + x2) 0 9 _) ?_
        subst H
        exact xc_ret (bc8_94_23 call _ _ _)
      · have H := H.2 (cI2f q3 rfl rfl)
        refine xc_b (i' := 60) (ls' := [some (vR 8), some (vI x1), some (vI x2), some (vI x3), some (vI x4), some (vI ((x4 * 12) + x2)), some (vI 0), some (vI (1 + (r2 / 2)))]) (st' := [vI 1, vI x1, vR 2, vI x1, vI ((x4 * 12) + x2), vR 2]) (L' := LW W z2 f2) 9 (bc8_94_12 call x1 x2 x3 x4 ((x4 * 12) + x2) 0 o7 (1 + (r2 / 2)) z2 f2) ?_
        obtain ⟨r8, z8, f8, hc, H⟩ := H
        refine xc_call (t := 61) (ls' := [some (vR 8), some (vI x1), some (vI x2), some (vI x3), some (vI x4), some (vI ((x4 * 12) + x2)), some (vI 0), some (vI (1 + (r2 / 2)))]) (st' := [vI x1, vI ((x4 * 12) + x2), vR 2]) (bc8_94_13 call x1 1 x1 ((x4 * 12) + x2) _ z2 f2) hc ?_
        show XC call (mP 94) 61 [some (vR 8), some (vI x1), some (vI x2), some (vI x3), some (vI x4), some (vI ((x4 * 12) + x2)), some (vI 0), some (vI (1 + (r2 / 2)))] [vI r8, vI x1, vI ((x4 * 12) + x2), vR 2] (LW W z8 f8) res
        refine xc_b (i' := 62) (ls' := [some (vR 8), some (vI x1), some (vI x2), some (vI x3), some (vI x4), some (vI ((x4 * 12) + x2)), some (vI 0), some (vI (1 + (r2 / 2)))]) (st' := [vI (1 + (r2 / 2)), vI r8, vI x1, vI ((x4 * 12) + x2), vR 2]) (L' := LW W z8 f8) 1 (bc8_94_14 call x1 x2 x3 x4 ((x4 * 12) + x2) 0 (1 + (r2 / 2)) r8 x1 ((x4 * 12) + x2) _) ?_
        obtain ⟨z9, f9, hc, H⟩ := H
        refine xc_call (t := 63) (ls' := [some (vR 8), some (vI x1), some (vI x2), some (vI x3), some (vI x4), some (vI ((x4 * 12) + x2)), some (vI 0), some (vI (1 + (r2 / 2)))]) (st' := []) (bc8_94_15 call ((x4 * 12) + x2) x1 r8 (1 + (r2 / 2)) _ z8 f8) hc ?_
        show XC call (mP 94) 63 [some (vR 8), some (vI x1), some (vI x2), some (vI x3), some (vI x4), some (vI ((x4 * 12) + x2)), some (vI 0), some (vI (1 + (r2 / 2)))] [] (LW W z9 f9) res
        refine xc_b (i' := 71) (ls' := [some (vR 8), some (vI x1), some (vI x2), some (vI x3), some (vI x4), some (vI ((x4 * 12) + x2)), some (vI 0), some (vI (1 + (r2 / 2)))]) (st' := [vI 5, vI x1, vR 2, vI 5, vI x1, vR 2]) (L' := LW W z9 f9) 8 (bc8_94_16 call x1 x2 x3 x4 ((x4 * 12) + x2) 0 (1 + (r2 / 2)) z9 f9) ?_
        obtain ⟨r10, z10, f10, hc, H⟩ := H
        refine xc_call (t := 72) (ls' := [some (vR 8), some (vI x1), some (vI x2), some (vI x3), some (vI x4), some (vI ((x4 * 12) + x2)), some (vI 0), some (vI (1 + (r2 / 2)))]) (st' := [vI 5, vI x1, vR 2]) (bc8_94_17 call x1 5 5 x1 _ z9 f9) hc ?_
        show XC call (mP 94) 72 [some (vR 8), some (vI x1), some (vI x2), some (vI x3), some (vI x4), some (vI ((x4 * 12) + x2)), some (vI 0), some (vI (1 + (r2 / 2)))] [vI r10, vI 5, vI x1, vR 2] (LW W z10 f10) res
        refine xc_b (i' := 74) (ls' := [some (vR 8), some (vI x1), some (vI x2), some (vI x3), some (vI x4), some (vI ((x4 * 12) + x2)), some (vI 0), some (vI (1 + (r2 / 2)))]) (st' := [vI (r10 + 1), vI 5, vI x1, vR 2]) (L' := LW W z10 f10) 2 (bc8_94_18 call x1 x2 x3 x4 ((x4 * 12) + x2) 0 (1 + (r2 / 2)) r10 5 x1 _) ?_
        obtain ⟨z11, f11, hc, H⟩ := H
        refine xc_call (t := 75) (ls' := [some (vR 8), some (vI x1), some (vI x2), some (vI x3), some (vI x4), some (vI ((x4 * 12) + x2)), some (vI 0), some (vI (1 + (r2 / 2)))]) (st' := []) (bc8_94_19 call x1 5 (r10 + 1) _ z10 f10) hc ?_
        show XC call (mP 94) 75 [some (vR 8), some (vI x1), some (vI x2), some (vI x3), some (vI x4), some (vI ((x4 * 12) + x2)), some (vI 0), some (vI (1 + (r2 / 2)))] [] (LW W z11 f11) res
        refine xc_b (i' := 79) (ls' := [some (vR 8), some (vI x1), some (vI x2), some (vI x3), some (vI x4), some (vI ((x4 * 12) + x2)), some (vI 0), some (vI (1 + (r2 / 2)))]) (st' := [vI ((x4 * 12) + x2), vI x1, vI 0, vR 8]) (L' := LW W z11 f11) 4 (bc8_94_20 call x1 x2 x3 x4 ((x4 * 12) + x2) 0 (1 + (r2 / 2)) _) ?_
        obtain ⟨z12, f12, hc, H⟩ := H
        refine xc_call (t := 80) (ls' := [some (vR 8), some (vI x1), some (vI x2), some (vI x3), some (vI x4), some (vI ((x4 * 12) + x2)), some (vI 0), some (vI (1 + (r2 / 2)))]) (st' := []) (bc8_94_21 call 0 x1 ((x4 * 12) + x2) _ z11 f11) hc ?_
        show XC call (mP 94) 80 [some (vR 8), some (vI x1), some (vI x2), some (vI x3), some (vI x4), some (vI ((x4 * 12) + x2)), some (vI 0), some (vI (1 + (r2 / 2)))] [] (LW W z12 f12) res
        refine xc_b (i' := 81) (ls' := [some (vR 8), some (vI x1), some (vI x2), some (vI x3), some (vI x4), some (vI ((x4 * 12) + x2)), some (vI 0), some (vI (1 + (r2 / 2)))]) (st' := [vI ((x4 * 12) + x2)]) (L' := LW W z12 f12) 1 (bc8_94_22 call x1 x2 x3 x4 ((x4 * 12) + x2) 0 (1 + (r2 / 2)) _) ?_
        subst H
        exact xc_ret (bc8_94_23 call _ _ _)
    · have H := H.2 (cI0f q2)
      refine xc_b (i' := 45) (ls' := [some (vR 8), some (vI x1), some (vI x2), some (vI x3), some (vI x4), some (vI ((x4 * 12) + x2)), some (vI 1), o7]) (st' := [vI 3, vI x1, vR 2, vI 1]) (L' := LW W z1 f1) 8 (bc8_94_24 call x1 x2 x3 x4 ((x4 * 12) + x2) o6 o7 z1 f1) ?_
      obtain ⟨r13, z13, f13, hc, H⟩ := H
      refine xc_call (t := 46) (ls' := [some (vR 8), some (vI x1), some (vI x2), some (vI x3), some (vI x4), some (vI ((x4 * 12) + x2)), some (vI 1), o7]) (st' := [vI 1]) (bc8_94_7 call x1 3 1 _ z1 f1) hc ?_
      show XC call (mP 94) 46 [some (vR 8), some (vI x1), some (vI x2), some (vI x3), some (vI x4), some (vI ((x4 * 12) + x2)), some (vI 1), o7] [vI r13, vI 1] (LW W z13 f13) res
      refine xc_b (i' := 47) (ls' := [some (vR 8), some (vI x1), some (vI x2), some (vI x3), some (vI x4), some (vI ((x4 * 12) + x2)), some (vI 1), o7]) (st' := [vI 2, vI r13, vI 1]) (L' := LW W z13 f13) 1 (bc8_94_8 call x1 x2 x3 x4 ((x4 * 12) + x2) 1 o7 r13 1 _) ?_
      obtain ⟨g1, H⟩ := H
      refine xc_g (i' := 48) (ls' := [some (vR 8), some (vI x1), some (vI x2), some (vI x3), some (vI x4), some (vI ((x4 * 12) + x2)), some (vI 1), o7]) (st' := [vI (r13 / 2), vI 1]) (L' := LW W z13 f13) (bc8_94_9 call r13 2 1 _ _) (cmp_ne.trans (decide_eq_true g1)) ?_
      refine xc_b (i' := 50) (ls' := [some (vR 8), some (vI x1), some (vI x2), some (vI x3), some (vI x4), some (vI ((x4 * 12) + x2)), some (vI 1), o7]) (st' := [vI 9, vI (1 + (r13 / 2))]) (L' := LW W z13 f13) 2 (bc8_94_10 call x1 x2 x3 x4 ((x4 * 12) + x2) 1 o7 (r13 / 2) 1 _) ?_
      refine xc_if2 (it := 51) (ie := 51) (ls' := [some (vR 8), some (vI x1), some (vI x2), some (vI x3), some (vI x4), some (vI ((x4 * 12) + x2)), some (vI 1), o7]) (st1 := [vI 9]) (st2 := [vI (1 + (r13 / 2))]) (bc8_94_11 call (1 + (r13 / 2)) 9 _ _) (fun q4 => ?_) (fun q4 => ?_)
      · have H := H.1 (cI2t q4 rfl rfl)
        refine xc_b (i' := 60) (ls' := [some (vR 8), some (vI x1), some (vI x2), some (vI x3), some (vI x4), some (vI ((x4 * 12) + x2)), some (vI 1), some (vI 9)]) (st' := [vI 1, vI x1, vR 2, vI x1, vI ((x4 * 12) + x2), vR 2]) (L' := LW W z13 f13) 9 (bc8_94_12 call x1 x2 x3 x4 ((x4 * 12) + x2) 1 o7 9 z13 f13) ?_
        obtain ⟨r14, z14, f14, hc, H⟩ := H
        refine xc_call (t := 61) (ls' := [some (vR 8), some (vI x1), some (vI x2), some (vI x3), some (vI x4), some (vI ((x4 * 12) + x2)), some (vI 1), some (vI 9)]) (st' := [vI x1, vI ((x4 * 12) + x2), vR 2]) (bc8_94_13 call x1 1 x1 ((x4 * 12) + x2) _ z13 f13) hc ?_
        show XC call (mP 94) 61 [some (vR 8), some (vI x1), some (vI x2), some (vI x3), some (vI x4), some (vI ((x4 * 12) + x2)), some (vI 1), some (vI 9)] [vI r14, vI x1, vI ((x4 * 12) + x2), vR 2] (LW W z14 f14) res
        refine xc_b (i' := 62) (ls' := [some (vR 8), some (vI x1), some (vI x2), some (vI x3), some (vI x4), some (vI ((x4 * 12) + x2)), some (vI 1), some (vI 9)]) (st' := [vI 9, vI r14, vI x1, vI ((x4 * 12) + x2), vR 2]) (L' := LW W z14 f14) 1 (bc8_94_14 call x1 x2 x3 x4 ((x4 * 12) + x2) 1 9 r14 x1 ((x4 * 12) + x2) _) ?_
        obtain ⟨z15, f15, hc, H⟩ := H
        refine xc_call (t := 63) (ls' := [some (vR 8), some (vI x1), some (vI x2), some (vI x3), some (vI x4), some (vI ((x4 * 12) + x2)), some (vI 1), some (vI 9)]) (st' := []) (bc8_94_15 call ((x4 * 12) + x2) x1 r14 9 _ z14 f14) hc ?_
        show XC call (mP 94) 63 [some (vR 8), some (vI x1), some (vI x2), some (vI x3), some (vI x4), some (vI ((x4 * 12) + x2)), some (vI 1), some (vI 9)] [] (LW W z15 f15) res
        refine xc_b (i' := 71) (ls' := [some (vR 8), some (vI x1), some (vI x2), some (vI x3), some (vI x4), some (vI ((x4 * 12) + x2)), some (vI 1), some (vI 9)]) (st' := [vI 5, vI x1, vR 2, vI 5, vI x1, vR 2]) (L' := LW W z15 f15) 8 (bc8_94_16 call x1 x2 x3 x4 ((x4 * 12) + x2) 1 9 z15 f15) ?_
        obtain ⟨r16, z16, f16, hc, H⟩ := H
        refine xc_call (t := 72) (ls' := [some (vR 8), some (vI x1), some (vI x2), some (vI x3), some (vI x4), some (vI ((x4 * 12) + x2)), some (vI 1), some (vI 9)]) (st' := [vI 5, vI x1, vR 2]) (bc8_94_17 call x1 5 5 x1 _ z15 f15) hc ?_
        show XC call (mP 94) 72 [some (vR 8), some (vI x1), some (vI x2), some (vI x3), some (vI x4), some (vI ((x4 * 12) + x2)), some (vI 1), some (vI 9)] [vI r16, vI 5, vI x1, vR 2] (LW W z16 f16) res
        refine xc_b (i' := 74) (ls' := [some (vR 8), some (vI x1), some (vI x2), some (vI x3), some (vI x4), some (vI ((x4 * 12) + x2)), some (vI 1), some (vI 9)]) (st' := [vI (r16 + 1), vI 5, vI x1, vR 2]) (L' := LW W z16 f16) 2 (bc8_94_18 call x1 x2 x3 x4 ((x4 * 12) + x2) 1 9 r16 5 x1 _) ?_
        obtain ⟨z17, f17, hc, H⟩ := H
        refine xc_call (t := 75) (ls' := [some (vR 8), some (vI x1), some (vI x2), some (vI x3), some (vI x4), some (vI ((x4 * 12) + x2)), some (vI 1), some (vI 9)]) (st' := []) (bc8_94_19 call x1 5 (r16 + 1) _ z16 f16) hc ?_
        show XC call (mP 94) 75 [some (vR 8), some (vI x1), some (vI x2), some (vI x3), some (vI x4), some (vI ((x4 * 12) + x2)), some (vI 1), some (vI 9)] [] (LW W z17 f17) res
        refine xc_b (i' := 79) (ls' := [some (vR 8), some (vI x1), some (vI x2), some (vI x3), some (vI x4), some (vI ((x4 * 12) + x2)), some (vI 1), some (vI 9)]) (st' := [vI ((x4 * 12) + x2), vI x1, vI 1, vR 8]) (L' := LW W z17 f17) 4 (bc8_94_20 call x1 x2 x3 x4 ((x4 * 12) + x2) 1 9 _) ?_
        obtain ⟨z18, f18, hc, H⟩ := H
        refine xc_call (t := 80) (ls' := [some (vR 8), some (vI x1), some (vI x2), some (vI x3), some (vI x4), some (vI ((x4 * 12) + x2)), some (vI 1), some (vI 9)]) (st' := []) (bc8_94_21 call 1 x1 ((x4 * 12) + x2) _ z17 f17) hc ?_
        show XC call (mP 94) 80 [some (vR 8), some (vI x1), some (vI x2), some (vI x3), some (vI x4), some (vI ((x4 * 12) + x2)), some (vI 1), some (vI 9)] [] (LW W z18 f18) res
        refine xc_b (i' := 81) (ls' := [some (vR 8), some (vI x1), some (vI x2), some (vI x3), some (vI x4), some (vI ((x4 * 12) + x2)), some (vI 1), some (vI 9)]) (st' := [vI ((x4 * 12) + x2)]) (L' := LW W z18 f18) 1 (bc8_94_22 call x1 x2 x3 x4 ((x4 * 12) + x2) 1 9 _) ?_
        subst H
        exact xc_ret (bc8_94_23 call _ _ _)
      · have H := H.2 (cI2f q4 rfl rfl)
        refine xc_b (i' := 60) (ls' := [some (vR 8), some (vI x1), some (vI x2), some (vI x3), some (vI x4), some (vI ((x4 * 12) + x2)), some (vI 1), some (vI (1 + (r13 / 2)))]) (st' := [vI 1, vI x1, vR 2, vI x1, vI ((x4 * 12) + x2), vR 2]) (L' := LW W z13 f13) 9 (bc8_94_12 call x1 x2 x3 x4 ((x4 * 12) + x2) 1 o7 (1 + (r13 / 2)) z13 f13) ?_
        obtain ⟨r19, z19, f19, hc, H⟩ := H
        refine xc_call (t := 61) (ls' := [some (vR 8), some (vI x1), some (vI x2), some (vI x3), some (vI x4), some (vI ((x4 * 12) + x2)), some (vI 1), some (vI (1 + (r13 / 2)))]) (st' := [vI x1, vI ((x4 * 12) + x2), vR 2]) (bc8_94_13 call x1 1 x1 ((x4 * 12) + x2) _ z13 f13) hc ?_
        show XC call (mP 94) 61 [some (vR 8), some (vI x1), some (vI x2), some (vI x3), some (vI x4), some (vI ((x4 * 12) + x2)), some (vI 1), some (vI (1 + (r13 / 2)))] [vI r19, vI x1, vI ((x4 * 12) + x2), vR 2] (LW W z19 f19) res
        refine xc_b (i' := 62) (ls' := [some (vR 8), some (vI x1), some (vI x2), some (vI x3), some (vI x4), some (vI ((x4 * 12) + x2)), some (vI 1), some (vI (1 + (r13 / 2)))]) (st' := [vI (1 + (r13 / 2)), vI r19, vI x1, vI ((x4 * 12) + x2), vR 2]) (L' := LW W z19 f19) 1 (bc8_94_14 call x1 x2 x3 x4 ((x4 * 12) + x2) 1 (1 + (r13 / 2)) r19 x1 ((x4 * 12) + x2) _) ?_
        obtain ⟨z20, f20, hc, H⟩ := H
        refine xc_call (t := 63) (ls' := [some (vR 8), some (vI x1), some (vI x2), some (vI x3), some (vI x4), some (vI ((x4 * 12) + x2)), some (vI 1), some (vI (1 + (r13 / 2)))]) (st' := []) (bc8_94_15 call ((x4 * 12) + x2) x1 r19 (1 + (r13 / 2)) _ z19 f19) hc ?_
        show XC call (mP 94) 63 [some (vR 8), some (vI x1), some (vI x2), some (vI x3), some (vI x4), some (vI ((x4 * 12) + x2)), some (vI 1), some (vI (1 + (r13 / 2)))] [] (LW W z20 f20) res
        refine xc_b (i' := 71) (ls' := [some (vR 8), some (vI x1), some (vI x2), some (vI x3), some (vI x4), some (vI ((x4 * 12) + x2)), some (vI 1), some (vI (1 + (r13 / 2)))]) (st' := [vI 5, vI x1, vR 2, vI 5, vI x1, vR 2]) (L' := LW W z20 f20) 8 (bc8_94_16 call x1 x2 x3 x4 ((x4 * 12) + x2) 1 (1 + (r13 / 2)) z20 f20) ?_
        obtain ⟨r21, z21, f21, hc, H⟩ := H
        refine xc_call (t := 72) (ls' := [some (vR 8), some (vI x1), some (vI x2), some (vI x3), some (vI x4), some (vI ((x4 * 12) + x2)), some (vI 1), some (vI (1 + (r13 / 2)))]) (st' := [vI 5, vI x1, vR 2]) (bc8_94_17 call x1 5 5 x1 _ z20 f20) hc ?_
        show XC call (mP 94) 72 [some (vR 8), some (vI x1), some (vI x2), some (vI x3), some (vI x4), some (vI ((x4 * 12) + x2)), some (vI 1), some (vI (1 + (r13 / 2)))] [vI r21, vI 5, vI x1, vR 2] (LW W z21 f21) res
        refine xc_b (i' := 74) (ls' := [some (vR 8), some (vI x1), some (vI x2), some (vI x3), some (vI x4), some (vI ((x4 * 12) + x2)), some (vI 1), some (vI (1 + (r13 / 2)))]) (st' := [vI (r21 + 1), vI 5, vI x1, vR 2]) (L' := LW W z21 f21) 2 (bc8_94_18 call x1 x2 x3 x4 ((x4 * 12) + x2) 1 (1 + (r13 / 2)) r21 5 x1 _) ?_
        obtain ⟨z22, f22, hc, H⟩ := H
        refine xc_call (t := 75) (ls' := [some (vR 8), some (vI x1), some (vI x2), some (vI x3), some (vI x4), some (vI ((x4 * 12) + x2)), some (vI 1), some (vI (1 + (r13 / 2)))]) (st' := []) (bc8_94_19 call x1 5 (r21 + 1) _ z21 f21) hc ?_
        show XC call (mP 94) 75 [some (vR 8), some (vI x1), some (vI x2), some (vI x3), some (vI x4), some (vI ((x4 * 12) + x2)), some (vI 1), some (vI (1 + (r13 / 2)))] [] (LW W z22 f22) res
        refine xc_b (i' := 79) (ls' := [some (vR 8), some (vI x1), some (vI x2), some (vI x3), some (vI x4), some (vI ((x4 * 12) + x2)), some (vI 1), some (vI (1 + (r13 / 2)))]) (st' := [vI ((x4 * 12) + x2), vI x1, vI 1, vR 8]) (L' := LW W z22 f22) 4 (bc8_94_20 call x1 x2 x3 x4 ((x4 * 12) + x2) 1 (1 + (r13 / 2)) _) ?_
        obtain ⟨z23, f23, hc, H⟩ := H
        refine xc_call (t := 80) (ls' := [some (vR 8), some (vI x1), some (vI x2), some (vI x3), some (vI x4), some (vI ((x4 * 12) + x2)), some (vI 1), some (vI (1 + (r13 / 2)))]) (st' := []) (bc8_94_21 call 1 x1 ((x4 * 12) + x2) _ z22 f22) hc ?_
        show XC call (mP 94) 80 [some (vR 8), some (vI x1), some (vI x2), some (vI x3), some (vI x4), some (vI ((x4 * 12) + x2)), some (vI 1), some (vI (1 + (r13 / 2)))] [] (LW W z23 f23) res
        refine xc_b (i' := 81) (ls' := [some (vR 8), some (vI x1), some (vI x2), some (vI x3), some (vI x4), some (vI ((x4 * 12) + x2)), some (vI 1), some (vI (1 + (r13 / 2)))]) (st' := [vI ((x4 * 12) + x2)]) (L' := LW W z23 f23) 1 (bc8_94_22 call x1 x2 x3 x4 ((x4 * 12) + x2) 1 (1 + (r13 / 2)) _) ?_
        subst H
        exact xc_ret (bc8_94_23 call _ _ _)
  · have H := H.2 (cI3f q1 rfl rfl)
    refine xc_b (i' := 13) (ls' := [some (vR 8), some (vI x1), some (vI x2), some (vI x3), some (vI x4), o5, o6, o7]) (st' := [vI 11, vI x4]) (L' := LW W z f) 2 (bc8_94_25 call x1 x2 x3 x4 o5 o6 o7 _) ?_
    refine xc_if (it := 25) (ie := 14) (ls' := [some (vR 8), some (vI x1), some (vI x2), some (vI x3), some (vI x4), o5, o6, o7]) (st' := []) (bc8_94_26 call x4 11 _ _) (fun q5 => ?_) (fun q5 => ?_)
    · have H := H.1 (cI3t q5 rfl rfl)
      refine xc_b (i' := 34) (ls' := [some (vR 8), some (vI x1), some (vI x2), some (vI x3), some (vI x4), some (vI ((x4 * 12) + x2)), o6, o7]) (st' := [vI ((x4 * 12) + x2), vR 2]) (L' := LW W z f) 9 (bc8_94_3 call x1 x2 x3 x4 o5 o6 o7 z f) ?_
      obtain ⟨r24, z24, f24, hc, H⟩ := H
      refine xc_call (t := 35) (ls' := [some (vR 8), some (vI x1), some (vI x2), some (vI x3), some (vI x4), some (vI ((x4 * 12) + x2)), o6, o7]) (st' := []) (bc8_94_4 call ((x4 * 12) + x2) _ z f) hc ?_
      show XC call (mP 94) 35 [some (vR 8), some (vI x1), some (vI x2), some (vI x3), some (vI x4), some (vI ((x4 * 12) + x2)), o6, o7] [vI r24] (LW W z24 f24) res
      refine xc_if (it := 38) (ie := 36) (ls' := [some (vR 8), some (vI x1), some (vI x2), some (vI x3), some (vI x4), some (vI ((x4 * 12) + x2)), o6, o7]) (st' := []) (bc8_94_5 call r24 _ _) (fun q6 => ?_) (fun q6 => ?_)
      · have H := H.1 (cI0t q6)
        refine xc_b (i' := 45) (ls' := [some (vR 8), some (vI x1), some (vI x2), some (vI x3), some (vI x4), some (vI ((x4 * 12) + x2)), some (vI 0), o7]) (st' := [vI 3, vI x1, vR 2, vI 1]) (L' := LW W z24 f24) 7 (bc8_94_6 call x1 x2 x3 x4 ((x4 * 12) + x2) o6 o7 z24 f24) ?_
        obtain ⟨r25, z25, f25, hc, H⟩ := H
        refine xc_call (t := 46) (ls' := [some (vR 8), some (vI x1), some (vI x2), some (vI x3), some (vI x4), some (vI ((x4 * 12) + x2)), some (vI 0), o7]) (st' := [vI 1]) (bc8_94_7 call x1 3 1 _ z24 f24) hc ?_
        show XC call (mP 94) 46 [some (vR 8), some (vI x1), some (vI x2), some (vI x3), some (vI x4), some (vI ((x4 * 12) + x2)), some (vI 0), o7] [vI r25, vI 1] (LW W z25 f25) res
        refine xc_b (i' := 47) (ls' := [some (vR 8), some (vI x1), some (vI x2), some (vI x3), some (vI x4), some (vI ((x4 * 12) + x2)), some (vI 0), o7]) (st' := [vI 2, vI r25, vI 1]) (L' := LW W z25 f25) 1 (bc8_94_8 call x1 x2 x3 x4 ((x4 * 12) + x2) 0 o7 r25 1 _) ?_
        obtain ⟨g1, H⟩ := H
        refine xc_g (i' := 48) (ls' := [some (vR 8), some (vI x1), some (vI x2), some (vI x3), some (vI x4), some (vI ((x4 * 12) + x2)), some (vI 0), o7]) (st' := [vI (r25 / 2), vI 1]) (L' := LW W z25 f25) (bc8_94_9 call r25 2 1 _ _) (cmp_ne.trans (decide_eq_true g1)) ?_
        refine xc_b (i' := 50) (ls' := [some (vR 8), some (vI x1), some (vI x2), some (vI x3), some (vI x4), some (vI ((x4 * 12) + x2)), some (vI 0), o7]) (st' := [vI 9, vI (1 + (r25 / 2))]) (L' := LW W z25 f25) 2 (bc8_94_10 call x1 x2 x3 x4 ((x4 * 12) + x2) 0 o7 (r25 / 2) 1 _) ?_
        refine xc_if2 (it := 51) (ie := 51) (ls' := [some (vR 8), some (vI x1), some (vI x2), some (vI x3), some (vI x4), some (vI ((x4 * 12) + x2)), some (vI 0), o7]) (st1 := [vI 9]) (st2 := [vI (1 + (r25 / 2))]) (bc8_94_11 call (1 + (r25 / 2)) 9 _ _) (fun q7 => ?_) (fun q7 => ?_)
        · have H := H.1 (cI2t q7 rfl rfl)
          refine xc_b (i' := 60) (ls' := [some (vR 8), some (vI x1), some (vI x2), some (vI x3), some (vI x4), some (vI ((x4 * 12) + x2)), some (vI 0), some (vI 9)]) (st' := [vI 1, vI x1, vR 2, vI x1, vI ((x4 * 12) + x2), vR 2]) (L' := LW W z25 f25) 9 (bc8_94_12 call x1 x2 x3 x4 ((x4 * 12) + x2) 0 o7 9 z25 f25) ?_
          obtain ⟨r26, z26, f26, hc, H⟩ := H
          refine xc_call (t := 61) (ls' := [some (vR 8), some (vI x1), some (vI x2), some (vI x3), some (vI x4), some (vI ((x4 * 12) + x2)), some (vI 0), some (vI 9)]) (st' := [vI x1, vI ((x4 * 12) + x2), vR 2]) (bc8_94_13 call x1 1 x1 ((x4 * 12) + x2) _ z25 f25) hc ?_
          show XC call (mP 94) 61 [some (vR 8), some (vI x1), some (vI x2), some (vI x3), some (vI x4), some (vI ((x4 * 12) + x2)), some (vI 0), some (vI 9)] [vI r26, vI x1, vI ((x4 * 12) + x2), vR 2] (LW W z26 f26) res
          refine xc_b (i' := 62) (ls' := [some (vR 8), some (vI x1), some (vI x2), some (vI x3), some (vI x4), some (vI ((x4 * 12) + x2)), some (vI 0), some (vI 9)]) (st' := [vI 9, vI r26, vI x1, vI ((x4 * 12) + x2), vR 2]) (L' := LW W z26 f26) 1 (bc8_94_14 call x1 x2 x3 x4 ((x4 * 12) + x2) 0 9 r26 x1 ((x4 * 12) + x2) _) ?_
          obtain ⟨z27, f27, hc, H⟩ := H
          refine xc_call (t := 63) (ls' := [some (vR 8), some (vI x1), some (vI x2), some (vI x3), some (vI x4), some (vI ((x4 * 12) + x2)), some (vI 0), some (vI 9)]) (st' := []) (bc8_94_15 call ((x4 * 12) + x2) x1 r26 9 _ z26 f26) hc ?_
          show XC call (mP 94) 63 [some (vR 8), some (vI x1), some (vI x2), some (vI x3), some (vI x4), some (vI ((x4 * 12) + x2)), some (vI 0), some (vI 9)] [] (LW W z27 f27) res
          refine xc_b (i' := 71) (ls' := [some (vR 8), some (vI x1), some (vI x2), some (vI x3), some (vI x4), some (vI ((x4 * 12) + x2)), some (vI 0), some (vI 9)]) (st' := [vI 5, vI x1, vR 2, vI 5, vI x1, vR 2]) (L' := LW W z27 f27) 8 (bc8_94_16 call x1 x2 x3 x4 ((x4 * 12) + x2) 0 9 z27 f27) ?_
          obtain ⟨r28, z28, f28, hc, H⟩ := H
          refine xc_call (t := 72) (ls' := [some (vR 8), some (vI x1), some (vI x2), some (vI x3), some (vI x4), some (vI ((x4 * 12) + x2)), some (vI 0), some (vI 9)]) (st' := [vI 5, vI x1, vR 2]) (bc8_94_17 call x1 5 5 x1 _ z27 f27) hc ?_
          show XC call (mP 94) 72 [some (vR 8), some (vI x1), some (vI x2), some (vI x3), some (vI x4), some (vI ((x4 * 12) + x2)), some (vI 0), some (vI 9)] [vI r28, vI 5, vI x1, vR 2] (LW W z28 f28) res
          refine xc_b (i' := 74) (ls' := [some (vR 8), some (vI x1), some (vI x2), some (vI x3), some (vI x4), some (vI ((x4 * 12) + x2)), some (vI 0), some (vI 9)]) (st' := [vI (r28 + 1), vI 5, vI x1, vR 2]) (L' := LW W z28 f28) 2 (bc8_94_18 call x1 x2 x3 x4 ((x4 * 12) + x2) 0 9 r28 5 x1 _) ?_
          obtain ⟨z29, f29, hc, H⟩ := H
          refine xc_call (t := 75) (ls' := [some (vR 8), some (vI x1), some (vI x2), some (vI x3), some (vI x4), some (vI ((x4 * 12) + x2)), some (vI 0), some (vI 9)]) (st' := []) (bc8_94_19 call x1 5 (r28 + 1) _ z28 f28) hc ?_
          show XC call (mP 94) 75 [some (vR 8), some (vI x1), some (vI x2), some (vI x3), some (vI x4), some (vI ((x4 * 12) + x2)), some (vI 0), some (vI 9)] [] (LW W z29 f29) res
          refine xc_b (i' := 79) (ls' := [some (vR 8), some (vI x1), some (vI x2), some (vI x3), some (vI x4), some (vI ((x4 * 12) + x2)), some (vI 0), some (vI 9)]) (st' := [vI ((x4 * 12) + x2), vI x1, vI 0, vR 8]) (L' := LW W z29 f29) 4 (bc8_94_20 call x1 x2 x3 x4 ((x4 * 12) + x2) 0 9 _) ?_
          obtain ⟨z30, f30, hc, H⟩ := H
          refine xc_call (t := 80) (ls' := [some (vR 8), some (vI x1), some (vI x2), some (vI x3), some (vI x4), some (vI ((x4 * 12) + x2)), some (vI 0), some (vI 9)]) (st' := []) (bc8_94_21 call 0 x1 ((x4 * 12) + x2) _ z29 f29) hc ?_
          show XC call (mP 94) 80 [some (vR 8), some (vI x1), some (vI x2), some (vI x3), some (vI x4), some (vI ((x4 * 12) + x2)), some (vI 0), some (vI 9)] [] (LW W z30 f30) res
          refine xc_b (i' := 81) (ls' := [some (vR 8), some (vI x1), some (vI x2), some (vI x3), some (vI x4), some (vI ((x4 * 12) + x2)), some (vI 0), some (vI 9)]) (st' := [vI ((x4 * 12) + x2)]) (L' := LW W z30 f30) 1 (bc8_94_22 call x1 x2 x3 x4 ((x4 * 12) + x2) 0 9 _) ?_
          subst H
          exact xc_ret (bc8_94_23 call _ _ _)
        · have H := H.2 (cI2f q7 rfl rfl)
          refine xc_b (i' := 60) (ls' := [some (vR 8), some (vI x1), some (vI x2), some (vI x3), some (vI x4), some (vI ((x4 * 12) + x2)), some (vI 0), some (vI (1 + (r25 / 2)))]) (st' := [vI 1, vI x1, vR 2, vI x1, vI ((x4 * 12) + x2), vR 2]) (L' := LW W z25 f25) 9 (bc8_94_12 call x1 x2 x3 x4 ((x4 * 12) + x2) 0 o7 (1 + (r25 / 2)) z25 f25) ?_
          obtain ⟨r31, z31, f31, hc, H⟩ := H
          refine xc_call (t := 61) (ls' := [some (vR 8), some (vI x1), some (vI x2), some (vI x3), some (vI x4), some (vI ((x4 * 12) + x2)), some (vI 0), some (vI (1 + (r25 / 2)))]) (st' := [vI x1, vI ((x4 * 12) + x2), vR 2]) (bc8_94_13 call x1 1 x1 ((x4 * 12) + x2) _ z25 f25) hc ?_
          show XC call (mP 94) 61 [some (vR 8), some (vI x1), some (vI x2), some (vI x3), some (vI x4), some (vI ((x4 * 12) + x2)), some (vI 0), some (vI (1 + (r25 / 2)))] [vI r31, vI x1, vI ((x4 * 12) + x2), vR 2] (LW W z31 f31) res
          refine xc_b (i' := 62) (ls' := [some (vR 8), some (vI x1), some (vI x2), some (vI x3), some (vI x4), some (vI ((x4 * 12) + x2)), some (vI 0), some (vI (1 + (r25 / 2)))]) (st' := [vI (1 + (r25 / 2)), vI r31, vI x1, vI ((x4 * 12) + x2), vR 2]) (L' := LW W z31 f31) 1 (bc8_94_14 call x1 x2 x3 x4 ((x4 * 12) + x2) 0 (1 + (r25 / 2)) r31 x1 ((x4 * 12) + x2) _) ?_
          obtain ⟨z32, f32, hc, H⟩ := H
          refine xc_call (t := 63) (ls' := [some (vR 8), some (vI x1), some (vI x2), some (vI x3), some (vI x4), some (vI ((x4 * 12) + x2)), some (vI 0), some (vI (1 + (r25 / 2)))]) (st' := []) (bc8_94_15 call ((x4 * 12) + x2) x1 r31 (1 + (r25 / 2)) _ z31 f31) hc ?_
          show XC call (mP 94) 63 [some (vR 8), some (vI x1), some (vI x2), some (vI x3), some (vI x4), some (vI ((x4 * 12) + x2)), some (vI 0), some (vI (1 + (r25 / 2)))] [] (LW W z32 f32) res
          refine xc_b (i' := 71) (ls' := [some (vR 8), some (vI x1), some (vI x2), some (vI x3), some (vI x4), some (vI ((x4 * 12) + x2)), some (vI 0), some (vI (1 + (r25 / 2)))]) (st' := [vI 5, vI x1, vR 2, vI 5, vI x1, vR 2]) (L' := LW W z32 f32) 8 (bc8_94_16 call x1 x2 x3 x4 ((x4 * 12) + x2) 0 (1 + (r25 / 2)) z32 f32) ?_
          obtain ⟨r33, z33, f33, hc, H⟩ := H
          refine xc_call (t := 72) (ls' := [some (vR 8), some (vI x1), some (vI x2), some (vI x3), some (vI x4), some (vI ((x4 * 12) + x2)), some (vI 0), some (vI (1 + (r25 / 2)))]) (st' := [vI 5, vI x1, vR 2]) (bc8_94_17 call x1 5 5 x1 _ z32 f32) hc ?_
          show XC call (mP 94) 72 [some (vR 8), some (vI x1), some (vI x2), some (vI x3), some (vI x4), some (vI ((x4 * 12) + x2)), some (vI 0), some (vI (1 + (r25 / 2)))] [vI r33, vI 5, vI x1, vR 2] (LW W z33 f33) res
          refine xc_b (i' := 74) (ls' := [some (vR 8), some (vI x1), some (vI x2), some (vI x3), some (vI x4), some (vI ((x4 * 12) + x2)), some (vI 0), some (vI (1 + (r25 / 2)))]) (st' := [vI (r33 + 1), vI 5, vI x1, vR 2]) (L' := LW W z33 f33) 2 (bc8_94_18 call x1 x2 x3 x4 ((x4 * 12) + x2) 0 (1 + (r25 / 2)) r33 5 x1 _) ?_
          obtain ⟨z34, f34, hc, H⟩ := H
          refine xc_call (t := 75) (ls' := [some (vR 8), some (vI x1), some (vI x2), some (vI x3), some (vI x4), some (vI ((x4 * 12) + x2)), some (vI 0), some (vI (1 + (r25 / 2)))]) (st' := []) (bc8_94_19 call x1 5 (r33 + 1) _ z33 f33) hc ?_
          show XC call (mP 94) 75 [some (vR 8), some (vI x1), some (vI x2), some (vI x3), some (vI x4), some (vI ((x4 * 12) + x2)), some (vI 0), some (vI (1 + (r25 / 2)))] [] (LW W z34 f34) res
          refine xc_b (i' := 79) (ls' := [some (vR 8), some (vI x1), some (vI x2), some (vI x3), some (vI x4), some (vI ((x4 * 12) + x2)), some (vI 0), some (vI (1 + (r25 / 2)))]) (st' := [vI ((x4 * 12) + x2), vI x1, vI 0, vR 8]) (L' := LW W z34 f34) 4 (bc8_94_20 call x1 x2 x3 x4 ((x4 * 12) + x2) 0 (1 + (r25 / 2)) _) ?_
          obtain ⟨z35, f35, hc, H⟩ := H
          refine xc_call (t := 80) (ls' := [some (vR 8), some (vI x1), some (vI x2), some (vI x3), some (vI x4), some (vI ((x4 * 12) + x2)), some (vI 0), some (vI (1 + (r25 / 2)))]) (st' := []) (bc8_94_21 call 0 x1 ((x4 * 12) + x2) _ z34 f34) hc ?_
          show XC call (mP 94) 80 [some (vR 8), some (vI x1), some (vI x2), some (vI x3), some (vI x4), some (vI ((x4 * 12) + x2)), some (vI 0), some (vI (1 + (r25 / 2)))] [] (LW W z35 f35) res
          refine xc_b (i' := 81) (ls' := [some (vR 8), some (vI x1), some (vI x2), some (vI x3), some (vI x4), some (vI ((x4 * 12) + x2)), some (vI 0), some (vI (1 + (r25 / 2)))]) (st' := [vI ((x4 * 12) + x2)]) (L' := LW W z35 f35) 1 (bc8_94_22 call x1 x2 x3 x4 ((x4 * 12) + x2) 0 (1 + (r25 / 2)) _) ?_
          subst H
          exact xc_ret (bc8_94_23 call _ _ _)
      · have H := H.2 (cI0f q6)
        refine xc_b (i' := 45) (ls' := [some (vR 8), some (vI x1), some (vI x2), some (vI x3), some (vI x4), some (vI ((x4 * 12) + x2)), some (vI 1), o7]) (st' := [vI 3, vI x1, vR 2, vI 1]) (L' := LW W z24 f24) 8 (bc8_94_24 call x1 x2 x3 x4 ((x4 * 12) + x2) o6 o7 z24 f24) ?_
        obtain ⟨r36, z36, f36, hc, H⟩ := H
        refine xc_call (t := 46) (ls' := [some (vR 8), some (vI x1), some (vI x2), some (vI x3), some (vI x4), some (vI ((x4 * 12) + x2)), some (vI 1), o7]) (st' := [vI 1]) (bc8_94_7 call x1 3 1 _ z24 f24) hc ?_
        show XC call (mP 94) 46 [some (vR 8), some (vI x1), some (vI x2), some (vI x3), some (vI x4), some (vI ((x4 * 12) + x2)), some (vI 1), o7] [vI r36, vI 1] (LW W z36 f36) res
        refine xc_b (i' := 47) (ls' := [some (vR 8), some (vI x1), some (vI x2), some (vI x3), some (vI x4), some (vI ((x4 * 12) + x2)), some (vI 1), o7]) (st' := [vI 2, vI r36, vI 1]) (L' := LW W z36 f36) 1 (bc8_94_8 call x1 x2 x3 x4 ((x4 * 12) + x2) 1 o7 r36 1 _) ?_
        obtain ⟨g1, H⟩ := H
        refine xc_g (i' := 48) (ls' := [some (vR 8), some (vI x1), some (vI x2), some (vI x3), some (vI x4), some (vI ((x4 * 12) + x2)), some (vI 1), o7]) (st' := [vI (r36 / 2), vI 1]) (L' := LW W z36 f36) (bc8_94_9 call r36 2 1 _ _) (cmp_ne.trans (decide_eq_true g1)) ?_
        refine xc_b (i' := 50) (ls' := [some (vR 8), some (vI x1), some (vI x2), some (vI x3), some (vI x4), some (vI ((x4 * 12) + x2)), some (vI 1), o7]) (st' := [vI 9, vI (1 + (r36 / 2))]) (L' := LW W z36 f36) 2 (bc8_94_10 call x1 x2 x3 x4 ((x4 * 12) + x2) 1 o7 (r36 / 2) 1 _) ?_
        refine xc_if2 (it := 51) (ie := 51) (ls' := [some (vR 8), some (vI x1), some (vI x2), some (vI x3), some (vI x4), some (vI ((x4 * 12) + x2)), some (vI 1), o7]) (st1 := [vI 9]) (st2 := [vI (1 + (r36 / 2))]) (bc8_94_11 call (1 + (r36 / 2)) 9 _ _) (fun q8 => ?_) (fun q8 => ?_)
        · have H := H.1 (cI2t q8 rfl rfl)
          refine xc_b (i' := 60) (ls' := [some (vR 8), some (vI x1), some (vI x2), some (vI x3), some (vI x4), some (vI ((x4 * 12) + x2)), some (vI 1), some (vI 9)]) (st' := [vI 1, vI x1, vR 2, vI x1, vI ((x4 * 12) + x2), vR 2]) (L' := LW W z36 f36) 9 (bc8_94_12 call x1 x2 x3 x4 ((x4 * 12) + x2) 1 o7 9 z36 f36) ?_
          obtain ⟨r37, z37, f37, hc, H⟩ := H
          refine xc_call (t := 61) (ls' := [some (vR 8), some (vI x1), some (vI x2), some (vI x3), some (vI x4), some (vI ((x4 * 12) + x2)), some (vI 1), some (vI 9)]) (st' := [vI x1, vI ((x4 * 12) + x2), vR 2]) (bc8_94_13 call x1 1 x1 ((x4 * 12) + x2) _ z36 f36) hc ?_
          show XC call (mP 94) 61 [some (vR 8), some (vI x1), some (vI x2), some (vI x3), some (vI x4), some (vI ((x4 * 12) + x2)), some (vI 1), some (vI 9)] [vI r37, vI x1, vI ((x4 * 12) + x2), vR 2] (LW W z37 f37) res
          refine xc_b (i' := 62) (ls' := [some (vR 8), some (vI x1), some (vI x2), some (vI x3), some (vI x4), some (vI ((x4 * 12) + x2)), some (vI 1), some (vI 9)]) (st' := [vI 9, vI r37, vI x1, vI ((x4 * 12) + x2), vR 2]) (L' := LW W z37 f37) 1 (bc8_94_14 call x1 x2 x3 x4 ((x4 * 12) + x2) 1 9 r37 x1 ((x4 * 12) + x2) _) ?_
          obtain ⟨z38, f38, hc, H⟩ := H
          refine xc_call (t := 63) (ls' := [some (vR 8), some (vI x1), some (vI x2), some (vI x3), some (vI x4), some (vI ((x4 * 12) + x2)), some (vI 1), some (vI 9)]) (st' := []) (bc8_94_15 call ((x4 * 12) + x2) x1 r37 9 _ z37 f37) hc ?_
          show XC call (mP 94) 63 [some (vR 8), some (vI x1), some (vI x2), some (vI x3), some (vI x4), some (vI ((x4 * 12) + x2)), some (vI 1), some (vI 9)] [] (LW W z38 f38) res
          refine xc_b (i' := 71) (ls' := [some (vR 8), some (vI x1), some (vI x2), some (vI x3), some (vI x4), some (vI ((x4 * 12) + x2)), some (vI 1), some (vI 9)]) (st' := [vI 5, vI x1, vR 2, vI 5, vI x1, vR 2]) (L' := LW W z38 f38) 8 (bc8_94_16 call x1 x2 x3 x4 ((x4 * 12) + x2) 1 9 z38 f38) ?_
          obtain ⟨r39, z39, f39, hc, H⟩ := H
          refine xc_call (t := 72) (ls' := [some (vR 8), some (vI x1), some (vI x2), some (vI x3), some (vI x4), some (vI ((x4 * 12) + x2)), some (vI 1), some (vI 9)]) (st' := [vI 5, vI x1, vR 2]) (bc8_94_17 call x1 5 5 x1 _ z38 f38) hc ?_
          show XC call (mP 94) 72 [some (vR 8), some (vI x1), some (vI x2), some (vI x3), some (vI x4), some (vI ((x4 * 12) + x2)), some (vI 1), some (vI 9)] [vI r39, vI 5, vI x1, vR 2] (LW W z39 f39) res
          refine xc_b (i' := 74) (ls' := [some (vR 8), some (vI x1), some (vI x2), some (vI x3), some (vI x4), some (vI ((x4 * 12) + x2)), some (vI 1), some (vI 9)]) (st' := [vI (r39 + 1), vI 5, vI x1, vR 2]) (L' := LW W z39 f39) 2 (bc8_94_18 call x1 x2 x3 x4 ((x4 * 12) + x2) 1 9 r39 5 x1 _) ?_
          obtain ⟨z40, f40, hc, H⟩ := H
          refine xc_call (t := 75) (ls' := [some (vR 8), some (vI x1), some (vI x2), some (vI x3), some (vI x4), some (vI ((x4 * 12) + x2)), some (vI 1), some (vI 9)]) (st' := []) (bc8_94_19 call x1 5 (r39 + 1) _ z39 f39) hc ?_
          show XC call (mP 94) 75 [some (vR 8), some (vI x1), some (vI x2), some (vI x3), some (vI x4), some (vI ((x4 * 12) + x2)), some (vI 1), some (vI 9)] [] (LW W z40 f40) res
          refine xc_b (i' := 79) (ls' := [some (vR 8), some (vI x1), some (vI x2), some (vI x3), some (vI x4), some (vI ((x4 * 12) + x2)), some (vI 1), some (vI 9)]) (st' := [vI ((x4 * 12) + x2), vI x1, vI 1, vR 8]) (L' := LW W z40 f40) 4 (bc8_94_20 call x1 x2 x3 x4 ((x4 * 12) + x2) 1 9 _) ?_
          obtain ⟨z41, f41, hc, H⟩ := H
          refine xc_call (t := 80) (ls' := [some (vR 8), some (vI x1), some (vI x2), some (vI x3), some (vI x4), some (vI ((x4 * 12) + x2)), some (vI 1), some (vI 9)]) (st' := []) (bc8_94_21 call 1 x1 ((x4 * 12) + x2) _ z40 f40) hc ?_
          show XC call (mP 94) 80 [some (vR 8), some (vI x1), some (vI x2), some (vI x3), some (vI x4), some (vI ((x4 * 12) + x2)), some (vI 1), some (vI 9)] [] (LW W z41 f41) res
          refine xc_b (i' := 81) (ls' := [some (vR 8), some (vI x1), some (vI x2), some (vI x3), some (vI x4), some (vI ((x4 * 12) + x2)), some (vI 1), some (vI 9)]) (st' := [vI ((x4 * 12) + x2)]) (L' := LW W z41 f41) 1 (bc8_94_22 call x1 x2 x3 x4 ((x4 * 12) + x2) 1 9 _) ?_
          subst H
          exact xc_ret (bc8_94_23 call _ _ _)
        · have H := H.2 (cI2f q8 rfl rfl)
          refine xc_b (i' := 60) (ls' := [some (vR 8), some (vI x1), some (vI x2), some (vI x3), some (vI x4), some (vI ((x4 * 12) + x2)), some (vI 1), some (vI (1 + (r36 / 2)))]) (st' := [vI 1, vI x1, vR 2, vI x1, vI ((x4 * 12) + x2), vR 2]) (L' := LW W z36 f36) 9 (bc8_94_12 call x1 x2 x3 x4 ((x4 * 12) + x2) 1 o7 (1 + (r36 / 2)) z36 f36) ?_
          obtain ⟨r42, z42, f42, hc, H⟩ := H
          refine xc_call (t := 61) (ls' := [some (vR 8), some (vI x1), some (vI x2), some (vI x3), some (vI x4), some (vI ((x4 * 12) + x2)), some (vI 1), some (vI (1 + (r36 / 2)))]) (st' := [vI x1, vI ((x4 * 12) + x2), vR 2]) (bc8_94_13 call x1 1 x1 ((x4 * 12) + x2) _ z36 f36) hc ?_
          show XC call (mP 94) 61 [some (vR 8), some (vI x1), some (vI x2), some (vI x3), some (vI x4), some (vI ((x4 * 12) + x2)), some (vI 1), some (vI (1 + (r36 / 2)))] [vI r42, vI x1, vI ((x4 * 12) + x2), vR 2] (LW W z42 f42) res
          refine xc_b (i' := 62) (ls' := [some (vR 8), some (vI x1), some (vI x2), some (vI x3), some (vI x4), some (vI ((x4 * 12) + x2)), some (vI 1), some (vI (1 + (r36 / 2)))]) (st' := [vI (1 + (r36 / 2)), vI r42, vI x1, vI ((x4 * 12) + x2), vR 2]) (L' := LW W z42 f42) 1 (bc8_94_14 call x1 x2 x3 x4 ((x4 * 12) + x2) 1 (1 + (r36 / 2)) r42 x1 ((x4 * 12) + x2) _) ?_
          obtain ⟨z43, f43, hc, H⟩ := H
          refine xc_call (t := 63) (ls' := [some (vR 8), some (vI x1), some (vI x2), some (vI x3), some (vI x4), some (vI ((x4 * 12) + x2)), some (vI 1), some (vI (1 + (r36 / 2)))]) (st' := []) (bc8_94_15 call ((x4 * 12) + x2) x1 r42 (1 + (r36 / 2)) _ z42 f42) hc ?_
          show XC call (mP 94) 63 [some (vR 8), some (vI x1), some (vI x2), some (vI x3), some (vI x4), some (vI ((x4 * 12) + x2)), some (vI 1), some (vI (1 + (r36 / 2)))] [] (LW W z43 f43) res
          refine xc_b (i' := 71) (ls' := [some (vR 8), some (vI x1), some (vI x2), some (vI x3), some (vI x4), some (vI ((x4 * 12) + x2)), some (vI 1), some (vI (1 + (r36 / 2)))]) (st' := [vI 5, vI x1, vR 2, vI 5, vI x1, vR 2]) (L' := LW W z43 f43) 8 (bc8_94_16 call x1 x2 x3 x4 ((x4 * 12) + x2) 1 (1 + (r36 / 2)) z43 f43) ?_
          obtain ⟨r44, z44, f44, hc, H⟩ := H
          refine xc_call (t := 72) (ls' := [some (vR 8), some (vI x1), some (vI x2), some (vI x3), some (vI x4), some (vI ((x4 * 12) + x2)), some (vI 1), some (vI (1 + (r36 / 2)))]) (st' := [vI 5, vI x1, vR 2]) (bc8_94_17 call x1 5 5 x1 _ z43 f43) hc ?_
          show XC call (mP 94) 72 [some (vR 8), some (vI x1), some (vI x2), some (vI x3), some (vI x4), some (vI ((x4 * 12) + x2)), some (vI 1), some (vI (1 + (r36 / 2)))] [vI r44, vI 5, vI x1, vR 2] (LW W z44 f44) res
          refine xc_b (i' := 74) (ls' := [some (vR 8), some (vI x1), some (vI x2), some (vI x3), some (vI x4), some (vI ((x4 * 12) + x2)), some (vI 1), some (vI (1 + (r36 / 2)))]) (st' := [vI (r44 + 1), vI 5, vI x1, vR 2]) (L' := LW W z44 f44) 2 (bc8_94_18 call x1 x2 x3 x4 ((x4 * 12) + x2) 1 (1 + (r36 / 2)) r44 5 x1 _) ?_
          obtain ⟨z45, f45, hc, H⟩ := H
          refine xc_call (t := 75) (ls' := [some (vR 8), some (vI x1), some (vI x2), some (vI x3), some (vI x4), some (vI ((x4 * 12) + x2)), some (vI 1), some (vI (1 + (r36 / 2)))]) (st' := []) (bc8_94_19 call x1 5 (r44 + 1) _ z44 f44) hc ?_
          show XC call (mP 94) 75 [some (vR 8), some (vI x1), some (vI x2), some (vI x3), some (vI x4), some (vI ((x4 * 12) + x2)), some (vI 1), some (vI (1 + (r36 / 2)))] [] (LW W z45 f45) res
          refine xc_b (i' := 79) (ls' := [some (vR 8), some (vI x1), some (vI x2), some (vI x3), some (vI x4), some (vI ((x4 * 12) + x2)), some (vI 1), some (vI (1 + (r36 / 2)))]) (st' := [vI ((x4 * 12) + x2), vI x1, vI 1, vR 8]) (L' := LW W z45 f45) 4 (bc8_94_20 call x1 x2 x3 x4 ((x4 * 12) + x2) 1 (1 + (r36 / 2)) _) ?_
          obtain ⟨z46, f46, hc, H⟩ := H
          refine xc_call (t := 80) (ls' := [some (vR 8), some (vI x1), some (vI x2), some (vI x3), some (vI x4), some (vI ((x4 * 12) + x2)), some (vI 1), some (vI (1 + (r36 / 2)))]) (st' := []) (bc8_94_21 call 1 x1 ((x4 * 12) + x2) _ z45 f45) hc ?_
          show XC call (mP 94) 80 [some (vR 8), some (vI x1), some (vI x2), some (vI x3), some (vI x4), some (vI ((x4 * 12) + x2)), some (vI 1), some (vI (1 + (r36 / 2)))] [] (LW W z46 f46) res
          refine xc_b (i' := 81) (ls' := [some (vR 8), some (vI x1), some (vI x2), some (vI x3), some (vI x4), some (vI ((x4 * 12) + x2)), some (vI 1), some (vI (1 + (r36 / 2)))]) (st' := [vI ((x4 * 12) + x2)]) (L' := LW W z46 f46) 1 (bc8_94_22 call x1 x2 x3 x4 ((x4 * 12) + x2) 1 (1 + (r36 / 2)) _) ?_
          subst H
          exact xc_ret (bc8_94_23 call _ _ _)
    · have H := H.2 (cI3f q5 rfl rfl)
      refine xc_b (i' := 21) (ls' := [some (vR 8), some (vI x1), some (vI x2), some (vI x3), some (vI x4), o5, o6, o7]) (st' := [vI ((x4 * 12) + x2), vR 2]) (L' := LW W z f) 7 (bc8_94_27 call x1 x2 x3 x4 o5 o6 o7 z f) ?_
      obtain ⟨r47, z47, f47, hc, H⟩ := H
      refine xc_call (t := 22) (ls' := [some (vR 8), some (vI x1), some (vI x2), some (vI x3), some (vI x4), o5, o6, o7]) (st' := []) (bc8_94_28 call ((x4 * 12) + x2) _ z f) hc ?_
      show XC call (mP 94) 22 [some (vR 8), some (vI x1), some (vI x2), some (vI x3), some (vI x4), o5, o6, o7] [vI r47] (LW W z47 f47) res
      refine xc_if (it := 25) (ie := 23) (ls' := [some (vR 8), some (vI x1), some (vI x2), some (vI x3), some (vI x4), o5, o6, o7]) (st' := []) (bc8_94_29 call r47 _ _) (fun q9 => ?_) (fun q9 => ?_)
      · have H := H.1 (cI0t q9)
        refine xc_b (i' := 34) (ls' := [some (vR 8), some (vI x1), some (vI x2), some (vI x3), some (vI x4), some (vI ((x4 * 12) + x2)), o6, o7]) (st' := [vI ((x4 * 12) + x2), vR 2]) (L' := LW W z47 f47) 9 (bc8_94_3 call x1 x2 x3 x4 o5 o6 o7 z47 f47) ?_
        obtain ⟨r48, z48, f48, hc, H⟩ := H
        refine xc_call (t := 35) (ls' := [some (vR 8), some (vI x1), some (vI x2), some (vI x3), some (vI x4), some (vI ((x4 * 12) + x2)), o6, o7]) (st' := []) (bc8_94_4 call ((x4 * 12) + x2) _ z47 f47) hc ?_
        show XC call (mP 94) 35 [some (vR 8), some (vI x1), some (vI x2), some (vI x3), some (vI x4), some (vI ((x4 * 12) + x2)), o6, o7] [vI r48] (LW W z48 f48) res
        refine xc_if (it := 38) (ie := 36) (ls' := [some (vR 8), some (vI x1), some (vI x2), some (vI x3), some (vI x4), some (vI ((x4 * 12) + x2)), o6, o7]) (st' := []) (bc8_94_5 call r48 _ _) (fun q10 => ?_) (fun q10 => ?_)
        · have H := H.1 (cI0t q10)
          refine xc_b (i' := 45) (ls' := [some (vR 8), some (vI x1), some (vI x2), some (vI x3), some (vI x4), some (vI ((x4 * 12) + x2)), some (vI 0), o7]) (st' := [vI 3, vI x1, vR 2, vI 1]) (L' := LW W z48 f48) 7 (bc8_94_6 call x1 x2 x3 x4 ((x4 * 12) + x2) o6 o7 z48 f48) ?_
          obtain ⟨r49, z49, f49, hc, H⟩ := H
          refine xc_call (t := 46) (ls' := [some (vR 8), some (vI x1), some (vI x2), some (vI x3), some (vI x4), some (vI ((x4 * 12) + x2)), some (vI 0), o7]) (st' := [vI 1]) (bc8_94_7 call x1 3 1 _ z48 f48) hc ?_
          show XC call (mP 94) 46 [some (vR 8), some (vI x1), some (vI x2), some (vI x3), some (vI x4), some (vI ((x4 * 12) + x2)), some (vI 0), o7] [vI r49, vI 1] (LW W z49 f49) res
          refine xc_b (i' := 47) (ls' := [some (vR 8), some (vI x1), some (vI x2), some (vI x3), some (vI x4), some (vI ((x4 * 12) + x2)), some (vI 0), o7]) (st' := [vI 2, vI r49, vI 1]) (L' := LW W z49 f49) 1 (bc8_94_8 call x1 x2 x3 x4 ((x4 * 12) + x2) 0 o7 r49 1 _) ?_
          obtain ⟨g1, H⟩ := H
          refine xc_g (i' := 48) (ls' := [some (vR 8), some (vI x1), some (vI x2), some (vI x3), some (vI x4), some (vI ((x4 * 12) + x2)), some (vI 0), o7]) (st' := [vI (r49 / 2), vI 1]) (L' := LW W z49 f49) (bc8_94_9 call r49 2 1 _ _) (cmp_ne.trans (decide_eq_true g1)) ?_
          refine xc_b (i' := 50) (ls' := [some (vR 8), some (vI x1), some (vI x2), some (vI x3), some (vI x4), some (vI ((x4 * 12) + x2)), some (vI 0), o7]) (st' := [vI 9, vI (1 + (r49 / 2))]) (L' := LW W z49 f49) 2 (bc8_94_10 call x1 x2 x3 x4 ((x4 * 12) + x2) 0 o7 (r49 / 2) 1 _) ?_
          refine xc_if2 (it := 51) (ie := 51) (ls' := [some (vR 8), some (vI x1), some (vI x2), some (vI x3), some (vI x4), some (vI ((x4 * 12) + x2)), some (vI 0), o7]) (st1 := [vI 9]) (st2 := [vI (1 + (r49 / 2))]) (bc8_94_11 call (1 + (r49 / 2)) 9 _ _) (fun q11 => ?_) (fun q11 => ?_)
          · have H := H.1 (cI2t q11 rfl rfl)
            refine xc_b (i' := 60) (ls' := [some (vR 8), some (vI x1), some (vI x2), some (vI x3), some (vI x4), some (vI ((x4 * 12) + x2)), some (vI 0), some (vI 9)]) (st' := [vI 1, vI x1, vR 2, vI x1, vI ((x4 * 12) + x2), vR 2]) (L' := LW W z49 f49) 9 (bc8_94_12 call x1 x2 x3 x4 ((x4 * 12) + x2) 0 o7 9 z49 f49) ?_
            obtain ⟨r50, z50, f50, hc, H⟩ := H
            refine xc_call (t := 61) (ls' := [some (vR 8), some (vI x1), some (vI x2), some (vI x3), some (vI x4), some (vI ((x4 * 12) + x2)), some (vI 0), some (vI 9)]) (st' := [vI x1, vI ((x4 * 12) + x2), vR 2]) (bc8_94_13 call x1 1 x1 ((x4 * 12) + x2) _ z49 f49) hc ?_
            show XC call (mP 94) 61 [some (vR 8), some (vI x1), some (vI x2), some (vI x3), some (vI x4), some (vI ((x4 * 12) + x2)), some (vI 0), some (vI 9)] [vI r50, vI x1, vI ((x4 * 12) + x2), vR 2] (LW W z50 f50) res
            refine xc_b (i' := 62) (ls' := [some (vR 8), some (vI x1), some (vI x2), some (vI x3), some (vI x4), some (vI ((x4 * 12) + x2)), some (vI 0), some (vI 9)]) (st' := [vI 9, vI r50, vI x1, vI ((x4 * 12) + x2), vR 2]) (L' := LW W z50 f50) 1 (bc8_94_14 call x1 x2 x3 x4 ((x4 * 12) + x2) 0 9 r50 x1 ((x4 * 12) + x2) _) ?_
            obtain ⟨z51, f51, hc, H⟩ := H
            refine xc_call (t := 63) (ls' := [some (vR 8), some (vI x1), some (vI x2), some (vI x3), some (vI x4), some (vI ((x4 * 12) + x2)), some (vI 0), some (vI 9)]) (st' := []) (bc8_94_15 call ((x4 * 12) + x2) x1 r50 9 _ z50 f50) hc ?_
            show XC call (mP 94) 63 [some (vR 8), some (vI x1), some (vI x2), some (vI x3), some (vI x4), some (vI ((x4 * 12) + x2)), some (vI 0), some (vI 9)] [] (LW W z51 f51) res
            refine xc_b (i' := 71) (ls' := [some (vR 8), some (vI x1), some (vI x2), some (vI x3), some (vI x4), some (vI ((x4 * 12) + x2)), some (vI 0), some (vI 9)]) (st' := [vI 5, vI x1, vR 2, vI 5, vI x1, vR 2]) (L' := LW W z51 f51) 8 (bc8_94_16 call x1 x2 x3 x4 ((x4 * 12) + x2) 0 9 z51 f51) ?_
            obtain ⟨r52, z52, f52, hc, H⟩ := H
            refine xc_call (t := 72) (ls' := [some (vR 8), some (vI x1), some (vI x2), some (vI x3), some (vI x4), some (vI ((x4 * 12) + x2)), some (vI 0), some (vI 9)]) (st' := [vI 5, vI x1, vR 2]) (bc8_94_17 call x1 5 5 x1 _ z51 f51) hc ?_
            show XC call (mP 94) 72 [some (vR 8), some (vI x1), some (vI x2), some (vI x3), some (vI x4), some (vI ((x4 * 12) + x2)), some (vI 0), some (vI 9)] [vI r52, vI 5, vI x1, vR 2] (LW W z52 f52) res
            refine xc_b (i' := 74) (ls' := [some (vR 8), some (vI x1), some (vI x2), some (vI x3), some (vI x4), some (vI ((x4 * 12) + x2)), some (vI 0), some (vI 9)]) (st' := [vI (r52 + 1), vI 5, vI x1, vR 2]) (L' := LW W z52 f52) 2 (bc8_94_18 call x1 x2 x3 x4 ((x4 * 12) + x2) 0 9 r52 5 x1 _) ?_
            obtain ⟨z53, f53, hc, H⟩ := H
            refine xc_call (t := 75) (ls' := [some (vR 8), some (vI x1), some (vI x2), some (vI x3), some (vI x4), some (vI ((x4 * 12) + x2)), some (vI 0), some (vI 9)]) (st' := []) (bc8_94_19 call x1 5 (r52 + 1) _ z52 f52) hc ?_
            show XC call (mP 94) 75 [some (vR 8), some (vI x1), some (vI x2), some (vI x3), some (vI x4), some (vI ((x4 * 12) + x2)), some (vI 0), some (vI 9)] [] (LW W z53 f53) res
            refine xc_b (i' := 79) (ls' := [some (vR 8), some (vI x1), some (vI x2), some (vI x3), some (vI x4), some (vI ((x4 * 12) + x2)), some (vI 0), some (vI 9)]) (st' := [vI ((x4 * 12) + x2), vI x1, vI 0, vR 8]) (L' := LW W z53 f53) 4 (bc8_94_20 call x1 x2 x3 x4 ((x4 * 12) + x2) 0 9 _) ?_
            obtain ⟨z54, f54, hc, H⟩ := H
            refine xc_call (t := 80) (ls' := [some (vR 8), some (vI x1), some (vI x2), some (vI x3), some (vI x4), some (vI ((x4 * 12) + x2)), some (vI 0), some (vI 9)]) (st' := []) (bc8_94_21 call 0 x1 ((x4 * 12) + x2) _ z53 f53) hc ?_
            show XC call (mP 94) 80 [some (vR 8), some (vI x1), some (vI x2), some (vI x3), some (vI x4), some (vI ((x4 * 12) + x2)), some (vI 0), some (vI 9)] [] (LW W z54 f54) res
            refine xc_b (i' := 81) (ls' := [some (vR 8), some (vI x1), some (vI x2), some (vI x3), some (vI x4), some (vI ((x4 * 12) + x2)), some (vI 0), some (vI 9)]) (st' := [vI ((x4 * 12) + x2)]) (L' := LW W z54 f54) 1 (bc8_94_22 call x1 x2 x3 x4 ((x4 * 12) + x2) 0 9 _) ?_
            subst H
            exact xc_ret (bc8_94_23 call _ _ _)
          · have H := H.2 (cI2f q11 rfl rfl)
            refine xc_b (i' := 60) (ls' := [some (vR 8), some (vI x1), some (vI x2), some (vI x3), some (vI x4), some (vI ((x4 * 12) + x2)), some (vI 0), some (vI (1 + (r49 / 2)))]) (st' := [vI 1, vI x1, vR 2, vI x1, vI ((x4 * 12) + x2), vR 2]) (L' := LW W z49 f49) 9 (bc8_94_12 call x1 x2 x3 x4 ((x4 * 12) + x2) 0 o7 (1 + (r49 / 2)) z49 f49) ?_
            obtain ⟨r55, z55, f55, hc, H⟩ := H
            refine xc_call (t := 61) (ls' := [some (vR 8), some (vI x1), some (vI x2), some (vI x3), some (vI x4), some (vI ((x4 * 12) + x2)), some (vI 0), some (vI (1 + (r49 / 2)))]) (st' := [vI x1, vI ((x4 * 12) + x2), vR 2]) (bc8_94_13 call x1 1 x1 ((x4 * 12) + x2) _ z49 f49) hc ?_
            show XC call (mP 94) 61 [some (vR 8), some (vI x1), some (vI x2), some (vI x3), some (vI x4), some (vI ((x4 * 12) + x2)), some (vI 0), some (vI (1 + (r49 / 2)))] [vI r55, vI x1, vI ((x4 * 12) + x2), vR 2] (LW W z55 f55) res
            refine xc_b (i' := 62) (ls' := [some (vR 8), some (vI x1), some (vI x2), some (vI x3), some (vI x4), some (vI ((x4 * 12) + x2)), some (vI 0), some (vI (1 + (r49 / 2)))]) (st' := [vI (1 + (r49 / 2)), vI r55, vI x1, vI ((x4 * 12) + x2), vR 2]) (L' := LW W z55 f55) 1 (bc8_94_14 call x1 x2 x3 x4 ((x4 * 12) + x2) 0 (1 + (r49 / 2)) r55 x1 ((x4 * 12) + x2) _) ?_
            obtain ⟨z56, f56, hc, H⟩ := H
            refine xc_call (t := 63) (ls' := [some (vR 8), some (vI x1), some (vI x2), some (vI x3), some (vI x4), some (vI ((x4 * 12) + x2)), some (vI 0), some (vI (1 + (r49 / 2)))]) (st' := []) (bc8_94_15 call ((x4 * 12) + x2) x1 r55 (1 + (r49 / 2)) _ z55 f55) hc ?_
            show XC call (mP 94) 63 [some (vR 8), some (vI x1), some (vI x2), some (vI x3), some (vI x4), some (vI ((x4 * 12) + x2)), some (vI 0), some (vI (1 + (r49 / 2)))] [] (LW W z56 f56) res
            refine xc_b (i' := 71) (ls' := [some (vR 8), some (vI x1), some (vI x2), some (vI x3), some (vI x4), some (vI ((x4 * 12) + x2)), some (vI 0), some (vI (1 + (r49 / 2)))]) (st' := [vI 5, vI x1, vR 2, vI 5, vI x1, vR 2]) (L' := LW W z56 f56) 8 (bc8_94_16 call x1 x2 x3 x4 ((x4 * 12) + x2) 0 (1 + (r49 / 2)) z56 f56) ?_
            obtain ⟨r57, z57, f57, hc, H⟩ := H
            refine xc_call (t := 72) (ls' := [some (vR 8), some (vI x1), some (vI x2), some (vI x3), some (vI x4), some (vI ((x4 * 12) + x2)), some (vI 0), some (vI (1 + (r49 / 2)))]) (st' := [vI 5, vI x1, vR 2]) (bc8_94_17 call x1 5 5 x1 _ z56 f56) hc ?_
            show XC call (mP 94) 72 [some (vR 8), some (vI x1), some (vI x2), some (vI x3), some (vI x4), some (vI ((x4 * 12) + x2)), some (vI 0), some (vI (1 + (r49 / 2)))] [vI r57, vI 5, vI x1, vR 2] (LW W z57 f57) res
            refine xc_b (i' := 74) (ls' := [some (vR 8), some (vI x1), some (vI x2), some (vI x3), some (vI x4), some (vI ((x4 * 12) + x2)), some (vI 0), some (vI (1 + (r49 / 2)))]) (st' := [vI (r57 + 1), vI 5, vI x1, vR 2]) (L' := LW W z57 f57) 2 (bc8_94_18 call x1 x2 x3 x4 ((x4 * 12) + x2) 0 (1 + (r49 / 2)) r57 5 x1 _) ?_
            obtain ⟨z58, f58, hc, H⟩ := H
            refine xc_call (t := 75) (ls' := [some (vR 8), some (vI x1), some (vI x2), some (vI x3), some (vI x4), some (vI ((x4 * 12) + x2)), some (vI 0), some (vI (1 + (r49 / 2)))]) (st' := []) (bc8_94_19 call x1 5 (r57 + 1) _ z57 f57) hc ?_
            show XC call (mP 94) 75 [some (vR 8), some (vI x1), some (vI x2), some (vI x3), some (vI x4), some (vI ((x4 * 12) + x2)), some (vI 0), some (vI (1 + (r49 / 2)))] [] (LW W z58 f58) res
            refine xc_b (i' := 79) (ls' := [some (vR 8), some (vI x1), some (vI x2), some (vI x3), some (vI x4), some (vI ((x4 * 12) + x2)), some (vI 0), some (vI (1 + (r49 / 2)))]) (st' := [vI ((x4 * 12) + x2), vI x1, vI 0, vR 8]) (L' := LW W z58 f58) 4 (bc8_94_20 call x1 x2 x3 x4 ((x4 * 12) + x2) 0 (1 + (r49 / 2)) _) ?_
            obtain ⟨z59, f59, hc, H⟩ := H
            refine xc_call (t := 80) (ls' := [some (vR 8), some (vI x1), some (vI x2), some (vI x3), some (vI x4), some (vI ((x4 * 12) + x2)), some (vI 0), some (vI (1 + (r49 / 2)))]) (st' := []) (bc8_94_21 call 0 x1 ((x4 * 12) + x2) _ z58 f58) hc ?_
            show XC call (mP 94) 80 [some (vR 8), some (vI x1), some (vI x2), some (vI x3), some (vI x4), some (vI ((x4 * 12) + x2)), some (vI 0), some (vI (1 + (r49 / 2)))] [] (LW W z59 f59) res
            refine xc_b (i' := 81) (ls' := [some (vR 8), some (vI x1), some (vI x2), some (vI x3), some (vI x4), some (vI ((x4 * 12) + x2)), some (vI 0), some (vI (1 + (r49 / 2)))]) (st' := [vI ((x4 * 12) + x2)]) (L' := LW W z59 f59) 1 (bc8_94_22 call x1 x2 x3 x4 ((x4 * 12) + x2) 0 (1 + (r49 / 2)) _) ?_
            subst H
            exact xc_ret (bc8_94_23 call _ _ _)
        · have H := H.2 (cI0f q10)
          refine xc_b (i' := 45) (ls' := [some (vR 8), some (vI x1), some (vI x2), some (vI x3), some (vI x4), some (vI ((x4 * 12) + x2)), some (vI 1), o7]) (st' := [vI 3, vI x1, vR 2, vI 1]) (L' := LW W z48 f48) 8 (bc8_94_24 call x1 x2 x3 x4 ((x4 * 12) + x2) o6 o7 z48 f48) ?_
          obtain ⟨r60, z60, f60, hc, H⟩ := H
          refine xc_call (t := 46) (ls' := [some (vR 8), some (vI x1), some (vI x2), some (vI x3), some (vI x4), some (vI ((x4 * 12) + x2)), some (vI 1), o7]) (st' := [vI 1]) (bc8_94_7 call x1 3 1 _ z48 f48) hc ?_
          show XC call (mP 94) 46 [some (vR 8), some (vI x1), some (vI x2), some (vI x3), some (vI x4), some (vI ((x4 * 12) + x2)), some (vI 1), o7] [vI r60, vI 1] (LW W z60 f60) res
          refine xc_b (i' := 47) (ls' := [some (vR 8), some (vI x1), some (vI x2), some (vI x3), some (vI x4), some (vI ((x4 * 12) + x2)), some (vI 1), o7]) (st' := [vI 2, vI r60, vI 1]) (L' := LW W z60 f60) 1 (bc8_94_8 call x1 x2 x3 x4 ((x4 * 12) + x2) 1 o7 r60 1 _) ?_
          obtain ⟨g1, H⟩ := H
          refine xc_g (i' := 48) (ls' := [some (vR 8), some (vI x1), some (vI x2), some (vI x3), some (vI x4), some (vI ((x4 * 12) + x2)), some (vI 1), o7]) (st' := [vI (r60 / 2), vI 1]) (L' := LW W z60 f60) (bc8_94_9 call r60 2 1 _ _) (cmp_ne.trans (decide_eq_true g1)) ?_
          refine xc_b (i' := 50) (ls' := [some (vR 8), some (vI x1), some (vI x2), some (vI x3), some (vI x4), some (vI ((x4 * 12) + x2)), some (vI 1), o7]) (st' := [vI 9, vI (1 + (r60 / 2))]) (L' := LW W z60 f60) 2 (bc8_94_10 call x1 x2 x3 x4 ((x4 * 12) + x2) 1 o7 (r60 / 2) 1 _) ?_
          refine xc_if2 (it := 51) (ie := 51) (ls' := [some (vR 8), some (vI x1), some (vI x2), some (vI x3), some (vI x4), some (vI ((x4 * 12) + x2)), some (vI 1), o7]) (st1 := [vI 9]) (st2 := [vI (1 + (r60 / 2))]) (bc8_94_11 call (1 + (r60 / 2)) 9 _ _) (fun q12 => ?_) (fun q12 => ?_)
          · have H := H.1 (cI2t q12 rfl rfl)
            refine xc_b (i' := 60) (ls' := [some (vR 8), some (vI x1), some (vI x2), some (vI x3), some (vI x4), some (vI ((x4 * 12) + x2)), some (vI 1), some (vI 9)]) (st' := [vI 1, vI x1, vR 2, vI x1, vI ((x4 * 12) + x2), vR 2]) (L' := LW W z60 f60) 9 (bc8_94_12 call x1 x2 x3 x4 ((x4 * 12) + x2) 1 o7 9 z60 f60) ?_
            obtain ⟨r61, z61, f61, hc, H⟩ := H
            refine xc_call (t := 61) (ls' := [some (vR 8), some (vI x1), some (vI x2), some (vI x3), some (vI x4), some (vI ((x4 * 12) + x2)), some (vI 1), some (vI 9)]) (st' := [vI x1, vI ((x4 * 12) + x2), vR 2]) (bc8_94_13 call x1 1 x1 ((x4 * 12) + x2) _ z60 f60) hc ?_
            show XC call (mP 94) 61 [some (vR 8), some (vI x1), some (vI x2), some (vI x3), some (vI x4), some (vI ((x4 * 12) + x2)), some (vI 1), some (vI 9)] [vI r61, vI x1, vI ((x4 * 12) + x2), vR 2] (LW W z61 f61) res
            refine xc_b (i' := 62) (ls' := [some (vR 8), some (vI x1), some (vI x2), some (vI x3), some (vI x4), some (vI ((x4 * 12) + x2)), some (vI 1), some (vI 9)]) (st' := [vI 9, vI r61, vI x1, vI ((x4 * 12) + x2), vR 2]) (L' := LW W z61 f61) 1 (bc8_94_14 call x1 x2 x3 x4 ((x4 * 12) + x2) 1 9 r61 x1 ((x4 * 12) + x2) _) ?_
            obtain ⟨z62, f62, hc, H⟩ := H
            refine xc_call (t := 63) (ls' := [some (vR 8), some (vI x1), some (vI x2), some (vI x3), some (vI x4), some (vI ((x4 * 12) + x2)), some (vI 1), some (vI 9)]) (st' := []) (bc8_94_15 call ((x4 * 12) + x2) x1 r61 9 _ z61 f61) hc ?_
            show XC call (mP 94) 63 [some (vR 8), some (vI x1), some (vI x2), some (vI x3), some (vI x4), some (vI ((x4 * 12) + x2)), some (vI 1), some (vI 9)] [] (LW W z62 f62) res
            refine xc_b (i' := 71) (ls' := [some (vR 8), some (vI x1), some (vI x2), some (vI x3), some (vI x4), some (vI ((x4 * 12) + x2)), some (vI 1), some (vI 9)]) (st' := [vI 5, vI x1, vR 2, vI 5, vI x1, vR 2]) (L' := LW W z62 f62) 8 (bc8_94_16 call x1 x2 x3 x4 ((x4 * 12) + x2) 1 9 z62 f62) ?_
            obtain ⟨r63, z63, f63, hc, H⟩ := H
            refine xc_call (t := 72) (ls' := [some (vR 8), some (vI x1), some (vI x2), some (vI x3), some (vI x4), some (vI ((x4 * 12) + x2)), some (vI 1), some (vI 9)]) (st' := [vI 5, vI x1, vR 2]) (bc8_94_17 call x1 5 5 x1 _ z62 f62) hc ?_
            show XC call (mP 94) 72 [some (vR 8), some (vI x1), some (vI x2), some (vI x3), some (vI x4), some (vI ((x4 * 12) + x2)), some (vI 1), some (vI 9)] [vI r63, vI 5, vI x1, vR 2] (LW W z63 f63) res
            refine xc_b (i' := 74) (ls' := [some (vR 8), some (vI x1), some (vI x2), some (vI x3), some (vI x4), some (vI ((x4 * 12) + x2)), some (vI 1), some (vI 9)]) (st' := [vI (r63 + 1), vI 5, vI x1, vR 2]) (L' := LW W z63 f63) 2 (bc8_94_18 call x1 x2 x3 x4 ((x4 * 12) + x2) 1 9 r63 5 x1 _) ?_
            obtain ⟨z64, f64, hc, H⟩ := H
            refine xc_call (t := 75) (ls' := [some (vR 8), some (vI x1), some (vI x2), some (vI x3), some (vI x4), some (vI ((x4 * 12) + x2)), some (vI 1), some (vI 9)]) (st' := []) (bc8_94_19 call x1 5 (r63 + 1) _ z63 f63) hc ?_
            show XC call (mP 94) 75 [some (vR 8), some (vI x1), some (vI x2), some (vI x3), some (vI x4), some (vI ((x4 * 12) + x2)), some (vI 1), some (vI 9)] [] (LW W z64 f64) res
            refine xc_b (i' := 79) (ls' := [some (vR 8), some (vI x1), some (vI x2), some (vI x3), some (vI x4), some (vI ((x4 * 12) + x2)), some (vI 1), some (vI 9)]) (st' := [vI ((x4 * 12) + x2), vI x1, vI 1, vR 8]) (L' := LW W z64 f64) 4 (bc8_94_20 call x1 x2 x3 x4 ((x4 * 12) + x2) 1 9 _) ?_
            obtain ⟨z65, f65, hc, H⟩ := H
            refine xc_call (t := 80) (ls' := [some (vR 8), some (vI x1), some (vI x2), some (vI x3), some (vI x4), some (vI ((x4 * 12) + x2)), some (vI 1), some (vI 9)]) (st' := []) (bc8_94_21 call 1 x1 ((x4 * 12) + x2) _ z64 f64) hc ?_
            show XC call (mP 94) 80 [some (vR 8), some (vI x1), some (vI x2), some (vI x3), some (vI x4), some (vI ((x4 * 12) + x2)), some (vI 1), some (vI 9)] [] (LW W z65 f65) res
            refine xc_b (i' := 81) (ls' := [some (vR 8), some (vI x1), some (vI x2), some (vI x3), some (vI x4), some (vI ((x4 * 12) + x2)), some (vI 1), some (vI 9)]) (st' := [vI ((x4 * 12) + x2)]) (L' := LW W z65 f65) 1 (bc8_94_22 call x1 x2 x3 x4 ((x4 * 12) + x2) 1 9 _) ?_
            subst H
            exact xc_ret (bc8_94_23 call _ _ _)
          · have H := H.2 (cI2f q12 rfl rfl)
            refine xc_b (i' := 60) (ls' := [some (vR 8), some (vI x1), some (vI x2), some (vI x3), some (vI x4), some (vI ((x4 * 12) + x2)), some (vI 1), some (vI (1 + (r60 / 2)))]) (st' := [vI 1, vI x1, vR 2, vI x1, vI ((x4 * 12) + x2), vR 2]) (L' := LW W z60 f60) 9 (bc8_94_12 call x1 x2 x3 x4 ((x4 * 12) + x2) 1 o7 (1 + (r60 / 2)) z60 f60) ?_
            obtain ⟨r66, z66, f66, hc, H⟩ := H
            refine xc_call (t := 61) (ls' := [some (vR 8), some (vI x1), some (vI x2), some (vI x3), some (vI x4), some (vI ((x4 * 12) + x2)), some (vI 1), some (vI (1 + (r60 / 2)))]) (st' := [vI x1, vI ((x4 * 12) + x2), vR 2]) (bc8_94_13 call x1 1 x1 ((x4 * 12) + x2) _ z60 f60) hc ?_
            show XC call (mP 94) 61 [some (vR 8), some (vI x1), some (vI x2), some (vI x3), some (vI x4), some (vI ((x4 * 12) + x2)), some (vI 1), some (vI (1 + (r60 / 2)))] [vI r66, vI x1, vI ((x4 * 12) + x2), vR 2] (LW W z66 f66) res
            refine xc_b (i' := 62) (ls' := [some (vR 8), some (vI x1), some (vI x2), some (vI x3), some (vI x4), some (vI ((x4 * 12) + x2)), some (vI 1), some (vI (1 + (r60 / 2)))]) (st' := [vI (1 + (r60 / 2)), vI r66, vI x1, vI ((x4 * 12) + x2), vR 2]) (L' := LW W z66 f66) 1 (bc8_94_14 call x1 x2 x3 x4 ((x4 * 12) + x2) 1 (1 + (r60 / 2)) r66 x1 ((x4 * 12) + x2) _) ?_
            obtain ⟨z67, f67, hc, H⟩ := H
            refine xc_call (t := 63) (ls' := [some (vR 8), some (vI x1), some (vI x2), some (vI x3), some (vI x4), some (vI ((x4 * 12) + x2)), some (vI 1), some (vI (1 + (r60 / 2)))]) (st' := []) (bc8_94_15 call ((x4 * 12) + x2) x1 r66 (1 + (r60 / 2)) _ z66 f66) hc ?_
            show XC call (mP 94) 63 [some (vR 8), some (vI x1), some (vI x2), some (vI x3), some (vI x4), some (vI ((x4 * 12) + x2)), some (vI 1), some (vI (1 + (r60 / 2)))] [] (LW W z67 f67) res
            refine xc_b (i' := 71) (ls' := [some (vR 8), some (vI x1), some (vI x2), some (vI x3), some (vI x4), some (vI ((x4 * 12) + x2)), some (vI 1), some (vI (1 + (r60 / 2)))]) (st' := [vI 5, vI x1, vR 2, vI 5, vI x1, vR 2]) (L' := LW W z67 f67) 8 (bc8_94_16 call x1 x2 x3 x4 ((x4 * 12) + x2) 1 (1 + (r60 / 2)) z67 f67) ?_
            obtain ⟨r68, z68, f68, hc, H⟩ := H
            refine xc_call (t := 72) (ls' := [some (vR 8), some (vI x1), some (vI x2), some (vI x3), some (vI x4), some (vI ((x4 * 12) + x2)), some (vI 1), some (vI (1 + (r60 / 2)))]) (st' := [vI 5, vI x1, vR 2]) (bc8_94_17 call x1 5 5 x1 _ z67 f67) hc ?_
            show XC call (mP 94) 72 [some (vR 8), some (vI x1), some (vI x2), some (vI x3), some (vI x4), some (vI ((x4 * 12) + x2)), some (vI 1), some (vI (1 + (r60 / 2)))] [vI r68, vI 5, vI x1, vR 2] (LW W z68 f68) res
            refine xc_b (i' := 74) (ls' := [some (vR 8), some (vI x1), some (vI x2), some (vI x3), some (vI x4), some (vI ((x4 * 12) + x2)), some (vI 1), some (vI (1 + (r60 / 2)))]) (st' := [vI (r68 + 1), vI 5, vI x1, vR 2]) (L' := LW W z68 f68) 2 (bc8_94_18 call x1 x2 x3 x4 ((x4 * 12) + x2) 1 (1 + (r60 / 2)) r68 5 x1 _) ?_
            obtain ⟨z69, f69, hc, H⟩ := H
            refine xc_call (t := 75) (ls' := [some (vR 8), some (vI x1), some (vI x2), some (vI x3), some (vI x4), some (vI ((x4 * 12) + x2)), some (vI 1), some (vI (1 + (r60 / 2)))]) (st' := []) (bc8_94_19 call x1 5 (r68 + 1) _ z68 f68) hc ?_
            show XC call (mP 94) 75 [some (vR 8), some (vI x1), some (vI x2), some (vI x3), some (vI x4), some (vI ((x4 * 12) + x2)), some (vI 1), some (vI (1 + (r60 / 2)))] [] (LW W z69 f69) res
            refine xc_b (i' := 79) (ls' := [some (vR 8), some (vI x1), some (vI x2), some (vI x3), some (vI x4), some (vI ((x4 * 12) + x2)), some (vI 1), some (vI (1 + (r60 / 2)))]) (st' := [vI ((x4 * 12) + x2), vI x1, vI 1, vR 8]) (L' := LW W z69 f69) 4 (bc8_94_20 call x1 x2 x3 x4 ((x4 * 12) + x2) 1 (1 + (r60 / 2)) _) ?_
            obtain ⟨z70, f70, hc, H⟩ := H
            refine xc_call (t := 80) (ls' := [some (vR 8), some (vI x1), some (vI x2), some (vI x3), some (vI x4), some (vI ((x4 * 12) + x2)), some (vI 1), some (vI (1 + (r60 / 2)))]) (st' := []) (bc8_94_21 call 1 x1 ((x4 * 12) + x2) _ z69 f69) hc ?_
            show XC call (mP 94) 80 [some (vR 8), some (vI x1), some (vI x2), some (vI x3), some (vI x4), some (vI ((x4 * 12) + x2)), some (vI 1), some (vI (1 + (r60 / 2)))] [] (LW W z70 f70) res
            refine xc_b (i' := 81) (ls' := [some (vR 8), some (vI x1), some (vI x2), some (vI x3), some (vI x4), some (vI ((x4 * 12) + x2)), some (vI 1), some (vI (1 + (r60 / 2)))]) (st' := [vI ((x4 * 12) + x2)]) (L' := LW W z70 f70) 1 (bc8_94_22 call x1 x2 x3 x4 ((x4 * 12) + x2) 1 (1 + (r60 / 2)) _) ?_
            subst H
            exact xc_ret (bc8_94_23 call _ _ _)
      · have H := H.2 (cI0f q9)
        refine xc_b (i' := 24) (ls' := [some (vR 8), some (vI x1), some (vI x2), some (vI x3), some (vI (x4 + 1)), o5, o6, o7]) (st' := []) (L' := LW W z47 f47) 1 (bc8_94_30 call x1 x2 x3 x4 o5 o6 o7 _) ?_
        refine xc_b (i' := 8) (ls' := [some (vR 8), some (vI x1), some (vI x2), some (vI x3), some (vI (x4 + 1)), o5, o6, o7]) (st' := []) (L' := LW W z47 f47) 1 (bc8_94_31 call x1 x2 x3 (x4 + 1) o5 o6 o7 _) ?_
        exact H
set_option maxRecDepth 100000 in
theorem b101_1 (call : QC FA) (x1 : Int32) (x2 : Int32) (o3 : Option PV) (z : Nat → Int32) (f : Nat → FA) (F : Nat) : xnG call 101 (F + 3) 0 [some (vR 8), some (vI x1), some (vI x2), o3] [] (LW W z f) = xnG call 101 F 3 [some (vR 8), some (vI x1), some (vI x2), o3] [vI x1, vR 2] (LW W z f) := rfl
set_option maxRecDepth 100000 in
theorem b101_2 (call : QC FA) (a0 : Int32) (ls : List (Option PV)) (z : Nat → Int32) (f : Nat → FA) (F : Nat) : xnG call 101 (F + 1) 3 ls [vI a0, vR 2] (LW W z f) = cbd (call 6 [vR 2, vI a0] (LW W z f)) (fun r L' => xnG call 101 F 4 ls (r.toList ++ []) L') := pcY (ih := xnG call 101 F) (call := call) (a := 6) (b := 1) (v := 0) (t := 4) (x := 2) (ls := ls) (As := [vI a0]) (st' := []) (L := LW W z f) rfl rfl rfl
set_option maxRecDepth 100000 in
theorem b101_3 (call : QC FA) (x : Int32) (ls : List (Option PV)) (L : QH FA) (F : Nat) : xnG call 101 (F + 1) 4 ls [vI x] L = bif pcmp 0 x 0 then xnG call 101 F 19 ls [] L else xnG call 101 F 5 ls [] L := rfl
set_option maxRecDepth 100000 in
theorem b101_4 (call : QC FA) (ls : List (Option PV)) (L : QH FA) (F : Nat) : xnG call 101 (F + 1) 19 ls [] L = some (none, L) := rfl
set_option maxRecDepth 100000 in
theorem b101_5 (call : QC FA) (x1 : Int32) (x2 : Int32) (o3 : Option PV) (z : Nat → Int32) (f : Nat → FA) (F : Nat) : xnG call 101 (F + 3) 5 [some (vR 8), some (vI x1), some (vI x2), o3] [] (LW W z f) = xnG call 101 F 8 [some (vR 8), some (vI x1), some (vI x2), o3] [vI x1, vR 2] (LW W z f) := rfl
set_option maxRecDepth 100000 in
theorem b101_6 (call : QC FA) (a0 : Int32) (ls : List (Option PV)) (z : Nat → Int32) (f : Nat → FA) (F : Nat) : xnG call 101 (F + 1) 8 ls [vI a0, vR 2] (LW W z f) = cbd (call 11 [vR 2, vI a0] (LW W z f)) (fun r L' => xnG call 101 F 9 ls (r.toList ++ []) L') := pcY (ih := xnG call 101 F) (call := call) (a := 11) (b := 1) (v := 0) (t := 9) (x := 2) (ls := ls) (As := [vI a0]) (st' := []) (L := LW W z f) rfl rfl rfl
set_option maxRecDepth 100000 in
theorem b101_7 (call : QC FA) (x1 : Int32) (x2 : Int32) (o3 : Option PV) (s0 : Int32) (z : Nat → Int32) (f : Nat → FA) (F : Nat) : xnG call 101 (F + 4) 9 [some (vR 8), some (vI x1), some (vI x2), o3] [vI s0] (LW W z f) = xnG call 101 F 13 [some (vR 8), some (vI x1), some (vI x2), some (vI s0)] [vI x1, vR 2] (LW W z f) := rfl
set_option maxRecDepth 100000 in
theorem b101_8 (call : QC FA) (a0 : Int32) (ls : List (Option PV)) (z : Nat → Int32) (f : Nat → FA) (F : Nat) : xnG call 101 (F + 1) 13 ls [vI a0, vR 2] (LW W z f) = cbd (call 89 [vR 2, vI a0] (LW W z f)) (fun r L' => xnG call 101 F 14 ls (r.toList ++ []) L') := pcY (ih := xnG call 101 F) (call := call) (a := 89) (b := 1) (v := 0) (t := 14) (x := 2) (ls := ls) (As := [vI a0]) (st' := []) (L := LW W z f) rfl rfl rfl
set_option maxRecDepth 100000 in
theorem b101_9 (call : QC FA) (x1 : Int32) (x2 : Int32) (x3 : Int32) (L : QH FA) (F : Nat) : xnG call 101 (F + 4) 14 [some (vR 8), some (vI x1), some (vI x2), some (vI x3)] [] L = xnG call 101 F 18 [some (vR 8), some (vI x1), some (vI x2), some (vI x3)] [vI x1, vI x3, vI x2, vR 8] L := rfl
set_option maxRecDepth 100000 in
theorem b101_10 (call : QC FA) (a0 : Int32) (a1 : Int32) (a2 : Int32) (ls : List (Option PV)) (z : Nat → Int32) (f : Nat → FA) (F : Nat) : xnG call 101 (F + 1) 18 ls [vI a2, vI a1, vI a0, vR 8] (LW W z f) = cbd (call 97 [vR 8, vI a0, vI a1, vI a2] (LW W z f)) (fun r L' => xnG call 101 F 19 ls (r.toList ++ []) L') := pcY (ih := xnG call 101 F) (call := call) (a := 97) (b := 3) (v := 1) (t := 19) (x := 8) (ls := ls) (As := [vI a0, vI a1, vI a2]) (st' := []) (L := LW W z f) rfl rfl rfl
theorem vc101_0 (call : QC FA) (x1 : Int32) (x2 : Int32) (o3 : Option PV) (z : Nat → Int32) (f : Nat → FA) (res : Option PV × QH FA) (H : (∃ (r1 : Int32) (z1 : Nat → Int32) (f1 : Nat → FA), call 6 [vR 2, vI x1] (LW W z f) = some (some (vI r1), LW W z1 f1) ∧ ((r1 = 0 → res = (none, LW W z1 f1)) ∧ (¬ r1 = 0 → (∃ (r2 : Int32) (z2 : Nat → Int32) (f2 : Nat → FA), call 11 [vR 2, vI x1] (LW W z1 f1) = some (some (vI r2), LW W z2 f2) ∧ (∃ (z3 : Nat → Int32) (f3 : Nat → FA), call 89 [vR 2, vI x1] (LW W z2 f2) = some (none, LW W z3 f3) ∧ (∃ (z4 : Nat → Int32) (f4 : Nat → FA), call 97 [vR 8, vI x2, vI r2, vI x1] (LW W z3 f3) = some (none, LW W z4 f4) ∧ res = (none, LW W z4 f4)))))))) : XC call (mP 101) 0 [some (vR 8), some (vI x1), some (vI x2), o3] [] (LW W z f) res := by
  refine xc_b (i' := 3) (ls' := [some (vR 8), some (vI x1), some (vI x2), o3]) (st' := [vI x1, vR 2]) (L' := LW W z f) 3 (b101_1 call x1 x2 o3 z f) ?_
  obtain ⟨r1, z1, f1, hc, H⟩ := H
  refine xc_call (t := 4) (ls' := [some (vR 8), some (vI x1), some (vI x2), o3]) (st' := []) (b101_2 call x1 _ z f) hc ?_
  show XC call (mP 101) 4 [some (vR 8), some (vI x1), some (vI x2), o3] [vI r1] (LW W z1 f1) res
  refine xc_if (it := 19) (ie := 5) (ls' := [some (vR 8), some (vI x1), some (vI x2), o3]) (st' := []) (b101_3 call r1 _ _) (fun q1 => ?_) (fun q1 => ?_)
  · have H := H.1 (cI0t q1)
    subst H
    exact xc_ret (b101_4 call _ _)
  · have H := H.2 (cI0f q1)
    refine xc_b (i' := 8) (ls' := [some (vR 8), some (vI x1), some (vI x2), o3]) (st' := [vI x1, vR 2]) (L' := LW W z1 f1) 3 (b101_5 call x1 x2 o3 z1 f1) ?_
    obtain ⟨r2, z2, f2, hc, H⟩ := H
    refine xc_call (t := 9) (ls' := [some (vR 8), some (vI x1), some (vI x2), o3]) (st' := []) (b101_6 call x1 _ z1 f1) hc ?_
    show XC call (mP 101) 9 [some (vR 8), some (vI x1), some (vI x2), o3] [vI r2] (LW W z2 f2) res
    refine xc_b (i' := 13) (ls' := [some (vR 8), some (vI x1), some (vI x2), some (vI r2)]) (st' := [vI x1, vR 2]) (L' := LW W z2 f2) 4 (b101_7 call x1 x2 o3 r2 z2 f2) ?_
    obtain ⟨z3, f3, hc, H⟩ := H
    refine xc_call (t := 14) (ls' := [some (vR 8), some (vI x1), some (vI x2), some (vI r2)]) (st' := []) (b101_8 call x1 _ z2 f2) hc ?_
    show XC call (mP 101) 14 [some (vR 8), some (vI x1), some (vI x2), some (vI r2)] [] (LW W z3 f3) res
    refine xc_b (i' := 18) (ls' := [some (vR 8), some (vI x1), some (vI x2), some (vI r2)]) (st' := [vI x1, vI r2, vI x2, vR 8]) (L' := LW W z3 f3) 4 (b101_9 call x1 x2 r2 _) ?_
    obtain ⟨z4, f4, hc, H⟩ := H
    refine xc_call (t := 19) (ls' := [some (vR 8), some (vI x1), some (vI x2), some (vI r2)]) (st' := []) (b101_10 call x2 r2 x1 _ z3 f3) hc ?_
    show XC call (mP 101) 19 [some (vR 8), some (vI x1), some (vI x2), some (vI r2)] [] (LW W z4 f4) res
    subst H
    exact xc_ret (b101_4 call _ _)
set_option maxRecDepth 100000 in
theorem b97_1 (call : QC FA) (x1 : Int32) (x2 : Int32) (x3 : Int32) (z : Nat → Int32) (f : Nat → FA) (F : Nat) : xnG call 97 (F + 2) 0 [some (vR 8), some (vI x1), some (vI x2), some (vI x3)] [] (LW W z f) = xnG call 97 F 2 [some (vR 8), some (vI x1), some (vI x2), some (vI x3)] [vR 5] (LW W z f) := rfl
set_option maxRecDepth 100000 in
theorem b97_2 (call : QC FA) (ls : List (Option PV)) (L : QH FA) (F : Nat) : xnG call 97 (F + 1) 2 ls [vR 5] L = xnG call 97 F 3 ls [] L := rfl
set_option maxRecDepth 100000 in
theorem b97_3 (call : QC FA) (x1 : Int32) (x2 : Int32) (x3 : Int32) (z : Nat → Int32) (f : Nat → FA) (F : Nat) : xnG call 97 (F + 12) 3 [some (vR 8), some (vI x1), some (vI x2), some (vI x3)] [] (LW W z f) = xnG call 97 F 15 [some (vR 8), some (vI x1), some (vI x2), some (vI x3)] [vI x3, vI x2, vI x1, vR 2, vI (z 29), vR 5, vR 2] (LW W z f) := rfl
set_option maxRecDepth 100000 in
theorem b97_4 (call : QC FA) (a0 : Int32) (a2 : Int32) (a3 : Int32) (a4 : Int32) (ls : List (Option PV)) (z : Nat → Int32) (f : Nat → FA) (F : Nat) : xnG call 97 (F + 1) 15 ls [vI a4, vI a3, vI a2, vR 2, vI a0, vR 5, vR 2] (LW W z f) = cbd (call 105 [vR 5, vI a0, vR 2, vI a2, vI a3, vI a4] (LW W z f)) (fun r L' => xnG call 97 F 16 ls (r.toList ++ [vR 2]) L') := pcY (ih := xnG call 97 F) (call := call) (a := 105) (b := 5) (v := 3) (t := 16) (x := 5) (ls := ls) (As := [vI a0, vR 2, vI a2, vI a3, vI a4]) (st' := [vR 2]) (L := LW W z f) rfl rfl rfl
set_option maxRecDepth 100000 in
theorem b97_5 (call : QC FA) (y : Int32) (ls : List (Option PV)) (z : Nat → Int32) (f : Nat → FA) (F : Nat) : xnG call 97 (F + 1) 16 ls [vI y, vR 2] (LW W z f) = xnG call 97 F 17 ls [] (LW W (uZ z 29 y) f) := rfl
set_option maxRecDepth 100000 in
theorem b97_6 (call : QC FA) (ls : List (Option PV)) (L : QH FA) (F : Nat) : xnG call 97 (F + 1) 17 ls [] L = some (none, L) := rfl
theorem vc97_0 (call : QC FA) (x1 : Int32) (x2 : Int32) (x3 : Int32) (z : Nat → Int32) (f : Nat → FA) (res : Option PV × QH FA) (H : (∃ (r1 : Int32) (z1 : Nat → Int32) (f1 : Nat → FA), call 105 [vR 5, vI (z 29), vR 2, vI x1, vI x2, vI x3] (LW W z f) = some (some (vI r1), LW W z1 f1) ∧ res = (none, LW W (uZ z1 29 r1) f1))) : XC call (mP 97) 0 [some (vR 8), some (vI x1), some (vI x2), some (vI x3)] [] (LW W z f) res := by
  refine xc_b (i' := 2) (ls' := [some (vR 8), some (vI x1), some (vI x2), some (vI x3)]) (st' := [vR 5]) (L' := LW W z f) 2 (b97_1 call x1 x2 x3 z f) ?_
  refine xc_b (i' := 3) (ls' := [some (vR 8), some (vI x1), some (vI x2), some (vI x3)]) (st' := []) (L' := LW W z f) 1 (b97_2 call _ _) ?_
  refine xc_b (i' := 15) (ls' := [some (vR 8), some (vI x1), some (vI x2), some (vI x3)]) (st' := [vI x3, vI x2, vI x1, vR 2, vI (z 29), vR 5, vR 2]) (L' := LW W z f) 12 (b97_3 call x1 x2 x3 z f) ?_
  obtain ⟨r1, z1, f1, hc, H⟩ := H
  refine xc_call (t := 16) (ls' := [some (vR 8), some (vI x1), some (vI x2), some (vI x3)]) (st' := [vR 2]) (b97_4 call (z 29) x1 x2 x3 _ z f) hc ?_
  show XC call (mP 97) 16 [some (vR 8), some (vI x1), some (vI x2), some (vI x3)] [vI r1, vR 2] (LW W z1 f1) res
  refine xc_b (i' := 17) (ls' := [some (vR 8), some (vI x1), some (vI x2), some (vI x3)]) (st' := []) (L' := LW W (uZ z1 29 r1) f1) 1 (b97_5 call r1 _ z1 f1) ?_
  subst H
  exact xc_ret (b97_6 call _ _)
set_option maxRecDepth 100000 in
theorem b100_1 (call : QC FA) (o1 : Option PV) (o2 : Option PV) (o3 : Option PV) (z : Nat → Int32) (f : Nat → FA) (F : Nat) : xnG call 100 (F + 3) 0 [some (vR 8), o1, o2, o3] [] (LW W z f) = xnG call 100 F 3 [some (vR 8), o1, o2, o3] [vI 2, vR 7] (LW W z f) := rfl
set_option maxRecDepth 100000 in
theorem b100_2 (hW : WTX W) (call : QC FA) (hk : 2 < 4) (hp : pin 2 4 = true) (hc : ix 2 = 2) (ls : List (Option PV)) (z : Nat → Int32) (f : Nat → FA) (F : Nat) : xnG call 100 (F + 1) 3 ls [vI 2, vR 7] (LW W z f) = xnG call 100 F 4 ls [vR (wJ W 2 + 42)] (LW W z f) := gx_t (ih := xnG call 100 F) (t := 4) (st := []) hW hk hc hp
set_option maxRecDepth 100000 in
theorem b100_3 (call : QC FA) (o1 : Option PV) (o2 : Option PV) (o3 : Option PV) (L : QH FA) (F : Nat) : xnG call 100 (F + 3) 4 [some (vR 8), o1, o2, o3] [vR (wJ W 2 + 42)] L = xnG call 100 F 7 [some (vR 8), some (vR (wJ W 2 + 42)), some (vI 0), o3] [] L := rfl
theorem vc100_0 (hW : WTX W) (call : QC FA) (o1 : Option PV) (o2 : Option PV) (o3 : Option PV) (z : Nat → Int32) (f : Nat → FA) (res : Option PV × QH FA) (H : XC call (mP 100) 7 [some (vR 8), some (vR (wJ W 2 + 42)), some (vI 0), o3] [] (LW W z f) res) : XC call (mP 100) 0 [some (vR 8), o1, o2, o3] [] (LW W z f) res := by
  refine xc_b (i' := 3) (ls' := [some (vR 8), o1, o2, o3]) (st' := [vI 2, vR 7]) (L' := LW W z f) 3 (b100_1 call o1 o2 o3 z f) ?_
  refine xc_b (i' := 4) (ls' := [some (vR 8), o1, o2, o3]) (st' := [vR (wJ W 2 + 42)]) (L' := LW W z f) 1 (b100_2 hW call (by decide) (by decide) (by decide) _ z f) ?_
  refine xc_b (i' := 7) (ls' := [some (vR 8), some (vR (wJ W 2 + 42)), some (vI 0), o3]) (st' := []) (L' := LW W z f) 3 (b100_3 call o1 o2 o3 _) ?_
  exact H
set_option maxRecDepth 100000 in
theorem bc7_100_1 (call : QC FA) (x2 : Int32) (o3 : Option PV) (L : QH FA) (F : Nat) : xnG call 100 (F + 2) 7 [some (vR 8), some (vR (wJ W 2 + 42)), some (vI x2), o3] [] L = xnG call 100 F 9 [some (vR 8), some (vR (wJ W 2 + 42)), some (vI x2), o3] [vR (wJ W 2 + 42), vI x2] L := rfl
set_option maxRecDepth 100000 in
theorem bc7_100_2 (hW : WTX W) (hk : 2 < 4) (call : QC FA) (s0 : Int32) (ls : List (Option PV)) (z : Nat → Int32) (f : Nat → FA) (F : Nat) : xnG call 100 (F + 1) 9 ls [vR (wJ W 2 + 42), vI s0] (LW W z f) = xnG call 100 F 10 ls [vI (wn W 2), vI s0] (LW W z f) := gt_1 (ih := xnG call 100 F) (t := 10) (st := [vI s0]) hW hk
set_option maxRecDepth 100000 in
theorem bc7_100_3 (call : QC FA) (x y : Int32) (ls : List (Option PV)) (L : QH FA) (F : Nat) : xnG call 100 (F + 1) 10 ls [vI y, vI x] L = bif pcmp 3 x y then xnG call 100 F 75 ls [] L else xnG call 100 F 11 ls [] L := rfl
set_option maxRecDepth 100000 in
theorem bc7_100_4 (call : QC FA) (ls : List (Option PV)) (L : QH FA) (F : Nat) : xnG call 100 (F + 1) 75 ls [] L = some (none, L) := rfl
set_option maxRecDepth 100000 in
theorem bc7_100_5 (call : QC FA) (x2 : Int32) (o3 : Option PV) (L : QH FA) (F : Nat) : xnG call 100 (F + 3) 11 [some (vR 8), some (vR (wJ W 2 + 42)), some (vI x2), o3] [] L = xnG call 100 F 14 [some (vR 8), some (vR (wJ W 2 + 42)), some (vI x2), o3] [vI 0, vI x2, vR (wJ W 2 + 42)] L := rfl
set_option maxRecDepth 100000 in
theorem bc7_100_6 (hW : WTX W) (hk : 2 < 4) (call : QC FA) (a0 : Int32) (a1 : Int32) (ls : List (Option PV)) (z : Nat → Int32) (f : Nat → FA) (F : Nat) : xnG call 100 (F + 1) 14 ls [vI a1, vI a0, vR (wJ W 2 + 42)] (LW W z f) = cbd (call 18 [vR (wJ W 2 + 42), vI a0, vI a1] (LW W z f)) (fun r L' => xnG call 100 F 15 ls (r.toList ++ []) L') := pcY (ih := xnG call 100 F) (call := call) (a := 18) (b := 2) (v := 8) (t := 15) (x := wJ W 2 + 42) (ls := ls) (As := [vI a0, vI a1]) (st' := []) (L := LW W z f) rfl (gj_t hW hk) rfl
set_option maxRecDepth 100000 in
theorem bc7_100_7 (call : QC FA) (x2 : Int32) (o3 : Option PV) (s0 : Int32) (z : Nat → Int32) (f : Nat → FA) (F : Nat) : xnG call 100 (F + 3) 15 [some (vR 8), some (vR (wJ W 2 + 42)), some (vI x2), o3] [vI s0] (LW W z f) = xnG call 100 F 18 [some (vR 8), some (vR (wJ W 2 + 42)), some (vI x2), o3] [vI (z 25), vI s0] (LW W z f) := rfl
set_option maxRecDepth 100000 in
theorem bc7_100_8 (call : QC FA) (x y : Int32) (ls : List (Option PV)) (L : QH FA) (F : Nat) : xnG call 100 (F + 1) 18 ls [vI y, vI x] L = bif pcmp 1 x y then xnG call 100 F 73 ls [] L else xnG call 100 F 19 ls [] L := rfl
set_option maxRecDepth 100000 in
theorem bc7_100_9 (call : QC FA) (x2 : Int32) (o3 : Option PV) (L : QH FA) (F : Nat) : xnG call 100 (F + 1) 73 [some (vR 8), some (vR (wJ W 2 + 42)), some (vI x2), o3] [] L = xnG call 100 F 74 [some (vR 8), some (vR (wJ W 2 + 42)), some (vI (x2 + 1)), o3] [] L := rfl
set_option maxRecDepth 100000 in
theorem bc7_100_10 (call : QC FA) (x2 : Int32) (o3 : Option PV) (L : QH FA) (F : Nat) : xnG call 100 (F + 1) 74 [some (vR 8), some (vR (wJ W 2 + 42)), some (vI x2), o3] [] L = xnG call 100 F 7 [some (vR 8), some (vR (wJ W 2 + 42)), some (vI x2), o3] [] L := rfl
set_option maxRecDepth 100000 in
theorem bc7_100_11 (call : QC FA) (x2 : Int32) (o3 : Option PV) (L : QH FA) (F : Nat) : xnG call 100 (F + 3) 19 [some (vR 8), some (vR (wJ W 2 + 42)), some (vI x2), o3] [] L = xnG call 100 F 22 [some (vR 8), some (vR (wJ W 2 + 42)), some (vI x2), o3] [vI 2, vI x2, vR (wJ W 2 + 42)] L := rfl
set_option maxRecDepth 100000 in
theorem bc7_100_12 (hW : WTX W) (hk : 2 < 4) (call : QC FA) (a0 : Int32) (a1 : Int32) (ls : List (Option PV)) (z : Nat → Int32) (f : Nat → FA) (F : Nat) : xnG call 100 (F + 1) 22 ls [vI a1, vI a0, vR (wJ W 2 + 42)] (LW W z f) = cbd (call 18 [vR (wJ W 2 + 42), vI a0, vI a1] (LW W z f)) (fun r L' => xnG call 100 F 23 ls (r.toList ++ []) L') := pcY (ih := xnG call 100 F) (call := call) (a := 18) (b := 2) (v := 8) (t := 23) (x := wJ W 2 + 42) (ls := ls) (As := [vI a0, vI a1]) (st' := []) (L := LW W z f) rfl (gj_t hW hk) rfl
set_option maxRecDepth 100000 in
theorem bc7_100_13 (call : QC FA) (x2 : Int32) (o3 : Option PV) (s0 : Int32) (z : Nat → Int32) (f : Nat → FA) (F : Nat) : xnG call 100 (F + 3) 23 [some (vR 8), some (vR (wJ W 2 + 42)), some (vI x2), o3] [vI s0] (LW W z f) = xnG call 100 F 26 [some (vR 8), some (vR (wJ W 2 + 42)), some (vI x2), o3] [vI (z 24), vI s0] (LW W z f) := rfl
set_option maxRecDepth 100000 in
theorem bc7_100_14 (call : QC FA) (x y : Int32) (ls : List (Option PV)) (L : QH FA) (F : Nat) : xnG call 100 (F + 1) 26 ls [vI y, vI x] L = bif pcmp 1 x y then xnG call 100 F 73 ls [] L else xnG call 100 F 27 ls [] L := rfl
set_option maxRecDepth 100000 in
theorem bc7_100_15 (call : QC FA) (x2 : Int32) (o3 : Option PV) (L : QH FA) (F : Nat) : xnG call 100 (F + 3) 27 [some (vR 8), some (vR (wJ W 2 + 42)), some (vI x2), o3] [] L = xnG call 100 F 30 [some (vR 8), some (vR (wJ W 2 + 42)), some (vI x2), o3] [vI 1, vI x2, vR (wJ W 2 + 42)] L := rfl
set_option maxRecDepth 100000 in
theorem bc7_100_16 (hW : WTX W) (hk : 2 < 4) (call : QC FA) (a0 : Int32) (a1 : Int32) (ls : List (Option PV)) (z : Nat → Int32) (f : Nat → FA) (F : Nat) : xnG call 100 (F + 1) 30 ls [vI a1, vI a0, vR (wJ W 2 + 42)] (LW W z f) = cbd (call 18 [vR (wJ W 2 + 42), vI a0, vI a1] (LW W z f)) (fun r L' => xnG call 100 F 31 ls (r.toList ++ []) L') := pcY (ih := xnG call 100 F) (call := call) (a := 18) (b := 2) (v := 8) (t := 31) (x := wJ W 2 + 42) (ls := ls) (As := [vI a0, vI a1]) (st' := []) (L := LW W z f) rfl (gj_t hW hk) rfl
set_option maxRecDepth 100000 in
theorem bc7_100_17 (call : QC FA) (x2 : Int32) (o3 : Option PV) (s0 : Int32) (L : QH FA) (F : Nat) : xnG call 100 (F + 3) 31 [some (vR 8), some (vR (wJ W 2 + 42)), some (vI x2), o3] [vI s0] L = xnG call 100 F 34 [some (vR 8), some (vR (wJ W 2 + 42)), some (vI x2), some (vI s0)] [vI 303, vI s0] L := rfl
set_option maxRecDepth 100000 in
theorem bc7_100_18 (call : QC FA) (x y : Int32) (ls : List (Option PV)) (L : QH FA) (F : Nat) : xnG call 100 (F + 1) 34 ls [vI y, vI x] L = bif pcmp 1 x y then xnG call 100 F 48 ls [] L else xnG call 100 F 35 ls [] L := rfl
set_option maxRecDepth 100000 in
theorem bc7_100_19 (call : QC FA) (x2 : Int32) (x3 : Int32) (L : QH FA) (F : Nat) : xnG call 100 (F + 2) 48 [some (vR 8), some (vR (wJ W 2 + 42)), some (vI x2), some (vI x3)] [] L = xnG call 100 F 50 [some (vR 8), some (vR (wJ W 2 + 42)), some (vI x2), some (vI x3)] [vI 307, vI x3] L := rfl
set_option maxRecDepth 100000 in
theorem bc7_100_20 (call : QC FA) (x y : Int32) (ls : List (Option PV)) (L : QH FA) (F : Nat) : xnG call 100 (F + 1) 50 ls [vI y, vI x] L = bif pcmp 1 x y then xnG call 100 F 59 ls [] L else xnG call 100 F 51 ls [] L := rfl
set_option maxRecDepth 100000 in
theorem bc7_100_21 (call : QC FA) (x2 : Int32) (x3 : Int32) (L : QH FA) (F : Nat) : xnG call 100 (F + 4) 59 [some (vR 8), some (vR (wJ W 2 + 42)), some (vI x2), some (vI x3)] [] L = xnG call 100 F 63 [some (vR 8), some (vR (wJ W 2 + 42)), some (vI x2), some (vI x3)] [vI 4, vI x2, vR (wJ W 2 + 42), vR 8] L := rfl
set_option maxRecDepth 100000 in
theorem bc7_100_22 (hW : WTX W) (hk : 2 < 4) (call : QC FA) (a0 : Int32) (a1 : Int32) (ls : List (Option PV)) (z : Nat → Int32) (f : Nat → FA) (F : Nat) : xnG call 100 (F + 1) 63 ls [vI a1, vI a0, vR (wJ W 2 + 42), vR 8] (LW W z f) = cbd (call 18 [vR (wJ W 2 + 42), vI a0, vI a1] (LW W z f)) (fun r L' => xnG call 100 F 64 ls (r.toList ++ [vR 8]) L') := pcY (ih := xnG call 100 F) (call := call) (a := 18) (b := 2) (v := 8) (t := 64) (x := wJ W 2 + 42) (ls := ls) (As := [vI a0, vI a1]) (st' := [vR 8]) (L := LW W z f) rfl (gj_t hW hk) rfl
set_option maxRecDepth 100000 in
theorem bc7_100_23 (call : QC FA) (x2 : Int32) (x3 : Int32) (s0 : Int32) (L : QH FA) (F : Nat) : xnG call 100 (F + 5) 64 [some (vR 8), some (vR (wJ W 2 + 42)), some (vI x2), some (vI x3)] [vI s0, vR 8] L = xnG call 100 F 69 [some (vR 8), some (vR (wJ W 2 + 42)), some (vI x2), some (vI x3)] [vI 3, vI x2, vR (wJ W 2 + 42), vI (s0 * 12), vR 8] L := rfl
set_option maxRecDepth 100000 in
theorem bc7_100_24 (hW : WTX W) (hk : 2 < 4) (call : QC FA) (a0 : Int32) (a1 : Int32) (s0 : Int32) (ls : List (Option PV)) (z : Nat → Int32) (f : Nat → FA) (F : Nat) : xnG call 100 (F + 1) 69 ls [vI a1, vI a0, vR (wJ W 2 + 42), vI s0, vR 8] (LW W z f) = cbd (call 18 [vR (wJ W 2 + 42), vI a0, vI a1] (LW W z f)) (fun r L' => xnG call 100 F 70 ls (r.toList ++ [vI s0, vR 8]) L') := pcY (ih := xnG call 100 F) (call := call) (a := 18) (b := 2) (v := 8) (t := 70) (x := wJ W 2 + 42) (ls := ls) (As := [vI a0, vI a1]) (st' := [vI s0, vR 8]) (L := LW W z f) rfl (gj_t hW hk) rfl
set_option maxRecDepth 100000 in
theorem bc7_100_25 (call : QC FA) (x2 : Int32) (x3 : Int32) (s0 : Int32) (s1 : Int32) (L : QH FA) (F : Nat) : xnG call 100 (F + 2) 70 [some (vR 8), some (vR (wJ W 2 + 42)), some (vI x2), some (vI x3)] [vI s0, vI s1, vR 8] L = xnG call 100 F 72 [some (vR 8), some (vR (wJ W 2 + 42)), some (vI x2), some (vI x3)] [vI 3, vI (s1 + s0), vR 8] L := rfl
set_option maxRecDepth 100000 in
theorem bc7_100_26 (call : QC FA) (a0 : Int32) (a1 : Int32) (ls : List (Option PV)) (z : Nat → Int32) (f : Nat → FA) (F : Nat) : xnG call 100 (F + 1) 72 ls [vI a1, vI a0, vR 8] (LW W z f) = cbd (call 101 [vR 8, vI a0, vI a1] (LW W z f)) (fun r L' => xnG call 100 F 73 ls (r.toList ++ []) L') := pcY (ih := xnG call 100 F) (call := call) (a := 101) (b := 2) (v := 1) (t := 73) (x := 8) (ls := ls) (As := [vI a0, vI a1]) (st' := []) (L := LW W z f) rfl rfl rfl
set_option maxRecDepth 100000 in
theorem bc7_100_27 (call : QC FA) (x2 : Int32) (x3 : Int32) (L : QH FA) (F : Nat) : xnG call 100 (F + 1) 73 [some (vR 8), some (vR (wJ W 2 + 42)), some (vI x2), some (vI x3)] [] L = xnG call 100 F 74 [some (vR 8), some (vR (wJ W 2 + 42)), some (vI (x2 + 1)), some (vI x3)] [] L := rfl
set_option maxRecDepth 100000 in
theorem bc7_100_28 (call : QC FA) (x2 : Int32) (x3 : Int32) (L : QH FA) (F : Nat) : xnG call 100 (F + 1) 74 [some (vR 8), some (vR (wJ W 2 + 42)), some (vI x2), some (vI x3)] [] L = xnG call 100 F 7 [some (vR 8), some (vR (wJ W 2 + 42)), some (vI x2), some (vI x3)] [] L := rfl
set_option maxRecDepth 100000 in
theorem bc7_100_29 (call : QC FA) (x2 : Int32) (x3 : Int32) (z : Nat → Int32) (f : Nat → FA) (F : Nat) : xnG call 100 (F + 5) 51 [some (vR 8), some (vR (wJ W 2 + 42)), some (vI x2), some (vI x3)] [] (LW W z f) = xnG call 100 F 56 [some (vR 8), some (vR (wJ W 2 + 42)), some (vI x2), some (vI x3)] [vI 3, vI x2, vR (wJ W 2 + 42), vR 2] (LW W z f) := rfl
set_option maxRecDepth 100000 in
theorem bc7_100_30 (hW : WTX W) (hk : 2 < 4) (call : QC FA) (a0 : Int32) (a1 : Int32) (ls : List (Option PV)) (z : Nat → Int32) (f : Nat → FA) (F : Nat) : xnG call 100 (F + 1) 56 ls [vI a1, vI a0, vR (wJ W 2 + 42), vR 2] (LW W z f) = cbd (call 18 [vR (wJ W 2 + 42), vI a0, vI a1] (LW W z f)) (fun r L' => xnG call 100 F 57 ls (r.toList ++ [vR 2]) L') := pcY (ih := xnG call 100 F) (call := call) (a := 18) (b := 2) (v := 8) (t := 57) (x := wJ W 2 + 42) (ls := ls) (As := [vI a0, vI a1]) (st' := [vR 2]) (L := LW W z f) rfl (gj_t hW hk) rfl
set_option maxRecDepth 100000 in
theorem bc7_100_31 (call : QC FA) (y : Int32) (ls : List (Option PV)) (z : Nat → Int32) (f : Nat → FA) (F : Nat) : xnG call 100 (F + 1) 57 ls [vI y, vR 2] (LW W z f) = xnG call 100 F 58 ls [] (LW W (uZ z 23 y) f) := rfl
set_option maxRecDepth 100000 in
theorem bc7_100_32 (call : QC FA) (x2 : Int32) (x3 : Int32) (L : QH FA) (F : Nat) : xnG call 100 (F + 1) 58 [some (vR 8), some (vR (wJ W 2 + 42)), some (vI x2), some (vI x3)] [] L = xnG call 100 F 73 [some (vR 8), some (vR (wJ W 2 + 42)), some (vI x2), some (vI x3)] [] L := rfl
set_option maxRecDepth 100000 in
theorem bc7_100_33 (call : QC FA) (x2 : Int32) (x3 : Int32) (z : Nat → Int32) (f : Nat → FA) (F : Nat) : xnG call 100 (F + 5) 35 [some (vR 8), some (vR (wJ W 2 + 42)), some (vI x2), some (vI x3)] [] (LW W z f) = xnG call 100 F 40 [some (vR 8), some (vR (wJ W 2 + 42)), some (vI x2), some (vI x3)] [vI 3, vI x2, vR (wJ W 2 + 42), vR 2] (LW W z f) := rfl
set_option maxRecDepth 100000 in
theorem bc7_100_34 (hW : WTX W) (hk : 2 < 4) (call : QC FA) (a0 : Int32) (a1 : Int32) (ls : List (Option PV)) (z : Nat → Int32) (f : Nat → FA) (F : Nat) : xnG call 100 (F + 1) 40 ls [vI a1, vI a0, vR (wJ W 2 + 42), vR 2] (LW W z f) = cbd (call 18 [vR (wJ W 2 + 42), vI a0, vI a1] (LW W z f)) (fun r L' => xnG call 100 F 41 ls (r.toList ++ [vR 2]) L') := pcY (ih := xnG call 100 F) (call := call) (a := 18) (b := 2) (v := 8) (t := 41) (x := wJ W 2 + 42) (ls := ls) (As := [vI a0, vI a1]) (st' := [vR 2]) (L := LW W z f) rfl (gj_t hW hk) rfl
set_option maxRecDepth 100000 in
theorem bc7_100_35 (call : QC FA) (x2 : Int32) (x3 : Int32) (s0 : Int32) (L : QH FA) (F : Nat) : xnG call 100 (F + 4) 41 [some (vR 8), some (vR (wJ W 2 + 42)), some (vI x2), some (vI x3)] [vI s0, vR 2] L = xnG call 100 F 45 [some (vR 8), some (vR (wJ W 2 + 42)), some (vI x2), some (vI x3)] [vI 4, vI x2, vR (wJ W 2 + 42), vI 1, vI s0, vR 2] L := rfl
set_option maxRecDepth 100000 in
theorem bc7_100_36 (hW : WTX W) (hk : 2 < 4) (call : QC FA) (a0 : Int32) (a1 : Int32) (s0 : Int32) (s1 : Int32) (ls : List (Option PV)) (z : Nat → Int32) (f : Nat → FA) (F : Nat) : xnG call 100 (F + 1) 45 ls [vI a1, vI a0, vR (wJ W 2 + 42), vI s0, vI s1, vR 2] (LW W z f) = cbd (call 18 [vR (wJ W 2 + 42), vI a0, vI a1] (LW W z f)) (fun r L' => xnG call 100 F 46 ls (r.toList ++ [vI s0, vI s1, vR 2]) L') := pcY (ih := xnG call 100 F) (call := call) (a := 18) (b := 2) (v := 8) (t := 46) (x := wJ W 2 + 42) (ls := ls) (As := [vI a0, vI a1]) (st' := [vI s0, vI s1, vR 2]) (L := LW W z f) rfl (gj_t hW hk) rfl
set_option maxRecDepth 100000 in
theorem bc7_100_37 (call : QC FA) (a0 : Int32) (a1 : Int32) (a2 : Int32) (ls : List (Option PV)) (z : Nat → Int32) (f : Nat → FA) (F : Nat) : xnG call 100 (F + 1) 46 ls [vI a2, vI a1, vI a0, vR 2] (LW W z f) = cbd (call 87 [vR 2, vI a0, vI a1, vI a2] (LW W z f)) (fun r L' => xnG call 100 F 47 ls (r.toList ++ []) L') := pcY (ih := xnG call 100 F) (call := call) (a := 87) (b := 3) (v := 0) (t := 47) (x := 2) (ls := ls) (As := [vI a0, vI a1, vI a2]) (st' := []) (L := LW W z f) rfl rfl rfl
set_option maxRecDepth 100000 in
theorem bc7_100_38 (call : QC FA) (x2 : Int32) (x3 : Int32) (L : QH FA) (F : Nat) : xnG call 100 (F + 1) 47 [some (vR 8), some (vR (wJ W 2 + 42)), some (vI x2), some (vI x3)] [] L = xnG call 100 F 73 [some (vR 8), some (vR (wJ W 2 + 42)), some (vI x2), some (vI x3)] [] L := rfl
theorem vcc7_100_7 (hW : WTX W) (hk : kt < 4) (call : QC FA) (x2 : Int32) (o3 : Option PV) (z : Nat → Int32) (f : Nat → FA) (res : Option PV × QH FA) (H : ((I (wn W 2) ≤ I x2 → res = (none, LW W z f)) ∧ (I x2 < I (wn W 2) → (∃ (r1 : Int32) (z1 : Nat → Int32) (f1 : Nat → FA), call 18 [vR (wJ W 2 + 42), vI x2, vI 0] (LW W z f) = some (some (vI r1), LW W z1 f1) ∧ ((¬ r1 = z1 25 → XC call (mP 100) 7 [some (vR 8), some (vR (wJ W 2 + 42)), some (vI (x2 + 1)), o3] [] (LW W z1 f1) res) ∧ (r1 = z1 25 → (∃ (r2 : Int32) (z2 : Nat → Int32) (f2 : Nat → FA), call 18 [vR (wJ W 2 + 42), vI x2, vI 2] (LW W z1 f1) = some (some (vI r2), LW W z2 f2) ∧ ((¬ r2 = z2 24 → XC call (mP 100) 7 [some (vR 8), some (vR (wJ W 2 + 42)), some (vI (x2 + 1)), o3] [] (LW W z2 f2) res) ∧ (r2 = z2 24 → (∃ (r3 : Int32) (z3 : Nat → Int32) (f3 : Nat → FA), call 18 [vR (wJ W 2 + 42), vI x2, vI 1] (LW W z2 f2) = some (some (vI r3), LW W z3 f3) ∧ ((¬ r3 = 303 → ((¬ r3 = 307 → (∃ (r4 : Int32) (z4 : Nat → Int32) (f4 : Nat → FA), call 18 [vR (wJ W 2 + 42), vI x2, vI 4] (LW W z3 f3) = some (some (vI r4), LW W z4 f4) ∧ (∃ (r5 : Int32) (z5 : Nat → Int32) (f5 : Nat → FA), call 18 [vR (wJ W 2 + 42), vI x2, vI 3] (LW W z4 f4) = some (some (vI r5), LW W z5 f5) ∧ (∃ (z6 : Nat → Int32) (f6 : Nat → FA), call 101 [vR 8, vI ((r4 * 12) + r5), vI 3] (LW W z5 f5) = some (none, LW W z6 f6) ∧ XC call (mP 100) 7 [some (vR 8), some (vR (wJ W 2 + 42)), some (vI (x2 + 1)), some (vI r3)] [] (LW W z6 f6) res)))) ∧ (r3 = 307 → (∃ (r7 : Int32) (z7 : Nat → Int32) (f7 : Nat → FA), call 18 [vR (wJ W 2 + 42), vI x2, vI 3] (LW W z3 f3) = some (some (vI r7), LW W z7 f7) ∧ XC call (mP 100) 7 [some (vR 8), some (vR (wJ W 2 + 42)), some (vI (x2 + 1)), some (vI r3)] [] (LW W (uZ z7 23 r7) f7) res)))) ∧ (r3 = 303 → (∃ (r8 : Int32) (z8 : Nat → Int32) (f8 : Nat → FA), call 18 [vR (wJ W 2 + 42), vI x2, vI 3] (LW W z3 f3) = some (some (vI r8), LW W z8 f8) ∧ (∃ (r9 : Int32) (z9 : Nat → Int32) (f9 : Nat → FA), call 18 [vR (wJ W 2 + 42), vI x2, vI 4] (LW W z8 f8) = some (some (vI r9), LW W z9 f9) ∧ (∃ (z10 : Nat → Int32) (f10 : Nat → FA), call 87 [vR 2, vI r8, vI 1, vI r9] (LW W z9 f9) = some (none, LW W z10 f10) ∧ XC call (mP 100) 7 [some (vR 8), some (vR (wJ W 2 + 42)), some (vI (x2 + 1)), some (vI r3)] [] (LW W z10 f10) res))))))))))))))) : XC call (mP 100) 7 [some (vR 8), some (vR (wJ W 2 + 42)), some (vI x2), o3] [] (LW W z f) res := by
  refine xc_b (i' := 9) (ls' := [some (vR 8), some (vR (wJ W 2 + 42)), some (vI x2), o3]) (st' := [vR (wJ W 2 + 42), vI x2]) (L' := LW W z f) 2 (bc7_100_1 call x2 o3 _) ?_
  refine xc_b (i' := 10) (ls' := [some (vR 8), some (vR (wJ W 2 + 42)), some (vI x2), o3]) (st' := [vI (wn W 2), vI x2]) (L' := LW W z f) 1 (bc7_100_2 hW (by decide) call x2 _ z f) ?_
  refine xc_if (it := 75) (ie := 11) (ls' := [some (vR 8), some (vR (wJ W 2 + 42)), some (vI x2), o3]) (st' := []) (bc7_100_3 call x2 (wn W 2) _ _) (fun q1 => ?_) (fun q1 => ?_)
  · have H := H.1 (cI3t q1 rfl rfl)
    subst H
    exact xc_ret (bc7_100_4 call _ _)
  · have H := H.2 (cI3f q1 rfl rfl)
    refine xc_b (i' := 14) (ls' := [some (vR 8), some (vR (wJ W 2 + 42)), some (vI x2), o3]) (st' := [vI 0, vI x2, vR (wJ W 2 + 42)]) (L' := LW W z f) 3 (bc7_100_5 call x2 o3 _) ?_
    obtain ⟨r1, z1, f1, hc, H⟩ := H
    refine xc_call (t := 15) (ls' := [some (vR 8), some (vR (wJ W 2 + 42)), some (vI x2), o3]) (st' := []) (bc7_100_6 hW (by decide) call x2 0 _ z f) hc ?_
    show XC call (mP 100) 15 [some (vR 8), some (vR (wJ W 2 + 42)), some (vI x2), o3] [vI r1] (LW W z1 f1) res
    refine xc_b (i' := 18) (ls' := [some (vR 8), some (vR (wJ W 2 + 42)), some (vI x2), o3]) (st' := [vI (z1 25), vI r1]) (L' := LW W z1 f1) 3 (bc7_100_7 call x2 o3 r1 z1 f1) ?_
    refine xc_if (it := 73) (ie := 19) (ls' := [some (vR 8), some (vR (wJ W 2 + 42)), some (vI x2), o3]) (st' := []) (bc7_100_8 call r1 (z1 25) _ _) (fun q2 => ?_) (fun q2 => ?_)
    · have H := H.1 (cI1t q2)
      refine xc_b (i' := 74) (ls' := [some (vR 8), some (vR (wJ W 2 + 42)), some (vI (x2 + 1)), o3]) (st' := []) (L' := LW W z1 f1) 1 (bc7_100_9 call x2 o3 _) ?_
      refine xc_b (i' := 7) (ls' := [some (vR 8), some (vR (wJ W 2 + 42)), some (vI (x2 + 1)), o3]) (st' := []) (L' := LW W z1 f1) 1 (bc7_100_10 call (x2 + 1) o3 _) ?_
      exact H
    · have H := H.2 (cI1f q2)
      refine xc_b (i' := 22) (ls' := [some (vR 8), some (vR (wJ W 2 + 42)), some (vI x2), o3]) (st' := [vI 2, vI x2, vR (wJ W 2 + 42)]) (L' := LW W z1 f1) 3 (bc7_100_11 call x2 o3 _) ?_
      obtain ⟨r2, z2, f2, hc, H⟩ := H
      refine xc_call (t := 23) (ls' := [some (vR 8), some (vR (wJ W 2 + 42)), some (vI x2), o3]) (st' := []) (bc7_100_12 hW (by decide) call x2 2 _ z1 f1) hc ?_
      show XC call (mP 100) 23 [some (vR 8), some (vR (wJ W 2 + 42)), some (vI x2), o3] [vI r2] (LW W z2 f2) res
      refine xc_b (i' := 26) (ls' := [some (vR 8), some (vR (wJ W 2 + 42)), some (vI x2), o3]) (st' := [vI (z2 24), vI r2]) (L' := LW W z2 f2) 3 (bc7_100_13 call x2 o3 r2 z2 f2) ?_
      refine xc_if (it := 73) (ie := 27) (ls' := [some (vR 8), some (vR (wJ W 2 + 42)), some (vI x2), o3]) (st' := []) (bc7_100_14 call r2 (z2 24) _ _) (fun q3 => ?_) (fun q3 => ?_)
      · have H := H.1 (cI1t q3)
        refine xc_b (i' := 74) (ls' := [some (vR 8), some (vR (wJ W 2 + 42)), some (vI (x2 + 1)), o3]) (st' := []) (L' := LW W z2 f2) 1 (bc7_100_9 call x2 o3 _) ?_
        refine xc_b (i' := 7) (ls' := [some (vR 8), some (vR (wJ W 2 + 42)), some (vI (x2 + 1)), o3]) (st' := []) (L' := LW W z2 f2) 1 (bc7_100_10 call (x2 + 1) o3 _) ?_
        exact H
      · have H := H.2 (cI1f q3)
        refine xc_b (i' := 30) (ls' := [some (vR 8), some (vR (wJ W 2 + 42)), some (vI x2), o3]) (st' := [vI 1, vI x2, vR (wJ W 2 + 42)]) (L' := LW W z2 f2) 3 (bc7_100_15 call x2 o3 _) ?_
        obtain ⟨r3, z3, f3, hc, H⟩ := H
        refine xc_call (t := 31) (ls' := [some (vR 8), some (vR (wJ W 2 + 42)), some (vI x2), o3]) (st' := []) (bc7_100_16 hW (by decide) call x2 1 _ z2 f2) hc ?_
        show XC call (mP 100) 31 [some (vR 8), some (vR (wJ W 2 + 42)), some (vI x2), o3] [vI r3] (LW W z3 f3) res
        refine xc_b (i' := 34) (ls' := [some (vR 8), some (vR (wJ W 2 + 42)), some (vI x2), some (vI r3)]) (st' := [vI 303, vI r3]) (L' := LW W z3 f3) 3 (bc7_100_17 call x2 o3 r3 _) ?_
        refine xc_if (it := 48) (ie := 35) (ls' := [some (vR 8), some (vR (wJ W 2 + 42)), some (vI x2), some (vI r3)]) (st' := []) (bc7_100_18 call r3 303 _ _) (fun q4 => ?_) (fun q4 => ?_)
        · have H := H.1 (cI1t q4)
          refine xc_b (i' := 50) (ls' := [some (vR 8), some (vR (wJ W 2 + 42)), some (vI x2), some (vI r3)]) (st' := [vI 307, vI r3]) (L' := LW W z3 f3) 2 (bc7_100_19 call x2 r3 _) ?_
          refine xc_if (it := 59) (ie := 51) (ls' := [some (vR 8), some (vR (wJ W 2 + 42)), some (vI x2), some (vI r3)]) (st' := []) (bc7_100_20 call r3 307 _ _) (fun q5 => ?_) (fun q5 => ?_)
          · have H := H.1 (cI1t q5)
            refine xc_b (i' := 63) (ls' := [some (vR 8), some (vR (wJ W 2 + 42)), some (vI x2), some (vI r3)]) (st' := [vI 4, vI x2, vR (wJ W 2 + 42), vR 8]) (L' := LW W z3 f3) 4 (bc7_100_21 call x2 r3 _) ?_
            obtain ⟨r4, z4, f4, hc, H⟩ := H
            refine xc_call (t := 64) (ls' := [some (vR 8), some (vR (wJ W 2 + 42)), some (vI x2), some (vI r3)]) (st' := [vR 8]) (bc7_100_22 hW (by decide) call x2 4 _ z3 f3) hc ?_
            show XC call (mP 100) 64 [some (vR 8), some (vR (wJ W 2 + 42)), some (vI x2), some (vI r3)] [vI r4, vR 8] (LW W z4 f4) res
            refine xc_b (i' := 69) (ls' := [some (vR 8), some (vR (wJ W 2 + 42)), some (vI x2), some (vI r3)]) (st' := [vI 3, vI x2, vR (wJ W 2 + 42), vI (r4 * 12), vR 8]) (L' := LW W z4 f4) 5 (bc7_100_23 call x2 r3 r4 _) ?_
            obtain ⟨r5, z5, f5, hc, H⟩ := H
            refine xc_call (t := 70) (ls' := [some (vR 8), some (vR (wJ W 2 + 42)), some (vI x2), some (vI r3)]) (st' := [vI (r4 * 12), vR 8]) (bc7_100_24 hW (by decide) call x2 3 (r4 * 12) _ z4 f4) hc ?_
            show XC call (mP 100) 70 [some (vR 8), some (vR (wJ W 2 + 42)), some (vI x2), some (vI r3)] [vI r5, vI (r4 * 12), vR 8] (LW W z5 f5) res
            refine xc_b (i' := 72) (ls' := [some (vR 8), some (vR (wJ W 2 + 42)), some (vI x2), some (vI r3)]) (st' := [vI 3, vI ((r4 * 12) + r5), vR 8]) (L' := LW W z5 f5) 2 (bc7_100_25 call x2 r3 r5 (r4 * 12) _) ?_
            obtain ⟨z6, f6, hc, H⟩ := H
            refine xc_call (t := 73) (ls' := [some (vR 8), some (vR (wJ W 2 + 42)), some (vI x2), some (vI r3)]) (st' := []) (bc7_100_26 call ((r4 * 12) + r5) 3 _ z5 f5) hc ?_
            show XC call (mP 100) 73 [some (vR 8), some (vR (wJ W 2 + 42)), some (vI x2), some (vI r3)] [] (LW W z6 f6) res
            refine xc_b (i' := 74) (ls' := [some (vR 8), some (vR (wJ W 2 + 42)), some (vI (x2 + 1)), some (vI r3)]) (st' := []) (L' := LW W z6 f6) 1 (bc7_100_27 call x2 r3 _) ?_
            refine xc_b (i' := 7) (ls' := [some (vR 8), some (vR (wJ W 2 + 42)), some (vI (x2 + 1)), some (vI r3)]) (st' := []) (L' := LW W z6 f6) 1 (bc7_100_28 call (x2 + 1) r3 _) ?_
            exact H
          · have H := H.2 (cI1f q5)
            refine xc_b (i' := 56) (ls' := [some (vR 8), some (vR (wJ W 2 + 42)), some (vI x2), some (vI r3)]) (st' := [vI 3, vI x2, vR (wJ W 2 + 42), vR 2]) (L' := LW W z3 f3) 5 (bc7_100_29 call x2 r3 z3 f3) ?_
            obtain ⟨r7, z7, f7, hc, H⟩ := H
            refine xc_call (t := 57) (ls' := [some (vR 8), some (vR (wJ W 2 + 42)), some (vI x2), some (vI r3)]) (st' := [vR 2]) (bc7_100_30 hW (by decide) call x2 3 _ z3 f3) hc ?_
            show XC call (mP 100) 57 [some (vR 8), some (vR (wJ W 2 + 42)), some (vI x2), some (vI r3)] [vI r7, vR 2] (LW W z7 f7) res
            refine xc_b (i' := 58) (ls' := [some (vR 8), some (vR (wJ W 2 + 42)), some (vI x2), some (vI r3)]) (st' := []) (L' := LW W (uZ z7 23 r7) f7) 1 (bc7_100_31 call r7 _ z7 f7) ?_
            refine xc_b (i' := 73) (ls' := [some (vR 8), some (vR (wJ W 2 + 42)), some (vI x2), some (vI r3)]) (st' := []) (L' := LW W (uZ z7 23 r7) f7) 1 (bc7_100_32 call x2 r3 _) ?_
            refine xc_b (i' := 74) (ls' := [some (vR 8), some (vR (wJ W 2 + 42)), some (vI (x2 + 1)), some (vI r3)]) (st' := []) (L' := LW W (uZ z7 23 r7) f7) 1 (bc7_100_27 call x2 r3 _) ?_
            refine xc_b (i' := 7) (ls' := [some (vR 8), some (vR (wJ W 2 + 42)), some (vI (x2 + 1)), some (vI r3)]) (st' := []) (L' := LW W (uZ z7 23 r7) f7) 1 (bc7_100_28 call (x2 + 1) r3 _) ?_
            exact H
        · have H := H.2 (cI1f q4)
          refine xc_b (i' := 40) (ls' := [some (vR 8), some (vR (wJ W 2 + 42)), some (vI x2), some (vI r3)]) (st' := [vI 3, vI x2, vR (wJ W 2 + 42), vR 2]) (L' := LW W z3 f3) 5 (bc7_100_33 call x2 r3 z3 f3) ?_
          obtain ⟨r8, z8, f8, hc, H⟩ := H
          refine xc_call (t := 41) (ls' := [some (vR 8), some (vR (wJ W 2 + 42)), some (vI x2), some (vI r3)]) (st' := [vR 2]) (bc7_100_34 hW (by decide) call x2 3 _ z3 f3) hc ?_
          show XC call (mP 100) 41 [some (vR 8), some (vR (wJ W 2 + 42)), some (vI x2), some (vI r3)] [vI r8, vR 2] (LW W z8 f8) res
          refine xc_b (i' := 45) (ls' := [some (vR 8), some (vR (wJ W 2 + 42)), some (vI x2), some (vI r3)]) (st' := [vI 4, vI x2, vR (wJ W 2 + 42), vI 1, vI r8, vR 2]) (L' := LW W z8 f8) 4 (bc7_100_35 call x2 r3 r8 _) ?_
          obtain ⟨r9, z9, f9, hc, H⟩ := H
          refine xc_call (t := 46) (ls' := [some (vR 8), some (vR (wJ W 2 + 42)), some (vI x2), some (vI r3)]) (st' := [vI 1, vI r8, vR 2]) (bc7_100_36 hW (by decide) call x2 4 1 r8 _ z8 f8) hc ?_
          show XC call (mP 100) 46 [some (vR 8), some (vR (wJ W 2 + 42)), some (vI x2), some (vI r3)] [vI r9, vI 1, vI r8, vR 2] (LW W z9 f9) res
          obtain ⟨z10, f10, hc, H⟩ := H
          refine xc_call (t := 47) (ls' := [some (vR 8), some (vR (wJ W 2 + 42)), some (vI x2), some (vI r3)]) (st' := []) (bc7_100_37 call r8 1 r9 _ z9 f9) hc ?_
          show XC call (mP 100) 47 [some (vR 8), some (vR (wJ W 2 + 42)), some (vI x2), some (vI r3)] [] (LW W z10 f10) res
          refine xc_b (i' := 73) (ls' := [some (vR 8), some (vR (wJ W 2 + 42)), some (vI x2), some (vI r3)]) (st' := []) (L' := LW W z10 f10) 1 (bc7_100_38 call x2 r3 _) ?_
          refine xc_b (i' := 74) (ls' := [some (vR 8), some (vR (wJ W 2 + 42)), some (vI (x2 + 1)), some (vI r3)]) (st' := []) (L' := LW W z10 f10) 1 (bc7_100_27 call x2 r3 _) ?_
          refine xc_b (i' := 7) (ls' := [some (vR 8), some (vR (wJ W 2 + 42)), some (vI (x2 + 1)), some (vI r3)]) (st' := []) (L' := LW W z10 f10) 1 (bc7_100_28 call (x2 + 1) r3 _) ?_
          exact H
set_option maxRecDepth 100000 in
theorem b102_1 (call : QC FA) (o1 : Option PV) (o2 : Option PV) (o3 : Option PV) (o4 : Option PV) (z : Nat → Int32) (f : Nat → FA) (F : Nat) : xnG call 102 (F + 3) 0 [some (vR 8), o1, o2, o3, o4] [] (LW W z f) = xnG call 102 F 3 [some (vR 8), o1, o2, o3, o4] [vI 1, vR 7] (LW W z f) := rfl
set_option maxRecDepth 100000 in
theorem b102_2 (hW : WTX W) (call : QC FA) (hk : 1 < 4) (hp : pin 1 4 = true) (hc : ix 1 = 1) (ls : List (Option PV)) (z : Nat → Int32) (f : Nat → FA) (F : Nat) : xnG call 102 (F + 1) 3 ls [vI 1, vR 7] (LW W z f) = xnG call 102 F 4 ls [vR (wJ W 1 + 42)] (LW W z f) := gx_t (ih := xnG call 102 F) (t := 4) (st := []) hW hk hc hp
set_option maxRecDepth 100000 in
theorem b102_3 (call : QC FA) (o1 : Option PV) (o2 : Option PV) (o3 : Option PV) (o4 : Option PV) (L : QH FA) (F : Nat) : xnG call 102 (F + 5) 4 [some (vR 8), o1, o2, o3, o4] [vR (wJ W 1 + 42)] L = xnG call 102 F 9 [some (vR 8), some (vR (wJ W 1 + 42)), some (vI 0), some (vI 0), o4] [] L := rfl
theorem vc102_0 (hW : WTX W) (call : QC FA) (o1 : Option PV) (o2 : Option PV) (o3 : Option PV) (o4 : Option PV) (z : Nat → Int32) (f : Nat → FA) (res : Option PV × QH FA) (H : XC call (mP 102) 9 [some (vR 8), some (vR (wJ W 1 + 42)), some (vI 0), some (vI 0), o4] [] (LW W z f) res) : XC call (mP 102) 0 [some (vR 8), o1, o2, o3, o4] [] (LW W z f) res := by
  refine xc_b (i' := 3) (ls' := [some (vR 8), o1, o2, o3, o4]) (st' := [vI 1, vR 7]) (L' := LW W z f) 3 (b102_1 call o1 o2 o3 o4 z f) ?_
  refine xc_b (i' := 4) (ls' := [some (vR 8), o1, o2, o3, o4]) (st' := [vR (wJ W 1 + 42)]) (L' := LW W z f) 1 (b102_2 hW call (by decide) (by decide) (by decide) _ z f) ?_
  refine xc_b (i' := 9) (ls' := [some (vR 8), some (vR (wJ W 1 + 42)), some (vI 0), some (vI 0), o4]) (st' := []) (L' := LW W z f) 5 (b102_3 call o1 o2 o3 o4 _) ?_
  exact H
set_option maxRecDepth 100000 in
theorem bc9_102_1 (call : QC FA) (x2 : Int32) (x3 : Int32) (o4 : Option PV) (L : QH FA) (F : Nat) : xnG call 102 (F + 2) 9 [some (vR 8), some (vR (wJ W 1 + 42)), some (vI x2), some (vI x3), o4] [] L = xnG call 102 F 11 [some (vR 8), some (vR (wJ W 1 + 42)), some (vI x2), some (vI x3), o4] [vR (wJ W 1 + 42), vI x3] L := rfl
set_option maxRecDepth 100000 in
theorem bc9_102_2 (hW : WTX W) (hk : 1 < 4) (call : QC FA) (s0 : Int32) (ls : List (Option PV)) (z : Nat → Int32) (f : Nat → FA) (F : Nat) : xnG call 102 (F + 1) 11 ls [vR (wJ W 1 + 42), vI s0] (LW W z f) = xnG call 102 F 12 ls [vI (wn W 1), vI s0] (LW W z f) := gt_1 (ih := xnG call 102 F) (t := 12) (st := [vI s0]) hW hk
set_option maxRecDepth 100000 in
theorem bc9_102_3 (call : QC FA) (x y : Int32) (ls : List (Option PV)) (L : QH FA) (F : Nat) : xnG call 102 (F + 1) 12 ls [vI y, vI x] L = bif pcmp 3 x y then xnG call 102 F 48 ls [] L else xnG call 102 F 13 ls [] L := rfl
set_option maxRecDepth 100000 in
theorem bc9_102_4 (call : QC FA) (x2 : Int32) (x3 : Int32) (o4 : Option PV) (L : QH FA) (F : Nat) : xnG call 102 (F + 1) 48 [some (vR 8), some (vR (wJ W 1 + 42)), some (vI x2), some (vI x3), o4] [] L = xnG call 102 F 49 [some (vR 8), some (vR (wJ W 1 + 42)), some (vI x2), some (vI x3), o4] [vI x2] L := rfl
set_option maxRecDepth 100000 in
theorem bc9_102_5 (call : QC FA) (x : Int32) (ls : List (Option PV)) (L : QH FA) (F : Nat) : xnG call 102 (F + 1) 49 ls [vI x] L = some (some (vI x), L) := rfl
set_option maxRecDepth 100000 in
theorem bc9_102_6 (call : QC FA) (x2 : Int32) (x3 : Int32) (o4 : Option PV) (L : QH FA) (F : Nat) : xnG call 102 (F + 3) 13 [some (vR 8), some (vR (wJ W 1 + 42)), some (vI x2), some (vI x3), o4] [] L = xnG call 102 F 16 [some (vR 8), some (vR (wJ W 1 + 42)), some (vI x2), some (vI x3), o4] [vI 0, vI x3, vR (wJ W 1 + 42)] L := rfl
set_option maxRecDepth 100000 in
theorem bc9_102_7 (hW : WTX W) (hk : 1 < 4) (call : QC FA) (a0 : Int32) (a1 : Int32) (ls : List (Option PV)) (z : Nat → Int32) (f : Nat → FA) (F : Nat) : xnG call 102 (F + 1) 16 ls [vI a1, vI a0, vR (wJ W 1 + 42)] (LW W z f) = cbd (call 18 [vR (wJ W 1 + 42), vI a0, vI a1] (LW W z f)) (fun r L' => xnG call 102 F 17 ls (r.toList ++ []) L') := pcY (ih := xnG call 102 F) (call := call) (a := 18) (b := 2) (v := 8) (t := 17) (x := wJ W 1 + 42) (ls := ls) (As := [vI a0, vI a1]) (st' := []) (L := LW W z f) rfl (gj_t hW hk) rfl
set_option maxRecDepth 100000 in
theorem bc9_102_8 (call : QC FA) (x2 : Int32) (x3 : Int32) (o4 : Option PV) (s0 : Int32) (L : QH FA) (F : Nat) : xnG call 102 (F + 4) 17 [some (vR 8), some (vR (wJ W 1 + 42)), some (vI x2), some (vI x3), o4] [vI s0] L = xnG call 102 F 21 [some (vR 8), some (vR (wJ W 1 + 42)), some (vI x2), some (vI x3), some (vI s0)] [vI 1, vI x3, vR (wJ W 1 + 42)] L := rfl
set_option maxRecDepth 100000 in
theorem bc9_102_9 (hW : WTX W) (hk : 1 < 4) (call : QC FA) (a0 : Int32) (a1 : Int32) (ls : List (Option PV)) (z : Nat → Int32) (f : Nat → FA) (F : Nat) : xnG call 102 (F + 1) 21 ls [vI a1, vI a0, vR (wJ W 1 + 42)] (LW W z f) = cbd (call 18 [vR (wJ W 1 + 42), vI a0, vI a1] (LW W z f)) (fun r L' => xnG call 102 F 22 ls (r.toList ++ []) L') := pcY (ih := xnG call 102 F) (call := call) (a := 18) (b := 2) (v := 8) (t := 22) (x := wJ W 1 + 42) (ls := ls) (As := [vI a0, vI a1]) (st' := []) (L := LW W z f) rfl (gj_t hW hk) rfl
set_option maxRecDepth 100000 in
theorem bc9_102_10 (call : QC FA) (x2 : Int32) (x3 : Int32) (x4 : Int32) (s0 : Int32) (z : Nat → Int32) (f : Nat → FA) (F : Nat) : xnG call 102 (F + 3) 22 [some (vR 8), some (vR (wJ W 1 + 42)), some (vI x2), some (vI x3), some (vI x4)] [vI s0] (LW W z f) = xnG call 102 F 25 [some (vR 8), some (vR (wJ W 1 + 42)), some (vI x2), some (vI x3), some (vI x4)] [vI (z 24), vI s0] (LW W z f) := rfl
set_option maxRecDepth 100000 in
theorem bc9_102_11 (call : QC FA) (x y : Int32) (ls : List (Option PV)) (L : QH FA) (F : Nat) : xnG call 102 (F + 1) 25 ls [vI y, vI x] L = bif pcmp 1 x y then xnG call 102 F 46 ls [] L else xnG call 102 F 26 ls [] L := rfl
set_option maxRecDepth 100000 in
theorem bc9_102_12 (call : QC FA) (x2 : Int32) (x3 : Int32) (x4 : Int32) (L : QH FA) (F : Nat) : xnG call 102 (F + 1) 46 [some (vR 8), some (vR (wJ W 1 + 42)), some (vI x2), some (vI x3), some (vI x4)] [] L = xnG call 102 F 47 [some (vR 8), some (vR (wJ W 1 + 42)), some (vI x2), some (vI (x3 + 1)), some (vI x4)] [] L := rfl
set_option maxRecDepth 100000 in
theorem bc9_102_13 (call : QC FA) (x2 : Int32) (x3 : Int32) (x4 : Int32) (L : QH FA) (F : Nat) : xnG call 102 (F + 1) 47 [some (vR 8), some (vR (wJ W 1 + 42)), some (vI x2), some (vI x3), some (vI x4)] [] L = xnG call 102 F 9 [some (vR 8), some (vR (wJ W 1 + 42)), some (vI x2), some (vI x3), some (vI x4)] [] L := rfl
set_option maxRecDepth 100000 in
theorem bc9_102_14 (call : QC FA) (x2 : Int32) (x3 : Int32) (x4 : Int32) (z : Nat → Int32) (f : Nat → FA) (F : Nat) : xnG call 102 (F + 3) 26 [some (vR 8), some (vR (wJ W 1 + 42)), some (vI x2), some (vI x3), some (vI x4)] [] (LW W z f) = xnG call 102 F 29 [some (vR 8), some (vR (wJ W 1 + 42)), some (vI x2), some (vI x3), some (vI x4)] [vI x4, vR 2] (LW W z f) := rfl
set_option maxRecDepth 100000 in
theorem bc9_102_15 (call : QC FA) (a0 : Int32) (ls : List (Option PV)) (z : Nat → Int32) (f : Nat → FA) (F : Nat) : xnG call 102 (F + 1) 29 ls [vI a0, vR 2] (LW W z f) = cbd (call 84 [vR 2, vI a0] (LW W z f)) (fun r L' => xnG call 102 F 30 ls (r.toList ++ []) L') := pcY (ih := xnG call 102 F) (call := call) (a := 84) (b := 1) (v := 0) (t := 30) (x := 2) (ls := ls) (As := [vI a0]) (st' := []) (L := LW W z f) rfl rfl rfl
set_option maxRecDepth 100000 in
theorem bc9_102_16 (call : QC FA) (x : Int32) (ls : List (Option PV)) (L : QH FA) (F : Nat) : xnG call 102 (F + 1) 30 ls [vI x] L = bif pcmp 0 x 0 then xnG call 102 F 46 ls [] L else xnG call 102 F 31 ls [] L := rfl
set_option maxRecDepth 100000 in
theorem bc9_102_17 (call : QC FA) (x2 : Int32) (x3 : Int32) (x4 : Int32) (L : QH FA) (F : Nat) : xnG call 102 (F + 3) 31 [some (vR 8), some (vR (wJ W 1 + 42)), some (vI x2), some (vI x3), some (vI x4)] [] L = xnG call 102 F 34 [some (vR 8), some (vR (wJ W 1 + 42)), some (vI x2), some (vI x3), some (vI x4)] [vI x4, vR 8, vR 8] L := rfl
set_option maxRecDepth 100000 in
theorem bc9_102_18 (call : QC FA) (a0 : Int32) (ls : List (Option PV)) (z : Nat → Int32) (f : Nat → FA) (F : Nat) : xnG call 102 (F + 1) 34 ls [vI a0, vR 8, vR 8] (LW W z f) = cbd (call 92 [vR 8, vI a0] (LW W z f)) (fun r L' => xnG call 102 F 35 ls (r.toList ++ [vR 8]) L') := pcY (ih := xnG call 102 F) (call := call) (a := 92) (b := 1) (v := 1) (t := 35) (x := 8) (ls := ls) (As := [vI a0]) (st' := [vR 8]) (L := LW W z f) rfl rfl rfl
set_option maxRecDepth 100000 in
theorem bc9_102_19 (call : QC FA) (a0 : Int32) (ls : List (Option PV)) (z : Nat → Int32) (f : Nat → FA) (F : Nat) : xnG call 102 (F + 1) 35 ls [vI a0, vR 8] (LW W z f) = cbd (call 93 [vR 8, vI a0] (LW W z f)) (fun r L' => xnG call 102 F 36 ls (r.toList ++ []) L') := pcY (ih := xnG call 102 F) (call := call) (a := 93) (b := 1) (v := 1) (t := 36) (x := 8) (ls := ls) (As := [vI a0]) (st' := []) (L := LW W z f) rfl rfl rfl
set_option maxRecDepth 100000 in
theorem bc9_102_20 (call : QC FA) (x : Int32) (ls : List (Option PV)) (L : QH FA) (F : Nat) : xnG call 102 (F + 1) 36 ls [vI x] L = bif pcmp 0 x 0 then xnG call 102 F 46 ls [] L else xnG call 102 F 37 ls [] L := rfl
set_option maxRecDepth 100000 in
theorem bc9_102_21 (call : QC FA) (x2 : Int32) (x3 : Int32) (x4 : Int32) (L : QH FA) (F : Nat) : xnG call 102 (F + 5) 37 [some (vR 8), some (vR (wJ W 1 + 42)), some (vI x2), some (vI x3), some (vI x4)] [] L = xnG call 102 F 42 [some (vR 8), some (vR (wJ W 1 + 42)), some (vI x2), some (vI x3), some (vI x4)] [vI 2, vI x3, vR (wJ W 1 + 42), vI x4, vR 8] L := rfl
set_option maxRecDepth 100000 in
theorem bc9_102_22 (hW : WTX W) (hk : 1 < 4) (call : QC FA) (a0 : Int32) (a1 : Int32) (s0 : Int32) (ls : List (Option PV)) (z : Nat → Int32) (f : Nat → FA) (F : Nat) : xnG call 102 (F + 1) 42 ls [vI a1, vI a0, vR (wJ W 1 + 42), vI s0, vR 8] (LW W z f) = cbd (call 18 [vR (wJ W 1 + 42), vI a0, vI a1] (LW W z f)) (fun r L' => xnG call 102 F 43 ls (r.toList ++ [vI s0, vR 8]) L') := pcY (ih := xnG call 102 F) (call := call) (a := 18) (b := 2) (v := 8) (t := 43) (x := wJ W 1 + 42) (ls := ls) (As := [vI a0, vI a1]) (st' := [vI s0, vR 8]) (L := LW W z f) rfl (gj_t hW hk) rfl
set_option maxRecDepth 100000 in
theorem bc9_102_23 (call : QC FA) (a0 : Int32) (a1 : Int32) (ls : List (Option PV)) (z : Nat → Int32) (f : Nat → FA) (F : Nat) : xnG call 102 (F + 1) 43 ls [vI a1, vI a0, vR 8] (LW W z f) = cbd (call 94 [vR 8, vI a0, vI a1] (LW W z f)) (fun r L' => xnG call 102 F 44 ls (r.toList ++ []) L') := pcY (ih := xnG call 102 F) (call := call) (a := 94) (b := 2) (v := 1) (t := 44) (x := 8) (ls := ls) (As := [vI a0, vI a1]) (st' := []) (L := LW W z f) rfl rfl rfl
set_option maxRecDepth 100000 in
theorem bc9_102_24 (call : QC FA) (x2 : Int32) (x3 : Int32) (x4 : Int32) (s0 : Int32) (L : QH FA) (F : Nat) : xnG call 102 (F + 1) 44 [some (vR 8), some (vR (wJ W 1 + 42)), some (vI x2), some (vI x3), some (vI x4)] [vI s0] L = xnG call 102 F 45 [some (vR 8), some (vR (wJ W 1 + 42)), some (vI x2), some (vI x3), some (vI x4)] [] L := rfl
set_option maxRecDepth 100000 in
theorem bc9_102_25 (call : QC FA) (x2 : Int32) (x3 : Int32) (x4 : Int32) (L : QH FA) (F : Nat) : xnG call 102 (F + 1) 45 [some (vR 8), some (vR (wJ W 1 + 42)), some (vI x2), some (vI x3), some (vI x4)] [] L = xnG call 102 F 46 [some (vR 8), some (vR (wJ W 1 + 42)), some (vI (x2 + 1)), some (vI x3), some (vI x4)] [] L := rfl
theorem vcc9_102_9 (hW : WTX W) (hk : kt < 4) (call : QC FA) (x2 : Int32) (x3 : Int32) (o4 : Option PV) (z : Nat → Int32) (f : Nat → FA) (res : Option PV × QH FA) (H : ((I (wn W 1) ≤ I x3 → res = (some (vI x2), LW W z f)) ∧ (I x3 < I (wn W 1) → (∃ (r1 : Int32) (z1 : Nat → Int32) (f1 : Nat → FA), call 18 [vR (wJ W 1 + 42), vI x3, vI 0] (LW W z f) = some (some (vI r1), LW W z1 f1) ∧ (∃ (r2 : Int32) (z2 : Nat → Int32) (f2 : Nat → FA), call 18 [vR (wJ W 1 + 42), vI x3, vI 1] (LW W z1 f1) = some (some (vI r2), LW W z2 f2) ∧ ((¬ r2 = z2 24 → XC call (mP 102) 9 [some (vR 8), some (vR (wJ W 1 + 42)), some (vI x2), some (vI (x3 + 1)), some (vI r1)] [] (LW W z2 f2) res) ∧ (r2 = z2 24 → (∃ (r3 : Int32) (z3 : Nat → Int32) (f3 : Nat → FA), call 84 [vR 2, vI r1] (LW W z2 f2) = some (some (vI r3), LW W z3 f3) ∧ ((r3 = 0 → XC call (mP 102) 9 [some (vR 8), some (vR (wJ W 1 + 42)), some (vI x2), some (vI (x3 + 1)), some (vI r1)] [] (LW W z3 f3) res) ∧ (¬ r3 = 0 → (∃ (r4 : Int32) (z4 : Nat → Int32) (f4 : Nat → FA), call 92 [vR 8, vI r1] (LW W z3 f3) = some (some (vI r4), LW W z4 f4) ∧ (∃ (r5 : Int32) (z5 : Nat → Int32) (f5 : Nat → FA), call 93 [vR 8, vI r4] (LW W z4 f4) = some (some (vI r5), LW W z5 f5) ∧ ((r5 = 0 → XC call (mP 102) 9 [some (vR 8), some (vR (wJ W 1 + 42)), some (vI x2), some (vI (x3 + 1)), some (vI r1)] [] (LW W z5 f5) res) ∧ (¬ r5 = 0 → (∃ (r6 : Int32) (z6 : Nat → Int32) (f6 : Nat → FA), call 18 [vR (wJ W 1 + 42), vI x3, vI 2] (LW W z5 f5) = some (some (vI r6), LW W z6 f6) ∧ (∃ (r7 : Int32) (z7 : Nat → Int32) (f7 : Nat → FA), call 94 [vR 8, vI r1, vI r6] (LW W z6 f6) = some (some (vI r7), LW W z7 f7) ∧ XC call (mP 102) 9 [some (vR 8), some (vR (wJ W 1 + 42)), some (vI (x2 + 1)), some (vI (x3 + 1)), some (vI r1)] [] (LW W z7 f7) res)))))))))))))))) : XC call (mP 102) 9 [some (vR 8), some (vR (wJ W 1 + 42)), some (vI x2), some (vI x3), o4] [] (LW W z f) res := by
  refine xc_b (i' := 11) (ls' := [some (vR 8), some (vR (wJ W 1 + 42)), some (vI x2), some (vI x3), o4]) (st' := [vR (wJ W 1 + 42), vI x3]) (L' := LW W z f) 2 (bc9_102_1 call x2 x3 o4 _) ?_
  refine xc_b (i' := 12) (ls' := [some (vR 8), some (vR (wJ W 1 + 42)), some (vI x2), some (vI x3), o4]) (st' := [vI (wn W 1), vI x3]) (L' := LW W z f) 1 (bc9_102_2 hW (by decide) call x3 _ z f) ?_
  refine xc_if (it := 48) (ie := 13) (ls' := [some (vR 8), some (vR (wJ W 1 + 42)), some (vI x2), some (vI x3), o4]) (st' := []) (bc9_102_3 call x3 (wn W 1) _ _) (fun q1 => ?_) (fun q1 => ?_)
  · have H := H.1 (cI3t q1 rfl rfl)
    refine xc_b (i' := 49) (ls' := [some (vR 8), some (vR (wJ W 1 + 42)), some (vI x2), some (vI x3), o4]) (st' := [vI x2]) (L' := LW W z f) 1 (bc9_102_4 call x2 x3 o4 _) ?_
    subst H
    exact xc_ret (bc9_102_5 call _ _ _)
  · have H := H.2 (cI3f q1 rfl rfl)
    refine xc_b (i' := 16) (ls' := [some (vR 8), some (vR (wJ W 1 + 42)), some (vI x2), some (vI x3), o4]) (st' := [vI 0, vI x3, vR (wJ W 1 + 42)]) (L' := LW W z f) 3 (bc9_102_6 call x2 x3 o4 _) ?_
    obtain ⟨r1, z1, f1, hc, H⟩ := H
    refine xc_call (t := 17) (ls' := [some (vR 8), some (vR (wJ W 1 + 42)), some (vI x2), some (vI x3), o4]) (st' := []) (bc9_102_7 hW (by decide) call x3 0 _ z f) hc ?_
    show XC call (mP 102) 17 [some (vR 8), some (vR (wJ W 1 + 42)), some (vI x2), some (vI x3), o4] [vI r1] (LW W z1 f1) res
    refine xc_b (i' := 21) (ls' := [some (vR 8), some (vR (wJ W 1 + 42)), some (vI x2), some (vI x3), some (vI r1)]) (st' := [vI 1, vI x3, vR (wJ W 1 + 42)]) (L' := LW W z1 f1) 4 (bc9_102_8 call x2 x3 o4 r1 _) ?_
    obtain ⟨r2, z2, f2, hc, H⟩ := H
    refine xc_call (t := 22) (ls' := [some (vR 8), some (vR (wJ W 1 + 42)), some (vI x2), some (vI x3), some (vI r1)]) (st' := []) (bc9_102_9 hW (by decide) call x3 1 _ z1 f1) hc ?_
    show XC call (mP 102) 22 [some (vR 8), some (vR (wJ W 1 + 42)), some (vI x2), some (vI x3), some (vI r1)] [vI r2] (LW W z2 f2) res
    refine xc_b (i' := 25) (ls' := [some (vR 8), some (vR (wJ W 1 + 42)), some (vI x2), some (vI x3), some (vI r1)]) (st' := [vI (z2 24), vI r2]) (L' := LW W z2 f2) 3 (bc9_102_10 call x2 x3 r1 r2 z2 f2) ?_
    refine xc_if (it := 46) (ie := 26) (ls' := [some (vR 8), some (vR (wJ W 1 + 42)), some (vI x2), some (vI x3), some (vI r1)]) (st' := []) (bc9_102_11 call r2 (z2 24) _ _) (fun q2 => ?_) (fun q2 => ?_)
    · have H := H.1 (cI1t q2)
      refine xc_b (i' := 47) (ls' := [some (vR 8), some (vR (wJ W 1 + 42)), some (vI x2), some (vI (x3 + 1)), some (vI r1)]) (st' := []) (L' := LW W z2 f2) 1 (bc9_102_12 call x2 x3 r1 _) ?_
      refine xc_b (i' := 9) (ls' := [some (vR 8), some (vR (wJ W 1 + 42)), some (vI x2), some (vI (x3 + 1)), some (vI r1)]) (st' := []) (L' := LW W z2 f2) 1 (bc9_102_13 call x2 (x3 + 1) r1 _) ?_
      exact H
    · have H := H.2 (cI1f q2)
      refine xc_b (i' := 29) (ls' := [some (vR 8), some (vR (wJ W 1 + 42)), some (vI x2), some (vI x3), some (vI r1)]) (st' := [vI r1, vR 2]) (L' := LW W z2 f2) 3 (bc9_102_14 call x2 x3 r1 z2 f2) ?_
      obtain ⟨r3, z3, f3, hc, H⟩ := H
      refine xc_call (t := 30) (ls' := [some (vR 8), some (vR (wJ W 1 + 42)), some (vI x2), some (vI x3), some (vI r1)]) (st' := []) (bc9_102_15 call r1 _ z2 f2) hc ?_
      show XC call (mP 102) 30 [some (vR 8), some (vR (wJ W 1 + 42)), some (vI x2), some (vI x3), some (vI r1)] [vI r3] (LW W z3 f3) res
      refine xc_if (it := 46) (ie := 31) (ls' := [some (vR 8), some (vR (wJ W 1 + 42)), some (vI x2), some (vI x3), some (vI r1)]) (st' := []) (bc9_102_16 call r3 _ _) (fun q3 => ?_) (fun q3 => ?_)
      · have H := H.1 (cI0t q3)
        refine xc_b (i' := 47) (ls' := [some (vR 8), some (vR (wJ W 1 + 42)), some (vI x2), some (vI (x3 + 1)), some (vI r1)]) (st' := []) (L' := LW W z3 f3) 1 (bc9_102_12 call x2 x3 r1 _) ?_
        refine xc_b (i' := 9) (ls' := [some (vR 8), some (vR (wJ W 1 + 42)), some (vI x2), some (vI (x3 + 1)), some (vI r1)]) (st' := []) (L' := LW W z3 f3) 1 (bc9_102_13 call x2 (x3 + 1) r1 _) ?_
        exact H
      · have H := H.2 (cI0f q3)
        refine xc_b (i' := 34) (ls' := [some (vR 8), some (vR (wJ W 1 + 42)), some (vI x2), some (vI x3), some (vI r1)]) (st' := [vI r1, vR 8, vR 8]) (L' := LW W z3 f3) 3 (bc9_102_17 call x2 x3 r1 _) ?_
        obtain ⟨r4, z4, f4, hc, H⟩ := H
        refine xc_call (t := 35) (ls' := [some (vR 8), some (vR (wJ W 1 + 42)), some (vI x2), some (vI x3), some (vI r1)]) (st' := [vR 8]) (bc9_102_18 call r1 _ z3 f3) hc ?_
        show XC call (mP 102) 35 [some (vR 8), some (vR (wJ W 1 + 42)), some (vI x2), some (vI x3), some (vI r1)] [vI r4, vR 8] (LW W z4 f4) res
        obtain ⟨r5, z5, f5, hc, H⟩ := H
        refine xc_call (t := 36) (ls' := [some (vR 8), some (vR (wJ W 1 + 42)), some (vI x2), some (vI x3), some (vI r1)]) (st' := []) (bc9_102_19 call r4 _ z4 f4) hc ?_
        show XC call (mP 102) 36 [some (vR 8), some (vR (wJ W 1 + 42)), some (vI x2), some (vI x3), some (vI r1)] [vI r5] (LW W z5 f5) res
        refine xc_if (it := 46) (ie := 37) (ls' := [some (vR 8), some (vR (wJ W 1 + 42)), some (vI x2), some (vI x3), some (vI r1)]) (st' := []) (bc9_102_20 call r5 _ _) (fun q4 => ?_) (fun q4 => ?_)
        · have H := H.1 (cI0t q4)
          refine xc_b (i' := 47) (ls' := [some (vR 8), some (vR (wJ W 1 + 42)), some (vI x2), some (vI (x3 + 1)), some (vI r1)]) (st' := []) (L' := LW W z5 f5) 1 (bc9_102_12 call x2 x3 r1 _) ?_
          refine xc_b (i' := 9) (ls' := [some (vR 8), some (vR (wJ W 1 + 42)), some (vI x2), some (vI (x3 + 1)), some (vI r1)]) (st' := []) (L' := LW W z5 f5) 1 (bc9_102_13 call x2 (x3 + 1) r1 _) ?_
          exact H
        · have H := H.2 (cI0f q4)
          refine xc_b (i' := 42) (ls' := [some (vR 8), some (vR (wJ W 1 + 42)), some (vI x2), some (vI x3), some (vI r1)]) (st' := [vI 2, vI x3, vR (wJ W 1 + 42), vI r1, vR 8]) (L' := LW W z5 f5) 5 (bc9_102_21 call x2 x3 r1 _) ?_
          obtain ⟨r6, z6, f6, hc, H⟩ := H
          refine xc_call (t := 43) (ls' := [some (vR 8), some (vR (wJ W 1 + 42)), some (vI x2), some (vI x3), some (vI r1)]) (st' := [vI r1, vR 8]) (bc9_102_22 hW (by decide) call x3 2 r1 _ z5 f5) hc ?_
          show XC call (mP 102) 43 [some (vR 8), some (vR (wJ W 1 + 42)), some (vI x2), some (vI x3), some (vI r1)] [vI r6, vI r1, vR 8] (LW W z6 f6) res
          obtain ⟨r7, z7, f7, hc, H⟩ := H
          refine xc_call (t := 44) (ls' := [some (vR 8), some (vR (wJ W 1 + 42)), some (vI x2), some (vI x3), some (vI r1)]) (st' := []) (bc9_102_23 call r1 r6 _ z6 f6) hc ?_
          show XC call (mP 102) 44 [some (vR 8), some (vR (wJ W 1 + 42)), some (vI x2), some (vI x3), some (vI r1)] [vI r7] (LW W z7 f7) res
          refine xc_b (i' := 45) (ls' := [some (vR 8), some (vR (wJ W 1 + 42)), some (vI x2), some (vI x3), some (vI r1)]) (st' := []) (L' := LW W z7 f7) 1 (bc9_102_24 call x2 x3 r1 r7 _) ?_
          refine xc_b (i' := 46) (ls' := [some (vR 8), some (vR (wJ W 1 + 42)), some (vI (x2 + 1)), some (vI x3), some (vI r1)]) (st' := []) (L' := LW W z7 f7) 1 (bc9_102_25 call x2 x3 r1 _) ?_
          refine xc_b (i' := 47) (ls' := [some (vR 8), some (vR (wJ W 1 + 42)), some (vI (x2 + 1)), some (vI (x3 + 1)), some (vI r1)]) (st' := []) (L' := LW W z7 f7) 1 (bc9_102_12 call (x2 + 1) x3 r1 _) ?_
          refine xc_b (i' := 9) (ls' := [some (vR 8), some (vR (wJ W 1 + 42)), some (vI (x2 + 1)), some (vI (x3 + 1)), some (vI r1)]) (st' := []) (L' := LW W z7 f7) 1 (bc9_102_13 call (x2 + 1) (x3 + 1) r1 _) ?_
          exact H
set_option maxRecDepth 100000 in
theorem bq0_141_1 (call : QC FA) (z : Nat → Int32) (f : Nat → FA) (F : Nat) : xnG call 141 (F + 2) 0 [some (vR 12), some (vR 2)] [] (LW W z f) = xnG call 141 F 2 [some (vR 12), some (vR 2)] [vI (z 122)] (LW W z f) := rfl
set_option maxRecDepth 100000 in
theorem bq0_141_2 (call : QC FA) (x : Int32) (ls : List (Option PV)) (L : QH FA) (F : Nat) : xnG call 141 (F + 1) 2 ls [vI x] L = bif pcmp 2 x 0 then xnG call 141 F 7 ls [] L else xnG call 141 F 3 ls [] L := rfl
set_option maxRecDepth 100000 in
theorem bq0_141_3 (call : QC FA) (z : Nat → Int32) (f : Nat → FA) (F : Nat) : xnG call 141 (F + 3) 3 [some (vR 12), some (vR 2)] [] (LW W z f) = xnG call 141 F 6 [some (vR 12), some (vR 2)] [vI 6, vI (z 122)] (LW W z f) := rfl
set_option maxRecDepth 100000 in
theorem bq0_141_4 (call : QC FA) (x y : Int32) (ls : List (Option PV)) (L : QH FA) (F : Nat) : xnG call 141 (F + 1) 6 ls [vI y, vI x] L = bif pcmp 2 x y then xnG call 141 F 8 ls [] L else xnG call 141 F 7 ls [] L := rfl
set_option maxRecDepth 100000 in
theorem bq0_141_5 (call : QC FA) (z : Nat → Int32) (f : Nat → FA) (F : Nat) : xnG call 141 (F + 4) 8 [some (vR 12), some (vR 2)] [] (LW W z f) = xnG call 141 F 12 [some (vR 12), some (vR 2)] [vI (z 122), vR 13] (LW W z f) := rfl
set_option maxRecDepth 100000 in
theorem bq0_141_6 (call : QC FA) (ls : List (Option PV)) (z : Nat → Int32) (f : Nat → FA) (F : Nat) : xnG call 141 (F + 1) 12 ls [vI 0, vR 13] (LW W z f) = bif ((Nat.beq 1 1 || (Nat.beq 1 2 || Nat.beq 1 3)) && pin 0 6) then xnG call 141 F 13 ls [.inr (.inl (rgW (ix 0)))] (LW W z f) else none := rfl
set_option maxRecDepth 100000 in
theorem bq0_141_7 (call : QC FA) (L : QH FA) (F : Nat) : xnG call 141 (F + 1) 13 [some (vR 12), some (vR 2)] [vR 14] L = xnG call 141 F 14 [some (vR 12), some (vR 2)] [vR 2, vR 14] L := rfl
set_option maxRecDepth 100000 in
theorem bq0_141_8 (call : QC FA) (ls : List (Option PV)) (z : Nat → Int32) (f : Nat → FA) (F : Nat) : xnG call 141 (F + 1) 14 ls [vR 2, vR 14] (LW W z f) = cbd (call 90 [vR 14, vR 2] (LW W z f)) (fun r L' => xnG call 141 F 15 ls (r.toList ++ []) L') := pcY (ih := xnG call 141 F) (call := call) (a := 90) (b := 1) (v := 0) (t := 15) (x := 14) (ls := ls) (As := [vR 2]) (st' := []) (L := LW W z f) rfl rfl rfl
set_option maxRecDepth 100000 in
theorem bq0_141_9 (call : QC FA) (z : Nat → Int32) (f : Nat → FA) (F : Nat) : xnG call 141 (F + 6) 15 [some (vR 12), some (vR 2)] [] (LW W z f) = xnG call 141 F 21 [some (vR 12), some (vR 2)] [vI 6, vI ((z 122) + 1), vR 12] (LW W z f) := rfl
set_option maxRecDepth 100000 in
theorem bq0_141_10 (call : QC FA) (x y : Int32) (ls : List (Option PV)) (L : QH FA) (F : Nat) : xnG call 141 (F + 1) 21 ls [vI y, vI x, vR 12] L = bif pcmp 3 x y then xnG call 141 F 27 ls [vR 12] L else xnG call 141 F 22 ls [vR 12] L := rfl
set_option maxRecDepth 100000 in
theorem bq0_141_11 (call : QC FA) (L : QH FA) (F : Nat) : xnG call 141 (F + 1) 27 [some (vR 12), some (vR 2)] [vR 12] L = xnG call 141 F 28 [some (vR 12), some (vR 2)] [vI 0, vR 12] L := rfl
set_option maxRecDepth 100000 in
theorem bq0_141_12 (call : QC FA) (y : Int32) (ls : List (Option PV)) (z : Nat → Int32) (f : Nat → FA) (F : Nat) : xnG call 141 (F + 1) 28 ls [vI y, vR 12] (LW W z f) = xnG call 141 F 29 ls [] (LW W (uZ z 122 y) f) := rfl
set_option maxRecDepth 100000 in
theorem bq0_141_13 (call : QC FA) (z : Nat → Int32) (f : Nat → FA) (F : Nat) : xnG call 141 (F + 6) 29 [some (vR 12), some (vR 2)] [] (LW W z f) = xnG call 141 F 35 [some (vR 12), some (vR 2)] [vI 6, vI ((z 123) + 1), vR 12] (LW W z f) := rfl
set_option maxRecDepth 100000 in
theorem bq0_141_14 (call : QC FA) (x y : Int32) (ls : List (Option PV)) (L : QH FA) (F : Nat) : xnG call 141 (F + 1) 35 ls [vI y, vI x, vR 12] L = bif pcmp 2 y x then xnG call 141 F 36 ls [vI y, vR 12] L else xnG call 141 F 36 ls [vI x, vR 12] L := pmn (xnG call 141 F) 36 x y ls [vR 12] L rfl
set_option maxRecDepth 100000 in
theorem bq0_141_15 (call : QC FA) (y : Int32) (ls : List (Option PV)) (z : Nat → Int32) (f : Nat → FA) (F : Nat) : xnG call 141 (F + 1) 36 ls [vI y, vR 12] (LW W z f) = xnG call 141 F 37 ls [] (LW W (uZ z 123 y) f) := rfl
set_option maxRecDepth 100000 in
theorem bq0_141_16 (call : QC FA) (ls : List (Option PV)) (L : QH FA) (F : Nat) : xnG call 141 (F + 1) 37 ls [] L = some (none, L) := rfl
set_option maxRecDepth 100000 in
theorem bq0_141_17 (call : QC FA) (z : Nat → Int32) (f : Nat → FA) (F : Nat) : xnG call 141 (F + 5) 22 [some (vR 12), some (vR 2)] [vR 12] (LW W z f) = xnG call 141 F 28 [some (vR 12), some (vR 2)] [vI ((z 122) + 1), vR 12] (LW W z f) := rfl
theorem vcq0_141_0 (call : QC FA) (z : Nat → Int32) (f : Nat → FA) (res : Option PV × QH FA) (H : (∃ (z1 : Nat → Int32) (f1 : Nat → FA), call 90 [vR 14, vR 2] (LW W (uZ z 122 0) f) = some (none, LW W z1 f1) ∧ ((6 ≤ I ((z1 122) + 1) → ((6 < I ((z1 123) + 1) → res = (none, LW W (uZ (uZ z1 122 0) 123 6) f1)) ∧ (I ((z1 123) + 1) ≤ 6 → res = (none, LW W (uZ (uZ z1 122 0) 123 ((z1 123) + 1)) f1)))) ∧ (I ((z1 122) + 1) < 6 → ((6 < I ((z1 123) + 1) → res = (none, LW W (uZ (uZ z1 122 ((z1 122) + 1)) 123 6) f1)) ∧ (I ((z1 123) + 1) ≤ 6 → res = (none, LW W (uZ (uZ z1 122 ((z1 122) + 1)) 123 ((z1 123) + 1)) f1))))))) : XC call (mP 141) 0 [some (vR 12), some (vR 2)] [] (LW W (uZ z 122 0) f) res := by
  refine xc_b (i' := 2) (ls' := [some (vR 12), some (vR 2)]) (st' := [vI 0]) (L' := LW W (uZ z 122 0) f) 2 (bq0_141_1 call (uZ z 122 0) f) ?_
  refine xc_f (it := 7) (ie := 3) (ls' := [some (vR 12), some (vR 2)]) (st' := []) (bq0_141_2 call 0 _ _) (by decide) ?_
  refine xc_b (i' := 6) (ls' := [some (vR 12), some (vR 2)]) (st' := [vI 6, vI 0]) (L' := LW W (uZ z 122 0) f) 3 (bq0_141_3 call (uZ z 122 0) f) ?_
  refine xc_t (it := 8) (ie := 7) (ls' := [some (vR 12), some (vR 2)]) (st' := []) (bq0_141_4 call 0 6 _ _) (by decide) ?_
  refine xc_b (i' := 12) (ls' := [some (vR 12), some (vR 2)]) (st' := [vI 0, vR 13]) (L' := LW W (uZ z 122 0) f) 4 (bq0_141_5 call (uZ z 122 0) f) ?_
  refine xc_g (i' := 13) (ls' := [some (vR 12), some (vR 2)]) (st' := [.inr (.inl (rgW (ix 0)))]) (L' := LW W (uZ z 122 0) f) (bq0_141_6 call _ (uZ z 122 0) f) (by decide) ?_
  show XC call (mP 141) 13 [some (vR 12), some (vR 2)] [vR 14] (LW W (uZ z 122 0) f) res
  refine xc_b (i' := 14) (ls' := [some (vR 12), some (vR 2)]) (st' := [vR 2, vR 14]) (L' := LW W (uZ z 122 0) f) 1 (bq0_141_7 call _) ?_
  obtain ⟨z1, f1, hc, H⟩ := H
  refine xc_call (t := 15) (ls' := [some (vR 12), some (vR 2)]) (st' := []) (bq0_141_8 call _ (uZ z 122 0) f) hc ?_
  show XC call (mP 141) 15 [some (vR 12), some (vR 2)] [] (LW W z1 f1) res
  refine xc_b (i' := 21) (ls' := [some (vR 12), some (vR 2)]) (st' := [vI 6, vI ((z1 122) + 1), vR 12]) (L' := LW W z1 f1) 6 (bq0_141_9 call z1 f1) ?_
  refine xc_if (it := 27) (ie := 22) (ls' := [some (vR 12), some (vR 2)]) (st' := [vR 12]) (bq0_141_10 call ((z1 122) + 1) 6 _ _) (fun q1 => ?_) (fun q1 => ?_)
  · have H := H.1 (cI3t q1 rfl rfl)
    refine xc_b (i' := 28) (ls' := [some (vR 12), some (vR 2)]) (st' := [vI 0, vR 12]) (L' := LW W z1 f1) 1 (bq0_141_11 call _) ?_
    refine xc_b (i' := 29) (ls' := [some (vR 12), some (vR 2)]) (st' := []) (L' := LW W (uZ z1 122 0) f1) 1 (bq0_141_12 call 0 _ z1 f1) ?_
    refine xc_b (i' := 35) (ls' := [some (vR 12), some (vR 2)]) (st' := [vI 6, vI ((z1 123) + 1), vR 12]) (L' := LW W (uZ z1 122 0) f1) 6 (bq0_141_13 call (uZ z1 122 0) f1) ?_
    refine xc_if2 (it := 36) (ie := 36) (ls' := [some (vR 12), some (vR 2)]) (st1 := [vI 6, vR 12]) (st2 := [vI ((z1 123) + 1), vR 12]) (bq0_141_14 call ((z1 123) + 1) 6 _ _) (fun q2 => ?_) (fun q2 => ?_)
    · have H := H.1 (cI2t q2 rfl rfl)
      refine xc_b (i' := 37) (ls' := [some (vR 12), some (vR 2)]) (st' := []) (L' := LW W (uZ (uZ z1 122 0) 123 6) f1) 1 (bq0_141_15 call 6 _ (uZ z1 122 0) f1) ?_
      subst H
      exact xc_ret (bq0_141_16 call _ _)
    · have H := H.2 (cI2f q2 rfl rfl)
      refine xc_b (i' := 37) (ls' := [some (vR 12), some (vR 2)]) (st' := []) (L' := LW W (uZ (uZ z1 122 0) 123 ((z1 123) + 1)) f1) 1 (bq0_141_15 call ((z1 123) + 1) _ (uZ z1 122 0) f1) ?_
      subst H
      exact xc_ret (bq0_141_16 call _ _)
  · have H := H.2 (cI3f q1 rfl rfl)
    refine xc_b (i' := 28) (ls' := [some (vR 12), some (vR 2)]) (st' := [vI ((z1 122) + 1), vR 12]) (L' := LW W z1 f1) 5 (bq0_141_17 call z1 f1) ?_
    refine xc_b (i' := 29) (ls' := [some (vR 12), some (vR 2)]) (st' := []) (L' := LW W (uZ z1 122 ((z1 122) + 1)) f1) 1 (bq0_141_12 call ((z1 122) + 1) _ z1 f1) ?_
    refine xc_b (i' := 35) (ls' := [some (vR 12), some (vR 2)]) (st' := [vI 6, vI ((z1 123) + 1), vR 12]) (L' := LW W (uZ z1 122 ((z1 122) + 1)) f1) 6 (bq0_141_13 call (uZ z1 122 ((z1 122) + 1)) f1) ?_
    refine xc_if2 (it := 36) (ie := 36) (ls' := [some (vR 12), some (vR 2)]) (st1 := [vI 6, vR 12]) (st2 := [vI ((z1 123) + 1), vR 12]) (bq0_141_14 call ((z1 123) + 1) 6 _ _) (fun q3 => ?_) (fun q3 => ?_)
    · have H := H.1 (cI2t q3 rfl rfl)
      refine xc_b (i' := 37) (ls' := [some (vR 12), some (vR 2)]) (st' := []) (L' := LW W (uZ (uZ z1 122 ((z1 122) + 1)) 123 6) f1) 1 (bq0_141_15 call 6 _ (uZ z1 122 ((z1 122) + 1)) f1) ?_
      subst H
      exact xc_ret (bq0_141_16 call _ _)
    · have H := H.2 (cI2f q3 rfl rfl)
      refine xc_b (i' := 37) (ls' := [some (vR 12), some (vR 2)]) (st' := []) (L' := LW W (uZ (uZ z1 122 ((z1 122) + 1)) 123 ((z1 123) + 1)) f1) 1 (bq0_141_15 call ((z1 123) + 1) _ (uZ z1 122 ((z1 122) + 1)) f1) ?_
      subst H
      exact xc_ret (bq0_141_16 call _ _)
set_option maxRecDepth 100000 in
theorem bq0_140_1 (call : QC FA) (z : Nat → Int32) (f : Nat → FA) (F : Nat) : xnG call 140 (F + 2) 0 [some (vR 12), some (vR 2)] [] (LW W z f) = xnG call 140 F 2 [some (vR 12), some (vR 2)] [vI (z 123)] (LW W z f) := rfl
set_option maxRecDepth 100000 in
theorem bq0_140_2 (call : QC FA) (x : Int32) (ls : List (Option PV)) (L : QH FA) (F : Nat) : xnG call 140 (F + 1) 2 ls [vI x] L = bif pcmp 0 x 0 then xnG call 140 F 10 ls [] L else xnG call 140 F 3 ls [] L := rfl
set_option maxRecDepth 100000 in
theorem bq0_140_3 (call : QC FA) (L : QH FA) (F : Nat) : xnG call 140 (F + 1) 10 [some (vR 12), some (vR 2)] [] L = xnG call 140 F 11 [some (vR 12), some (vR 2)] [vI 0] L := rfl
set_option maxRecDepth 100000 in
theorem bq0_140_4 (call : QC FA) (ls : List (Option PV)) (L : QH FA) (F : Nat) : xnG call 140 (F + 1) 11 ls [vI 0] L = some (some (vI 0), L) := rfl
set_option maxRecDepth 100000 in
theorem bq0_140_5 (call : QC FA) (z : Nat → Int32) (f : Nat → FA) (F : Nat) : xnG call 140 (F + 2) 3 [some (vR 12), some (vR 2)] [] (LW W z f) = xnG call 140 F 5 [some (vR 12), some (vR 2)] [vI (z 122)] (LW W z f) := rfl
set_option maxRecDepth 100000 in
theorem bq0_140_6 (call : QC FA) (x : Int32) (ls : List (Option PV)) (L : QH FA) (F : Nat) : xnG call 140 (F + 1) 5 ls [vI x] L = bif pcmp 2 x 0 then xnG call 140 F 10 ls [] L else xnG call 140 F 6 ls [] L := rfl
set_option maxRecDepth 100000 in
theorem bq0_140_7 (call : QC FA) (z : Nat → Int32) (f : Nat → FA) (F : Nat) : xnG call 140 (F + 3) 6 [some (vR 12), some (vR 2)] [] (LW W z f) = xnG call 140 F 9 [some (vR 12), some (vR 2)] [vI 6, vI (z 122)] (LW W z f) := rfl
set_option maxRecDepth 100000 in
theorem bq0_140_8 (call : QC FA) (x y : Int32) (ls : List (Option PV)) (L : QH FA) (F : Nat) : xnG call 140 (F + 1) 9 ls [vI y, vI x] L = bif pcmp 2 x y then xnG call 140 F 12 ls [] L else xnG call 140 F 10 ls [] L := rfl
set_option maxRecDepth 100000 in
theorem bq0_140_9 (call : QC FA) (z : Nat → Int32) (f : Nat → FA) (F : Nat) : xnG call 140 (F + 3) 12 [some (vR 12), some (vR 2)] [] (LW W z f) = xnG call 140 F 15 [some (vR 12), some (vR 2)] [vI (z 122), vR 12] (LW W z f) := rfl
set_option maxRecDepth 100000 in
theorem bq0_140_10 (call : QC FA) (x : Int32) (ls : List (Option PV)) (L : QH FA) (F : Nat) : xnG call 140 (F + 1) 15 ls [vI x, vR 12] L = bif pcmp 5 x 0 then xnG call 140 F 21 ls [vR 12] L else xnG call 140 F 16 ls [vR 12] L := rfl
set_option maxRecDepth 100000 in
theorem bq0_140_11 (call : QC FA) (L : QH FA) (F : Nat) : xnG call 140 (F + 1) 21 [some (vR 12), some (vR 2)] [vR 12] L = xnG call 140 F 22 [some (vR 12), some (vR 2)] [vI 5, vR 12] L := rfl
set_option maxRecDepth 100000 in
theorem bq0_140_12 (call : QC FA) (y : Int32) (ls : List (Option PV)) (z : Nat → Int32) (f : Nat → FA) (F : Nat) : xnG call 140 (F + 1) 22 ls [vI y, vR 12] (LW W z f) = xnG call 140 F 23 ls [] (LW W (uZ z 122 y) f) := rfl
set_option maxRecDepth 100000 in
theorem bq0_140_13 (call : QC FA) (z : Nat → Int32) (f : Nat → FA) (F : Nat) : xnG call 140 (F + 5) 23 [some (vR 12), some (vR 2)] [] (LW W z f) = xnG call 140 F 28 [some (vR 12), some (vR 2)] [vI ((z 123) - 1), vR 12] (LW W z f) := rfl
set_option maxRecDepth 100000 in
theorem bq0_140_14 (call : QC FA) (y : Int32) (ls : List (Option PV)) (z : Nat → Int32) (f : Nat → FA) (F : Nat) : xnG call 140 (F + 1) 28 ls [vI y, vR 12] (LW W z f) = xnG call 140 F 29 ls [] (LW W (uZ z 123 y) f) := rfl
set_option maxRecDepth 100000 in
theorem bq0_140_15 (call : QC FA) (z : Nat → Int32) (f : Nat → FA) (F : Nat) : xnG call 140 (F + 5) 29 [some (vR 12), some (vR 2)] [] (LW W z f) = xnG call 140 F 34 [some (vR 12), some (vR 2)] [vI (z 122), vR 13, vR 2] (LW W z f) := rfl
set_option maxRecDepth 100000 in
theorem bq0_140_16 (call : QC FA) (ls : List (Option PV)) (z : Nat → Int32) (f : Nat → FA) (F : Nat) : xnG call 140 (F + 1) 34 ls [vI 5, vR 13, vR 2] (LW W z f) = bif ((Nat.beq 1 1 || (Nat.beq 1 2 || Nat.beq 1 3)) && pin 5 6) then xnG call 140 F 35 ls [.inr (.inl (rgW (ix 5))), vR 2] (LW W z f) else none := rfl
set_option maxRecDepth 100000 in
theorem bq0_140_17 (call : QC FA) (ls : List (Option PV)) (z : Nat → Int32) (f : Nat → FA) (F : Nat) : xnG call 140 (F + 1) 35 ls [vR 29, vR 2] (LW W z f) = cbd (call 90 [vR 2, vR 29] (LW W z f)) (fun r L' => xnG call 140 F 36 ls (r.toList ++ []) L') := pcY (ih := xnG call 140 F) (call := call) (a := 90) (b := 1) (v := 0) (t := 36) (x := 2) (ls := ls) (As := [vR 29]) (st' := []) (L := LW W z f) rfl rfl rfl
set_option maxRecDepth 100000 in
theorem bq0_140_18 (call : QC FA) (L : QH FA) (F : Nat) : xnG call 140 (F + 1) 36 [some (vR 12), some (vR 2)] [] L = xnG call 140 F 37 [some (vR 12), some (vR 2)] [vI 1] L := rfl
set_option maxRecDepth 100000 in
theorem bq0_140_19 (call : QC FA) (ls : List (Option PV)) (L : QH FA) (F : Nat) : xnG call 140 (F + 1) 37 ls [vI 1] L = some (some (vI 1), L) := rfl
theorem vcq0_140_0 (call : QC FA) (z : Nat → Int32) (f : Nat → FA) (res : Option PV × QH FA) (H : ((z 123 = 0 → res = (some (vI 0), LW W (uZ z 122 0) f)) ∧ (¬ z 123 = 0 → (∃ (z1 : Nat → Int32) (f1 : Nat → FA), call 90 [vR 2, vR 29] (LW W (uZ (uZ (uZ z 122 0) 122 5) 123 ((z 123) - 1)) f) = some (none, LW W z1 f1) ∧ res = (some (vI 1), LW W z1 f1))))) : XC call (mP 140) 0 [some (vR 12), some (vR 2)] [] (LW W (uZ z 122 0) f) res := by
  refine xc_b (i' := 2) (ls' := [some (vR 12), some (vR 2)]) (st' := [vI (z 123)]) (L' := LW W (uZ z 122 0) f) 2 (bq0_140_1 call (uZ z 122 0) f) ?_
  refine xc_if (it := 10) (ie := 3) (ls' := [some (vR 12), some (vR 2)]) (st' := []) (bq0_140_2 call (z 123) _ _) (fun q1 => ?_) (fun q1 => ?_)
  · have H := H.1 (cI0t q1)
    refine xc_b (i' := 11) (ls' := [some (vR 12), some (vR 2)]) (st' := [vI 0]) (L' := LW W (uZ z 122 0) f) 1 (bq0_140_3 call _) ?_
    subst H
    exact xc_ret (bq0_140_4 call _ _)
  · have H := H.2 (cI0f q1)
    refine xc_b (i' := 5) (ls' := [some (vR 12), some (vR 2)]) (st' := [vI 0]) (L' := LW W (uZ z 122 0) f) 2 (bq0_140_5 call (uZ z 122 0) f) ?_
    refine xc_f (it := 10) (ie := 6) (ls' := [some (vR 12), some (vR 2)]) (st' := []) (bq0_140_6 call 0 _ _) (by decide) ?_
    refine xc_b (i' := 9) (ls' := [some (vR 12), some (vR 2)]) (st' := [vI 6, vI 0]) (L' := LW W (uZ z 122 0) f) 3 (bq0_140_7 call (uZ z 122 0) f) ?_
    refine xc_t (it := 12) (ie := 10) (ls' := [some (vR 12), some (vR 2)]) (st' := []) (bq0_140_8 call 0 6 _ _) (by decide) ?_
    refine xc_b (i' := 15) (ls' := [some (vR 12), some (vR 2)]) (st' := [vI 0, vR 12]) (L' := LW W (uZ z 122 0) f) 3 (bq0_140_9 call (uZ z 122 0) f) ?_
    refine xc_t (it := 21) (ie := 16) (ls' := [some (vR 12), some (vR 2)]) (st' := [vR 12]) (bq0_140_10 call 0 _ _) (by decide) ?_
    refine xc_b (i' := 22) (ls' := [some (vR 12), some (vR 2)]) (st' := [vI 5, vR 12]) (L' := LW W (uZ z 122 0) f) 1 (bq0_140_11 call _) ?_
    refine xc_b (i' := 23) (ls' := [some (vR 12), some (vR 2)]) (st' := []) (L' := LW W (uZ (uZ z 122 0) 122 5) f) 1 (bq0_140_12 call 5 _ (uZ z 122 0) f) ?_
    refine xc_b (i' := 28) (ls' := [some (vR 12), some (vR 2)]) (st' := [vI ((z 123) - 1), vR 12]) (L' := LW W (uZ (uZ z 122 0) 122 5) f) 5 (bq0_140_13 call (uZ (uZ z 122 0) 122 5) f) ?_
    refine xc_b (i' := 29) (ls' := [some (vR 12), some (vR 2)]) (st' := []) (L' := LW W (uZ (uZ (uZ z 122 0) 122 5) 123 ((z 123) - 1)) f) 1 (bq0_140_14 call ((z 123) - 1) _ (uZ (uZ z 122 0) 122 5) f) ?_
    refine xc_b (i' := 34) (ls' := [some (vR 12), some (vR 2)]) (st' := [vI 5, vR 13, vR 2]) (L' := LW W (uZ (uZ (uZ z 122 0) 122 5) 123 ((z 123) - 1)) f) 5 (bq0_140_15 call (uZ (uZ (uZ z 122 0) 122 5) 123 ((z 123) - 1)) f) ?_
    refine xc_g (i' := 35) (ls' := [some (vR 12), some (vR 2)]) (st' := [.inr (.inl (rgW (ix 5))), vR 2]) (L' := LW W (uZ (uZ (uZ z 122 0) 122 5) 123 ((z 123) - 1)) f) (bq0_140_16 call _ (uZ (uZ (uZ z 122 0) 122 5) 123 ((z 123) - 1)) f) (by decide) ?_
    show XC call (mP 140) 35 [some (vR 12), some (vR 2)] [vR 29, vR 2] (LW W (uZ (uZ (uZ z 122 0) 122 5) 123 ((z 123) - 1)) f) res
    obtain ⟨z1, f1, hc, H⟩ := H
    refine xc_call (t := 36) (ls' := [some (vR 12), some (vR 2)]) (st' := []) (bq0_140_17 call _ (uZ (uZ (uZ z 122 0) 122 5) 123 ((z 123) - 1)) f) hc ?_
    show XC call (mP 140) 36 [some (vR 12), some (vR 2)] [] (LW W z1 f1) res
    refine xc_b (i' := 37) (ls' := [some (vR 12), some (vR 2)]) (st' := [vI 1]) (L' := LW W z1 f1) 1 (bq0_140_18 call _) ?_
    subst H
    exact xc_ret (bq0_140_19 call _ _)
set_option maxRecDepth 100000 in
theorem bq1_141_1 (call : QC FA) (z : Nat → Int32) (f : Nat → FA) (F : Nat) : xnG call 141 (F + 2) 0 [some (vR 12), some (vR 2)] [] (LW W z f) = xnG call 141 F 2 [some (vR 12), some (vR 2)] [vI (z 122)] (LW W z f) := rfl
set_option maxRecDepth 100000 in
theorem bq1_141_2 (call : QC FA) (x : Int32) (ls : List (Option PV)) (L : QH FA) (F : Nat) : xnG call 141 (F + 1) 2 ls [vI x] L = bif pcmp 2 x 0 then xnG call 141 F 7 ls [] L else xnG call 141 F 3 ls [] L := rfl
set_option maxRecDepth 100000 in
theorem bq1_141_3 (call : QC FA) (z : Nat → Int32) (f : Nat → FA) (F : Nat) : xnG call 141 (F + 3) 3 [some (vR 12), some (vR 2)] [] (LW W z f) = xnG call 141 F 6 [some (vR 12), some (vR 2)] [vI 6, vI (z 122)] (LW W z f) := rfl
set_option maxRecDepth 100000 in
theorem bq1_141_4 (call : QC FA) (x y : Int32) (ls : List (Option PV)) (L : QH FA) (F : Nat) : xnG call 141 (F + 1) 6 ls [vI y, vI x] L = bif pcmp 2 x y then xnG call 141 F 8 ls [] L else xnG call 141 F 7 ls [] L := rfl
set_option maxRecDepth 100000 in
theorem bq1_141_5 (call : QC FA) (z : Nat → Int32) (f : Nat → FA) (F : Nat) : xnG call 141 (F + 4) 8 [some (vR 12), some (vR 2)] [] (LW W z f) = xnG call 141 F 12 [some (vR 12), some (vR 2)] [vI (z 122), vR 13] (LW W z f) := rfl
set_option maxRecDepth 100000 in
theorem bq1_141_6 (call : QC FA) (ls : List (Option PV)) (z : Nat → Int32) (f : Nat → FA) (F : Nat) : xnG call 141 (F + 1) 12 ls [vI 1, vR 13] (LW W z f) = bif ((Nat.beq 1 1 || (Nat.beq 1 2 || Nat.beq 1 3)) && pin 1 6) then xnG call 141 F 13 ls [.inr (.inl (rgW (ix 1)))] (LW W z f) else none := rfl
set_option maxRecDepth 100000 in
theorem bq1_141_7 (call : QC FA) (L : QH FA) (F : Nat) : xnG call 141 (F + 1) 13 [some (vR 12), some (vR 2)] [vR 17] L = xnG call 141 F 14 [some (vR 12), some (vR 2)] [vR 2, vR 17] L := rfl
set_option maxRecDepth 100000 in
theorem bq1_141_8 (call : QC FA) (ls : List (Option PV)) (z : Nat → Int32) (f : Nat → FA) (F : Nat) : xnG call 141 (F + 1) 14 ls [vR 2, vR 17] (LW W z f) = cbd (call 90 [vR 17, vR 2] (LW W z f)) (fun r L' => xnG call 141 F 15 ls (r.toList ++ []) L') := pcY (ih := xnG call 141 F) (call := call) (a := 90) (b := 1) (v := 0) (t := 15) (x := 17) (ls := ls) (As := [vR 2]) (st' := []) (L := LW W z f) rfl rfl rfl
set_option maxRecDepth 100000 in
theorem bq1_141_9 (call : QC FA) (z : Nat → Int32) (f : Nat → FA) (F : Nat) : xnG call 141 (F + 6) 15 [some (vR 12), some (vR 2)] [] (LW W z f) = xnG call 141 F 21 [some (vR 12), some (vR 2)] [vI 6, vI ((z 122) + 1), vR 12] (LW W z f) := rfl
set_option maxRecDepth 100000 in
theorem bq1_141_10 (call : QC FA) (x y : Int32) (ls : List (Option PV)) (L : QH FA) (F : Nat) : xnG call 141 (F + 1) 21 ls [vI y, vI x, vR 12] L = bif pcmp 3 x y then xnG call 141 F 27 ls [vR 12] L else xnG call 141 F 22 ls [vR 12] L := rfl
set_option maxRecDepth 100000 in
theorem bq1_141_11 (call : QC FA) (L : QH FA) (F : Nat) : xnG call 141 (F + 1) 27 [some (vR 12), some (vR 2)] [vR 12] L = xnG call 141 F 28 [some (vR 12), some (vR 2)] [vI 0, vR 12] L := rfl
set_option maxRecDepth 100000 in
theorem bq1_141_12 (call : QC FA) (y : Int32) (ls : List (Option PV)) (z : Nat → Int32) (f : Nat → FA) (F : Nat) : xnG call 141 (F + 1) 28 ls [vI y, vR 12] (LW W z f) = xnG call 141 F 29 ls [] (LW W (uZ z 122 y) f) := rfl
set_option maxRecDepth 100000 in
theorem bq1_141_13 (call : QC FA) (z : Nat → Int32) (f : Nat → FA) (F : Nat) : xnG call 141 (F + 6) 29 [some (vR 12), some (vR 2)] [] (LW W z f) = xnG call 141 F 35 [some (vR 12), some (vR 2)] [vI 6, vI ((z 123) + 1), vR 12] (LW W z f) := rfl
set_option maxRecDepth 100000 in
theorem bq1_141_14 (call : QC FA) (x y : Int32) (ls : List (Option PV)) (L : QH FA) (F : Nat) : xnG call 141 (F + 1) 35 ls [vI y, vI x, vR 12] L = bif pcmp 2 y x then xnG call 141 F 36 ls [vI y, vR 12] L else xnG call 141 F 36 ls [vI x, vR 12] L := pmn (xnG call 141 F) 36 x y ls [vR 12] L rfl
set_option maxRecDepth 100000 in
theorem bq1_141_15 (call : QC FA) (y : Int32) (ls : List (Option PV)) (z : Nat → Int32) (f : Nat → FA) (F : Nat) : xnG call 141 (F + 1) 36 ls [vI y, vR 12] (LW W z f) = xnG call 141 F 37 ls [] (LW W (uZ z 123 y) f) := rfl
set_option maxRecDepth 100000 in
theorem bq1_141_16 (call : QC FA) (ls : List (Option PV)) (L : QH FA) (F : Nat) : xnG call 141 (F + 1) 37 ls [] L = some (none, L) := rfl
set_option maxRecDepth 100000 in
theorem bq1_141_17 (call : QC FA) (z : Nat → Int32) (f : Nat → FA) (F : Nat) : xnG call 141 (F + 5) 22 [some (vR 12), some (vR 2)] [vR 12] (LW W z f) = xnG call 141 F 28 [some (vR 12), some (vR 2)] [vI ((z 122) + 1), vR 12] (LW W z f) := rfl
theorem vcq1_141_0 (call : QC FA) (z : Nat → Int32) (f : Nat → FA) (res : Option PV × QH FA) (H : (∃ (z1 : Nat → Int32) (f1 : Nat → FA), call 90 [vR 17, vR 2] (LW W (uZ z 122 1) f) = some (none, LW W z1 f1) ∧ ((6 ≤ I ((z1 122) + 1) → ((6 < I ((z1 123) + 1) → res = (none, LW W (uZ (uZ z1 122 0) 123 6) f1)) ∧ (I ((z1 123) + 1) ≤ 6 → res = (none, LW W (uZ (uZ z1 122 0) 123 ((z1 123) + 1)) f1)))) ∧ (I ((z1 122) + 1) < 6 → ((6 < I ((z1 123) + 1) → res = (none, LW W (uZ (uZ z1 122 ((z1 122) + 1)) 123 6) f1)) ∧ (I ((z1 123) + 1) ≤ 6 → res = (none, LW W (uZ (uZ z1 122 ((z1 122) + 1)) 123 ((z1 123) + 1)) f1))))))) : XC call (mP 141) 0 [some (vR 12), some (vR 2)] [] (LW W (uZ z 122 1) f) res := by
  refine xc_b (i' := 2) (ls' := [some (vR 12), some (vR 2)]) (st' := [vI 1]) (L' := LW W (uZ z 122 1) f) 2 (bq1_141_1 call (uZ z 122 1) f) ?_
  refine xc_f (it := 7) (ie := 3) (ls' := [some (vR 12), some (vR 2)]) (st' := []) (bq1_141_2 call 1 _ _) (by decide) ?_
  refine xc_b (i' := 6) (ls' := [some (vR 12), some (vR 2)]) (st' := [vI 6, vI 1]) (L' := LW W (uZ z 122 1) f) 3 (bq1_141_3 call (uZ z 122 1) f) ?_
  refine xc_t (it := 8) (ie := 7) (ls' := [some (vR 12), some (vR 2)]) (st' := []) (bq1_141_4 call 1 6 _ _) (by decide) ?_
  refine xc_b (i' := 12) (ls' := [some (vR 12), some (vR 2)]) (st' := [vI 1, vR 13]) (L' := LW W (uZ z 122 1) f) 4 (bq1_141_5 call (uZ z 122 1) f) ?_
  refine xc_g (i' := 13) (ls' := [some (vR 12), some (vR 2)]) (st' := [.inr (.inl (rgW (ix 1)))]) (L' := LW W (uZ z 122 1) f) (bq1_141_6 call _ (uZ z 122 1) f) (by decide) ?_
  show XC call (mP 141) 13 [some (vR 12), some (vR 2)] [vR 17] (LW W (uZ z 122 1) f) res
  refine xc_b (i' := 14) (ls' := [some (vR 12), some (vR 2)]) (st' := [vR 2, vR 17]) (L' := LW W (uZ z 122 1) f) 1 (bq1_141_7 call _) ?_
  obtain ⟨z1, f1, hc, H⟩ := H
  refine xc_call (t := 15) (ls' := [some (vR 12), some (vR 2)]) (st' := []) (bq1_141_8 call _ (uZ z 122 1) f) hc ?_
  show XC call (mP 141) 15 [some (vR 12), some (vR 2)] [] (LW W z1 f1) res
  refine xc_b (i' := 21) (ls' := [some (vR 12), some (vR 2)]) (st' := [vI 6, vI ((z1 122) + 1), vR 12]) (L' := LW W z1 f1) 6 (bq1_141_9 call z1 f1) ?_
  refine xc_if (it := 27) (ie := 22) (ls' := [some (vR 12), some (vR 2)]) (st' := [vR 12]) (bq1_141_10 call ((z1 122) + 1) 6 _ _) (fun q1 => ?_) (fun q1 => ?_)
  · have H := H.1 (cI3t q1 rfl rfl)
    refine xc_b (i' := 28) (ls' := [some (vR 12), some (vR 2)]) (st' := [vI 0, vR 12]) (L' := LW W z1 f1) 1 (bq1_141_11 call _) ?_
    refine xc_b (i' := 29) (ls' := [some (vR 12), some (vR 2)]) (st' := []) (L' := LW W (uZ z1 122 0) f1) 1 (bq1_141_12 call 0 _ z1 f1) ?_
    refine xc_b (i' := 35) (ls' := [some (vR 12), some (vR 2)]) (st' := [vI 6, vI ((z1 123) + 1), vR 12]) (L' := LW W (uZ z1 122 0) f1) 6 (bq1_141_13 call (uZ z1 122 0) f1) ?_
    refine xc_if2 (it := 36) (ie := 36) (ls' := [some (vR 12), some (vR 2)]) (st1 := [vI 6, vR 12]) (st2 := [vI ((z1 123) + 1), vR 12]) (bq1_141_14 call ((z1 123) + 1) 6 _ _) (fun q2 => ?_) (fun q2 => ?_)
    · have H := H.1 (cI2t q2 rfl rfl)
      refine xc_b (i' := 37) (ls' := [some (vR 12), some (vR 2)]) (st' := []) (L' := LW W (uZ (uZ z1 122 0) 123 6) f1) 1 (bq1_141_15 call 6 _ (uZ z1 122 0) f1) ?_
      subst H
      exact xc_ret (bq1_141_16 call _ _)
    · have H := H.2 (cI2f q2 rfl rfl)
      refine xc_b (i' := 37) (ls' := [some (vR 12), some (vR 2)]) (st' := []) (L' := LW W (uZ (uZ z1 122 0) 123 ((z1 123) + 1)) f1) 1 (bq1_141_15 call ((z1 123) + 1) _ (uZ z1 122 0) f1) ?_
      subst H
      exact xc_ret (bq1_141_16 call _ _)
  · have H := H.2 (cI3f q1 rfl rfl)
    refine xc_b (i' := 28) (ls' := [some (vR 12), some (vR 2)]) (st' := [vI ((z1 122) + 1), vR 12]) (L' := LW W z1 f1) 5 (bq1_141_17 call z1 f1) ?_
    refine xc_b (i' := 29) (ls' := [some (vR 12), some (vR 2)]) (st' := []) (L' := LW W (uZ z1 122 ((z1 122) + 1)) f1) 1 (bq1_141_12 call ((z1 122) + 1) _ z1 f1) ?_
    refine xc_b (i' := 35) (ls' := [some (vR 12), some (vR 2)]) (st' := [vI 6, vI ((z1 123) + 1), vR 12]) (L' := LW W (uZ z1 122 ((z1 122) + 1)) f1) 6 (bq1_141_13 call (uZ z1 122 ((z1 122) + 1)) f1) ?_
    refine xc_if2 (it := 36) (ie := 36) (ls' := [some (vR 12), some (vR 2)]) (st1 := [vI 6, vR 12]) (st2 := [vI ((z1 123) + 1), vR 12]) (bq1_141_14 call ((z1 123) + 1) 6 _ _) (fun q3 => ?_) (fun q3 => ?_)
    · have H := H.1 (cI2t q3 rfl rfl)
      refine xc_b (i' := 37) (ls' := [some (vR 12), some (vR 2)]) (st' := []) (L' := LW W (uZ (uZ z1 122 ((z1 122) + 1)) 123 6) f1) 1 (bq1_141_15 call 6 _ (uZ z1 122 ((z1 122) + 1)) f1) ?_
      subst H
      exact xc_ret (bq1_141_16 call _ _)
    · have H := H.2 (cI2f q3 rfl rfl)
      refine xc_b (i' := 37) (ls' := [some (vR 12), some (vR 2)]) (st' := []) (L' := LW W (uZ (uZ z1 122 ((z1 122) + 1)) 123 ((z1 123) + 1)) f1) 1 (bq1_141_15 call ((z1 123) + 1) _ (uZ z1 122 ((z1 122) + 1)) f1) ?_
      subst H
      exact xc_ret (bq1_141_16 call _ _)
set_option maxRecDepth 100000 in
theorem bq1_140_1 (call : QC FA) (z : Nat → Int32) (f : Nat → FA) (F : Nat) : xnG call 140 (F + 2) 0 [some (vR 12), some (vR 2)] [] (LW W z f) = xnG call 140 F 2 [some (vR 12), some (vR 2)] [vI (z 123)] (LW W z f) := rfl
set_option maxRecDepth 100000 in
theorem bq1_140_2 (call : QC FA) (x : Int32) (ls : List (Option PV)) (L : QH FA) (F : Nat) : xnG call 140 (F + 1) 2 ls [vI x] L = bif pcmp 0 x 0 then xnG call 140 F 10 ls [] L else xnG call 140 F 3 ls [] L := rfl
set_option maxRecDepth 100000 in
theorem bq1_140_3 (call : QC FA) (L : QH FA) (F : Nat) : xnG call 140 (F + 1) 10 [some (vR 12), some (vR 2)] [] L = xnG call 140 F 11 [some (vR 12), some (vR 2)] [vI 0] L := rfl
set_option maxRecDepth 100000 in
theorem bq1_140_4 (call : QC FA) (ls : List (Option PV)) (L : QH FA) (F : Nat) : xnG call 140 (F + 1) 11 ls [vI 0] L = some (some (vI 0), L) := rfl
set_option maxRecDepth 100000 in
theorem bq1_140_5 (call : QC FA) (z : Nat → Int32) (f : Nat → FA) (F : Nat) : xnG call 140 (F + 2) 3 [some (vR 12), some (vR 2)] [] (LW W z f) = xnG call 140 F 5 [some (vR 12), some (vR 2)] [vI (z 122)] (LW W z f) := rfl
set_option maxRecDepth 100000 in
theorem bq1_140_6 (call : QC FA) (x : Int32) (ls : List (Option PV)) (L : QH FA) (F : Nat) : xnG call 140 (F + 1) 5 ls [vI x] L = bif pcmp 2 x 0 then xnG call 140 F 10 ls [] L else xnG call 140 F 6 ls [] L := rfl
set_option maxRecDepth 100000 in
theorem bq1_140_7 (call : QC FA) (z : Nat → Int32) (f : Nat → FA) (F : Nat) : xnG call 140 (F + 3) 6 [some (vR 12), some (vR 2)] [] (LW W z f) = xnG call 140 F 9 [some (vR 12), some (vR 2)] [vI 6, vI (z 122)] (LW W z f) := rfl
set_option maxRecDepth 100000 in
theorem bq1_140_8 (call : QC FA) (x y : Int32) (ls : List (Option PV)) (L : QH FA) (F : Nat) : xnG call 140 (F + 1) 9 ls [vI y, vI x] L = bif pcmp 2 x y then xnG call 140 F 12 ls [] L else xnG call 140 F 10 ls [] L := rfl
set_option maxRecDepth 100000 in
theorem bq1_140_9 (call : QC FA) (z : Nat → Int32) (f : Nat → FA) (F : Nat) : xnG call 140 (F + 3) 12 [some (vR 12), some (vR 2)] [] (LW W z f) = xnG call 140 F 15 [some (vR 12), some (vR 2)] [vI (z 122), vR 12] (LW W z f) := rfl
set_option maxRecDepth 100000 in
theorem bq1_140_10 (call : QC FA) (x : Int32) (ls : List (Option PV)) (L : QH FA) (F : Nat) : xnG call 140 (F + 1) 15 ls [vI x, vR 12] L = bif pcmp 5 x 0 then xnG call 140 F 21 ls [vR 12] L else xnG call 140 F 16 ls [vR 12] L := rfl
set_option maxRecDepth 100000 in
theorem bq1_140_11 (call : QC FA) (z : Nat → Int32) (f : Nat → FA) (F : Nat) : xnG call 140 (F + 5) 16 [some (vR 12), some (vR 2)] [vR 12] (LW W z f) = xnG call 140 F 22 [some (vR 12), some (vR 2)] [vI ((z 122) - 1), vR 12] (LW W z f) := rfl
set_option maxRecDepth 100000 in
theorem bq1_140_12 (call : QC FA) (y : Int32) (ls : List (Option PV)) (z : Nat → Int32) (f : Nat → FA) (F : Nat) : xnG call 140 (F + 1) 22 ls [vI y, vR 12] (LW W z f) = xnG call 140 F 23 ls [] (LW W (uZ z 122 y) f) := rfl
set_option maxRecDepth 100000 in
theorem bq1_140_13 (call : QC FA) (z : Nat → Int32) (f : Nat → FA) (F : Nat) : xnG call 140 (F + 5) 23 [some (vR 12), some (vR 2)] [] (LW W z f) = xnG call 140 F 28 [some (vR 12), some (vR 2)] [vI ((z 123) - 1), vR 12] (LW W z f) := rfl
set_option maxRecDepth 100000 in
theorem bq1_140_14 (call : QC FA) (y : Int32) (ls : List (Option PV)) (z : Nat → Int32) (f : Nat → FA) (F : Nat) : xnG call 140 (F + 1) 28 ls [vI y, vR 12] (LW W z f) = xnG call 140 F 29 ls [] (LW W (uZ z 123 y) f) := rfl
set_option maxRecDepth 100000 in
theorem bq1_140_15 (call : QC FA) (z : Nat → Int32) (f : Nat → FA) (F : Nat) : xnG call 140 (F + 5) 29 [some (vR 12), some (vR 2)] [] (LW W z f) = xnG call 140 F 34 [some (vR 12), some (vR 2)] [vI (z 122), vR 13, vR 2] (LW W z f) := rfl
set_option maxRecDepth 100000 in
theorem bq1_140_16 (call : QC FA) (ls : List (Option PV)) (z : Nat → Int32) (f : Nat → FA) (F : Nat) : xnG call 140 (F + 1) 34 ls [vI 0, vR 13, vR 2] (LW W z f) = bif ((Nat.beq 1 1 || (Nat.beq 1 2 || Nat.beq 1 3)) && pin 0 6) then xnG call 140 F 35 ls [.inr (.inl (rgW (ix 0))), vR 2] (LW W z f) else none := rfl
set_option maxRecDepth 100000 in
theorem bq1_140_17 (call : QC FA) (ls : List (Option PV)) (z : Nat → Int32) (f : Nat → FA) (F : Nat) : xnG call 140 (F + 1) 35 ls [vR 14, vR 2] (LW W z f) = cbd (call 90 [vR 2, vR 14] (LW W z f)) (fun r L' => xnG call 140 F 36 ls (r.toList ++ []) L') := pcY (ih := xnG call 140 F) (call := call) (a := 90) (b := 1) (v := 0) (t := 36) (x := 2) (ls := ls) (As := [vR 14]) (st' := []) (L := LW W z f) rfl rfl rfl
set_option maxRecDepth 100000 in
theorem bq1_140_18 (call : QC FA) (L : QH FA) (F : Nat) : xnG call 140 (F + 1) 36 [some (vR 12), some (vR 2)] [] L = xnG call 140 F 37 [some (vR 12), some (vR 2)] [vI 1] L := rfl
set_option maxRecDepth 100000 in
theorem bq1_140_19 (call : QC FA) (ls : List (Option PV)) (L : QH FA) (F : Nat) : xnG call 140 (F + 1) 37 ls [vI 1] L = some (some (vI 1), L) := rfl
theorem vcq1_140_0 (call : QC FA) (z : Nat → Int32) (f : Nat → FA) (res : Option PV × QH FA) (H : ((z 123 = 0 → res = (some (vI 0), LW W (uZ z 122 1) f)) ∧ (¬ z 123 = 0 → (∃ (z1 : Nat → Int32) (f1 : Nat → FA), call 90 [vR 2, vR 14] (LW W (uZ (uZ (uZ z 122 1) 122 0) 123 ((z 123) - 1)) f) = some (none, LW W z1 f1) ∧ res = (some (vI 1), LW W z1 f1))))) : XC call (mP 140) 0 [some (vR 12), some (vR 2)] [] (LW W (uZ z 122 1) f) res := by
  refine xc_b (i' := 2) (ls' := [some (vR 12), some (vR 2)]) (st' := [vI (z 123)]) (L' := LW W (uZ z 122 1) f) 2 (bq1_140_1 call (uZ z 122 1) f) ?_
  refine xc_if (it := 10) (ie := 3) (ls' := [some (vR 12), some (vR 2)]) (st' := []) (bq1_140_2 call (z 123) _ _) (fun q1 => ?_) (fun q1 => ?_)
  · have H := H.1 (cI0t q1)
    refine xc_b (i' := 11) (ls' := [some (vR 12), some (vR 2)]) (st' := [vI 0]) (L' := LW W (uZ z 122 1) f) 1 (bq1_140_3 call _) ?_
    subst H
    exact xc_ret (bq1_140_4 call _ _)
  · have H := H.2 (cI0f q1)
    refine xc_b (i' := 5) (ls' := [some (vR 12), some (vR 2)]) (st' := [vI 1]) (L' := LW W (uZ z 122 1) f) 2 (bq1_140_5 call (uZ z 122 1) f) ?_
    refine xc_f (it := 10) (ie := 6) (ls' := [some (vR 12), some (vR 2)]) (st' := []) (bq1_140_6 call 1 _ _) (by decide) ?_
    refine xc_b (i' := 9) (ls' := [some (vR 12), some (vR 2)]) (st' := [vI 6, vI 1]) (L' := LW W (uZ z 122 1) f) 3 (bq1_140_7 call (uZ z 122 1) f) ?_
    refine xc_t (it := 12) (ie := 10) (ls' := [some (vR 12), some (vR 2)]) (st' := []) (bq1_140_8 call 1 6 _ _) (by decide) ?_
    refine xc_b (i' := 15) (ls' := [some (vR 12), some (vR 2)]) (st' := [vI 1, vR 12]) (L' := LW W (uZ z 122 1) f) 3 (bq1_140_9 call (uZ z 122 1) f) ?_
    refine xc_f (it := 21) (ie := 16) (ls' := [some (vR 12), some (vR 2)]) (st' := [vR 12]) (bq1_140_10 call 1 _ _) (by decide) ?_
    refine xc_b (i' := 22) (ls' := [some (vR 12), some (vR 2)]) (st' := [vI 0, vR 12]) (L' := LW W (uZ z 122 1) f) 5 (bq1_140_11 call (uZ z 122 1) f) ?_
    refine xc_b (i' := 23) (ls' := [some (vR 12), some (vR 2)]) (st' := []) (L' := LW W (uZ (uZ z 122 1) 122 0) f) 1 (bq1_140_12 call 0 _ (uZ z 122 1) f) ?_
    refine xc_b (i' := 28) (ls' := [some (vR 12), some (vR 2)]) (st' := [vI ((z 123) - 1), vR 12]) (L' := LW W (uZ (uZ z 122 1) 122 0) f) 5 (bq1_140_13 call (uZ (uZ z 122 1) 122 0) f) ?_
    refine xc_b (i' := 29) (ls' := [some (vR 12), some (vR 2)]) (st' := []) (L' := LW W (uZ (uZ (uZ z 122 1) 122 0) 123 ((z 123) - 1)) f) 1 (bq1_140_14 call ((z 123) - 1) _ (uZ (uZ z 122 1) 122 0) f) ?_
    refine xc_b (i' := 34) (ls' := [some (vR 12), some (vR 2)]) (st' := [vI 0, vR 13, vR 2]) (L' := LW W (uZ (uZ (uZ z 122 1) 122 0) 123 ((z 123) - 1)) f) 5 (bq1_140_15 call (uZ (uZ (uZ z 122 1) 122 0) 123 ((z 123) - 1)) f) ?_
    refine xc_g (i' := 35) (ls' := [some (vR 12), some (vR 2)]) (st' := [.inr (.inl (rgW (ix 0))), vR 2]) (L' := LW W (uZ (uZ (uZ z 122 1) 122 0) 123 ((z 123) - 1)) f) (bq1_140_16 call _ (uZ (uZ (uZ z 122 1) 122 0) 123 ((z 123) - 1)) f) (by decide) ?_
    show XC call (mP 140) 35 [some (vR 12), some (vR 2)] [vR 14, vR 2] (LW W (uZ (uZ (uZ z 122 1) 122 0) 123 ((z 123) - 1)) f) res
    obtain ⟨z1, f1, hc, H⟩ := H
    refine xc_call (t := 36) (ls' := [some (vR 12), some (vR 2)]) (st' := []) (bq1_140_17 call _ (uZ (uZ (uZ z 122 1) 122 0) 123 ((z 123) - 1)) f) hc ?_
    show XC call (mP 140) 36 [some (vR 12), some (vR 2)] [] (LW W z1 f1) res
    refine xc_b (i' := 37) (ls' := [some (vR 12), some (vR 2)]) (st' := [vI 1]) (L' := LW W z1 f1) 1 (bq1_140_18 call _) ?_
    subst H
    exact xc_ret (bq1_140_19 call _ _)
set_option maxRecDepth 100000 in
theorem bq2_141_1 (call : QC FA) (z : Nat → Int32) (f : Nat → FA) (F : Nat) : xnG call 141 (F + 2) 0 [some (vR 12), some (vR 2)] [] (LW W z f) = xnG call 141 F 2 [some (vR 12), some (vR 2)] [vI (z 122)] (LW W z f) := rfl
set_option maxRecDepth 100000 in
theorem bq2_141_2 (call : QC FA) (x : Int32) (ls : List (Option PV)) (L : QH FA) (F : Nat) : xnG call 141 (F + 1) 2 ls [vI x] L = bif pcmp 2 x 0 then xnG call 141 F 7 ls [] L else xnG call 141 F 3 ls [] L := rfl
set_option maxRecDepth 100000 in
theorem bq2_141_3 (call : QC FA) (z : Nat → Int32) (f : Nat → FA) (F : Nat) : xnG call 141 (F + 3) 3 [some (vR 12), some (vR 2)] [] (LW W z f) = xnG call 141 F 6 [some (vR 12), some (vR 2)] [vI 6, vI (z 122)] (LW W z f) := rfl
set_option maxRecDepth 100000 in
theorem bq2_141_4 (call : QC FA) (x y : Int32) (ls : List (Option PV)) (L : QH FA) (F : Nat) : xnG call 141 (F + 1) 6 ls [vI y, vI x] L = bif pcmp 2 x y then xnG call 141 F 8 ls [] L else xnG call 141 F 7 ls [] L := rfl
set_option maxRecDepth 100000 in
theorem bq2_141_5 (call : QC FA) (z : Nat → Int32) (f : Nat → FA) (F : Nat) : xnG call 141 (F + 4) 8 [some (vR 12), some (vR 2)] [] (LW W z f) = xnG call 141 F 12 [some (vR 12), some (vR 2)] [vI (z 122), vR 13] (LW W z f) := rfl
set_option maxRecDepth 100000 in
theorem bq2_141_6 (call : QC FA) (ls : List (Option PV)) (z : Nat → Int32) (f : Nat → FA) (F : Nat) : xnG call 141 (F + 1) 12 ls [vI 2, vR 13] (LW W z f) = bif ((Nat.beq 1 1 || (Nat.beq 1 2 || Nat.beq 1 3)) && pin 2 6) then xnG call 141 F 13 ls [.inr (.inl (rgW (ix 2)))] (LW W z f) else none := rfl
set_option maxRecDepth 100000 in
theorem bq2_141_7 (call : QC FA) (L : QH FA) (F : Nat) : xnG call 141 (F + 1) 13 [some (vR 12), some (vR 2)] [vR 20] L = xnG call 141 F 14 [some (vR 12), some (vR 2)] [vR 2, vR 20] L := rfl
set_option maxRecDepth 100000 in
theorem bq2_141_8 (call : QC FA) (ls : List (Option PV)) (z : Nat → Int32) (f : Nat → FA) (F : Nat) : xnG call 141 (F + 1) 14 ls [vR 2, vR 20] (LW W z f) = cbd (call 90 [vR 20, vR 2] (LW W z f)) (fun r L' => xnG call 141 F 15 ls (r.toList ++ []) L') := pcY (ih := xnG call 141 F) (call := call) (a := 90) (b := 1) (v := 0) (t := 15) (x := 20) (ls := ls) (As := [vR 2]) (st' := []) (L := LW W z f) rfl rfl rfl
set_option maxRecDepth 100000 in
theorem bq2_141_9 (call : QC FA) (z : Nat → Int32) (f : Nat → FA) (F : Nat) : xnG call 141 (F + 6) 15 [some (vR 12), some (vR 2)] [] (LW W z f) = xnG call 141 F 21 [some (vR 12), some (vR 2)] [vI 6, vI ((z 122) + 1), vR 12] (LW W z f) := rfl
set_option maxRecDepth 100000 in
theorem bq2_141_10 (call : QC FA) (x y : Int32) (ls : List (Option PV)) (L : QH FA) (F : Nat) : xnG call 141 (F + 1) 21 ls [vI y, vI x, vR 12] L = bif pcmp 3 x y then xnG call 141 F 27 ls [vR 12] L else xnG call 141 F 22 ls [vR 12] L := rfl
set_option maxRecDepth 100000 in
theorem bq2_141_11 (call : QC FA) (L : QH FA) (F : Nat) : xnG call 141 (F + 1) 27 [some (vR 12), some (vR 2)] [vR 12] L = xnG call 141 F 28 [some (vR 12), some (vR 2)] [vI 0, vR 12] L := rfl
set_option maxRecDepth 100000 in
theorem bq2_141_12 (call : QC FA) (y : Int32) (ls : List (Option PV)) (z : Nat → Int32) (f : Nat → FA) (F : Nat) : xnG call 141 (F + 1) 28 ls [vI y, vR 12] (LW W z f) = xnG call 141 F 29 ls [] (LW W (uZ z 122 y) f) := rfl
set_option maxRecDepth 100000 in
theorem bq2_141_13 (call : QC FA) (z : Nat → Int32) (f : Nat → FA) (F : Nat) : xnG call 141 (F + 6) 29 [some (vR 12), some (vR 2)] [] (LW W z f) = xnG call 141 F 35 [some (vR 12), some (vR 2)] [vI 6, vI ((z 123) + 1), vR 12] (LW W z f) := rfl
set_option maxRecDepth 100000 in
theorem bq2_141_14 (call : QC FA) (x y : Int32) (ls : List (Option PV)) (L : QH FA) (F : Nat) : xnG call 141 (F + 1) 35 ls [vI y, vI x, vR 12] L = bif pcmp 2 y x then xnG call 141 F 36 ls [vI y, vR 12] L else xnG call 141 F 36 ls [vI x, vR 12] L := pmn (xnG call 141 F) 36 x y ls [vR 12] L rfl
set_option maxRecDepth 100000 in
theorem bq2_141_15 (call : QC FA) (y : Int32) (ls : List (Option PV)) (z : Nat → Int32) (f : Nat → FA) (F : Nat) : xnG call 141 (F + 1) 36 ls [vI y, vR 12] (LW W z f) = xnG call 141 F 37 ls [] (LW W (uZ z 123 y) f) := rfl
set_option maxRecDepth 100000 in
theorem bq2_141_16 (call : QC FA) (ls : List (Option PV)) (L : QH FA) (F : Nat) : xnG call 141 (F + 1) 37 ls [] L = some (none, L) := rfl
set_option maxRecDepth 100000 in
theorem bq2_141_17 (call : QC FA) (z : Nat → Int32) (f : Nat → FA) (F : Nat) : xnG call 141 (F + 5) 22 [some (vR 12), some (vR 2)] [vR 12] (LW W z f) = xnG call 141 F 28 [some (vR 12), some (vR 2)] [vI ((z 122) + 1), vR 12] (LW W z f) := rfl
theorem vcq2_141_0 (call : QC FA) (z : Nat → Int32) (f : Nat → FA) (res : Option PV × QH FA) (H : (∃ (z1 : Nat → Int32) (f1 : Nat → FA), call 90 [vR 20, vR 2] (LW W (uZ z 122 2) f) = some (none, LW W z1 f1) ∧ ((6 ≤ I ((z1 122) + 1) → ((6 < I ((z1 123) + 1) → res = (none, LW W (uZ (uZ z1 122 0) 123 6) f1)) ∧ (I ((z1 123) + 1) ≤ 6 → res = (none, LW W (uZ (uZ z1 122 0) 123 ((z1 123) + 1)) f1)))) ∧ (I ((z1 122) + 1) < 6 → ((6 < I ((z1 123) + 1) → res = (none, LW W (uZ (uZ z1 122 ((z1 122) + 1)) 123 6) f1)) ∧ (I ((z1 123) + 1) ≤ 6 → res = (none, LW W (uZ (uZ z1 122 ((z1 122) + 1)) 123 ((z1 123) + 1)) f1))))))) : XC call (mP 141) 0 [some (vR 12), some (vR 2)] [] (LW W (uZ z 122 2) f) res := by
  refine xc_b (i' := 2) (ls' := [some (vR 12), some (vR 2)]) (st' := [vI 2]) (L' := LW W (uZ z 122 2) f) 2 (bq2_141_1 call (uZ z 122 2) f) ?_
  refine xc_f (it := 7) (ie := 3) (ls' := [some (vR 12), some (vR 2)]) (st' := []) (bq2_141_2 call 2 _ _) (by decide) ?_
  refine xc_b (i' := 6) (ls' := [some (vR 12), some (vR 2)]) (st' := [vI 6, vI 2]) (L' := LW W (uZ z 122 2) f) 3 (bq2_141_3 call (uZ z 122 2) f) ?_
  refine xc_t (it := 8) (ie := 7) (ls' := [some (vR 12), some (vR 2)]) (st' := []) (bq2_141_4 call 2 6 _ _) (by decide) ?_
  refine xc_b (i' := 12) (ls' := [some (vR 12), some (vR 2)]) (st' := [vI 2, vR 13]) (L' := LW W (uZ z 122 2) f) 4 (bq2_141_5 call (uZ z 122 2) f) ?_
  refine xc_g (i' := 13) (ls' := [some (vR 12), some (vR 2)]) (st' := [.inr (.inl (rgW (ix 2)))]) (L' := LW W (uZ z 122 2) f) (bq2_141_6 call _ (uZ z 122 2) f) (by decide) ?_
  show XC call (mP 141) 13 [some (vR 12), some (vR 2)] [vR 20] (LW W (uZ z 122 2) f) res
  refine xc_b (i' := 14) (ls' := [some (vR 12), some (vR 2)]) (st' := [vR 2, vR 20]) (L' := LW W (uZ z 122 2) f) 1 (bq2_141_7 call _) ?_
  obtain ⟨z1, f1, hc, H⟩ := H
  refine xc_call (t := 15) (ls' := [some (vR 12), some (vR 2)]) (st' := []) (bq2_141_8 call _ (uZ z 122 2) f) hc ?_
  show XC call (mP 141) 15 [some (vR 12), some (vR 2)] [] (LW W z1 f1) res
  refine xc_b (i' := 21) (ls' := [some (vR 12), some (vR 2)]) (st' := [vI 6, vI ((z1 122) + 1), vR 12]) (L' := LW W z1 f1) 6 (bq2_141_9 call z1 f1) ?_
  refine xc_if (it := 27) (ie := 22) (ls' := [some (vR 12), some (vR 2)]) (st' := [vR 12]) (bq2_141_10 call ((z1 122) + 1) 6 _ _) (fun q1 => ?_) (fun q1 => ?_)
  · have H := H.1 (cI3t q1 rfl rfl)
    refine xc_b (i' := 28) (ls' := [some (vR 12), some (vR 2)]) (st' := [vI 0, vR 12]) (L' := LW W z1 f1) 1 (bq2_141_11 call _) ?_
    refine xc_b (i' := 29) (ls' := [some (vR 12), some (vR 2)]) (st' := []) (L' := LW W (uZ z1 122 0) f1) 1 (bq2_141_12 call 0 _ z1 f1) ?_
    refine xc_b (i' := 35) (ls' := [some (vR 12), some (vR 2)]) (st' := [vI 6, vI ((z1 123) + 1), vR 12]) (L' := LW W (uZ z1 122 0) f1) 6 (bq2_141_13 call (uZ z1 122 0) f1) ?_
    refine xc_if2 (it := 36) (ie := 36) (ls' := [some (vR 12), some (vR 2)]) (st1 := [vI 6, vR 12]) (st2 := [vI ((z1 123) + 1), vR 12]) (bq2_141_14 call ((z1 123) + 1) 6 _ _) (fun q2 => ?_) (fun q2 => ?_)
    · have H := H.1 (cI2t q2 rfl rfl)
      refine xc_b (i' := 37) (ls' := [some (vR 12), some (vR 2)]) (st' := []) (L' := LW W (uZ (uZ z1 122 0) 123 6) f1) 1 (bq2_141_15 call 6 _ (uZ z1 122 0) f1) ?_
      subst H
      exact xc_ret (bq2_141_16 call _ _)
    · have H := H.2 (cI2f q2 rfl rfl)
      refine xc_b (i' := 37) (ls' := [some (vR 12), some (vR 2)]) (st' := []) (L' := LW W (uZ (uZ z1 122 0) 123 ((z1 123) + 1)) f1) 1 (bq2_141_15 call ((z1 123) + 1) _ (uZ z1 122 0) f1) ?_
      subst H
      exact xc_ret (bq2_141_16 call _ _)
  · have H := H.2 (cI3f q1 rfl rfl)
    refine xc_b (i' := 28) (ls' := [some (vR 12), some (vR 2)]) (st' := [vI ((z1 122) + 1), vR 12]) (L' := LW W z1 f1) 5 (bq2_141_17 call z1 f1) ?_
    refine xc_b (i' := 29) (ls' := [some (vR 12), some (vR 2)]) (st' := []) (L' := LW W (uZ z1 122 ((z1 122) + 1)) f1) 1 (bq2_141_12 call ((z1 122) + 1) _ z1 f1) ?_
    refine xc_b (i' := 35) (ls' := [some (vR 12), some (vR 2)]) (st' := [vI 6, vI ((z1 123) + 1), vR 12]) (L' := LW W (uZ z1 122 ((z1 122) + 1)) f1) 6 (bq2_141_13 call (uZ z1 122 ((z1 122) + 1)) f1) ?_
    refine xc_if2 (it := 36) (ie := 36) (ls' := [some (vR 12), some (vR 2)]) (st1 := [vI 6, vR 12]) (st2 := [vI ((z1 123) + 1), vR 12]) (bq2_141_14 call ((z1 123) + 1) 6 _ _) (fun q3 => ?_) (fun q3 => ?_)
    · have H := H.1 (cI2t q3 rfl rfl)
      refine xc_b (i' := 37) (ls' := [some (vR 12), some (vR 2)]) (st' := []) (L' := LW W (uZ (uZ z1 122 ((z1 122) + 1)) 123 6) f1) 1 (bq2_141_15 call 6 _ (uZ z1 122 ((z1 122) + 1)) f1) ?_
      subst H
      exact xc_ret (bq2_141_16 call _ _)
    · have H := H.2 (cI2f q3 rfl rfl)
      refine xc_b (i' := 37) (ls' := [some (vR 12), some (vR 2)]) (st' := []) (L' := LW W (uZ (uZ z1 122 ((z1 122) + 1)) 123 ((z1 123) + 1)) f1) 1 (bq2_141_15 call ((z1 123) + 1) _ (uZ z1 122 ((z1 122) + 1)) f1) ?_
      subst H
      exact xc_ret (bq2_141_16 call _ _)
set_option maxRecDepth 100000 in
theorem bq2_140_1 (call : QC FA) (z : Nat → Int32) (f : Nat → FA) (F : Nat) : xnG call 140 (F + 2) 0 [some (vR 12), some (vR 2)] [] (LW W z f) = xnG call 140 F 2 [some (vR 12), some (vR 2)] [vI (z 123)] (LW W z f) := rfl
set_option maxRecDepth 100000 in
theorem bq2_140_2 (call : QC FA) (x : Int32) (ls : List (Option PV)) (L : QH FA) (F : Nat) : xnG call 140 (F + 1) 2 ls [vI x] L = bif pcmp 0 x 0 then xnG call 140 F 10 ls [] L else xnG call 140 F 3 ls [] L := rfl
set_option maxRecDepth 100000 in
theorem bq2_140_3 (call : QC FA) (L : QH FA) (F : Nat) : xnG call 140 (F + 1) 10 [some (vR 12), some (vR 2)] [] L = xnG call 140 F 11 [some (vR 12), some (vR 2)] [vI 0] L := rfl
set_option maxRecDepth 100000 in
theorem bq2_140_4 (call : QC FA) (ls : List (Option PV)) (L : QH FA) (F : Nat) : xnG call 140 (F + 1) 11 ls [vI 0] L = some (some (vI 0), L) := rfl
set_option maxRecDepth 100000 in
theorem bq2_140_5 (call : QC FA) (z : Nat → Int32) (f : Nat → FA) (F : Nat) : xnG call 140 (F + 2) 3 [some (vR 12), some (vR 2)] [] (LW W z f) = xnG call 140 F 5 [some (vR 12), some (vR 2)] [vI (z 122)] (LW W z f) := rfl
set_option maxRecDepth 100000 in
theorem bq2_140_6 (call : QC FA) (x : Int32) (ls : List (Option PV)) (L : QH FA) (F : Nat) : xnG call 140 (F + 1) 5 ls [vI x] L = bif pcmp 2 x 0 then xnG call 140 F 10 ls [] L else xnG call 140 F 6 ls [] L := rfl
set_option maxRecDepth 100000 in
theorem bq2_140_7 (call : QC FA) (z : Nat → Int32) (f : Nat → FA) (F : Nat) : xnG call 140 (F + 3) 6 [some (vR 12), some (vR 2)] [] (LW W z f) = xnG call 140 F 9 [some (vR 12), some (vR 2)] [vI 6, vI (z 122)] (LW W z f) := rfl
set_option maxRecDepth 100000 in
theorem bq2_140_8 (call : QC FA) (x y : Int32) (ls : List (Option PV)) (L : QH FA) (F : Nat) : xnG call 140 (F + 1) 9 ls [vI y, vI x] L = bif pcmp 2 x y then xnG call 140 F 12 ls [] L else xnG call 140 F 10 ls [] L := rfl
set_option maxRecDepth 100000 in
theorem bq2_140_9 (call : QC FA) (z : Nat → Int32) (f : Nat → FA) (F : Nat) : xnG call 140 (F + 3) 12 [some (vR 12), some (vR 2)] [] (LW W z f) = xnG call 140 F 15 [some (vR 12), some (vR 2)] [vI (z 122), vR 12] (LW W z f) := rfl
set_option maxRecDepth 100000 in
theorem bq2_140_10 (call : QC FA) (x : Int32) (ls : List (Option PV)) (L : QH FA) (F : Nat) : xnG call 140 (F + 1) 15 ls [vI x, vR 12] L = bif pcmp 5 x 0 then xnG call 140 F 21 ls [vR 12] L else xnG call 140 F 16 ls [vR 12] L := rfl
set_option maxRecDepth 100000 in
theorem bq2_140_11 (call : QC FA) (z : Nat → Int32) (f : Nat → FA) (F : Nat) : xnG call 140 (F + 5) 16 [some (vR 12), some (vR 2)] [vR 12] (LW W z f) = xnG call 140 F 22 [some (vR 12), some (vR 2)] [vI ((z 122) - 1), vR 12] (LW W z f) := rfl
set_option maxRecDepth 100000 in
theorem bq2_140_12 (call : QC FA) (y : Int32) (ls : List (Option PV)) (z : Nat → Int32) (f : Nat → FA) (F : Nat) : xnG call 140 (F + 1) 22 ls [vI y, vR 12] (LW W z f) = xnG call 140 F 23 ls [] (LW W (uZ z 122 y) f) := rfl
set_option maxRecDepth 100000 in
theorem bq2_140_13 (call : QC FA) (z : Nat → Int32) (f : Nat → FA) (F : Nat) : xnG call 140 (F + 5) 23 [some (vR 12), some (vR 2)] [] (LW W z f) = xnG call 140 F 28 [some (vR 12), some (vR 2)] [vI ((z 123) - 1), vR 12] (LW W z f) := rfl
set_option maxRecDepth 100000 in
theorem bq2_140_14 (call : QC FA) (y : Int32) (ls : List (Option PV)) (z : Nat → Int32) (f : Nat → FA) (F : Nat) : xnG call 140 (F + 1) 28 ls [vI y, vR 12] (LW W z f) = xnG call 140 F 29 ls [] (LW W (uZ z 123 y) f) := rfl
set_option maxRecDepth 100000 in
theorem bq2_140_15 (call : QC FA) (z : Nat → Int32) (f : Nat → FA) (F : Nat) : xnG call 140 (F + 5) 29 [some (vR 12), some (vR 2)] [] (LW W z f) = xnG call 140 F 34 [some (vR 12), some (vR 2)] [vI (z 122), vR 13, vR 2] (LW W z f) := rfl
set_option maxRecDepth 100000 in
theorem bq2_140_16 (call : QC FA) (ls : List (Option PV)) (z : Nat → Int32) (f : Nat → FA) (F : Nat) : xnG call 140 (F + 1) 34 ls [vI 1, vR 13, vR 2] (LW W z f) = bif ((Nat.beq 1 1 || (Nat.beq 1 2 || Nat.beq 1 3)) && pin 1 6) then xnG call 140 F 35 ls [.inr (.inl (rgW (ix 1))), vR 2] (LW W z f) else none := rfl
set_option maxRecDepth 100000 in
theorem bq2_140_17 (call : QC FA) (ls : List (Option PV)) (z : Nat → Int32) (f : Nat → FA) (F : Nat) : xnG call 140 (F + 1) 35 ls [vR 17, vR 2] (LW W z f) = cbd (call 90 [vR 2, vR 17] (LW W z f)) (fun r L' => xnG call 140 F 36 ls (r.toList ++ []) L') := pcY (ih := xnG call 140 F) (call := call) (a := 90) (b := 1) (v := 0) (t := 36) (x := 2) (ls := ls) (As := [vR 17]) (st' := []) (L := LW W z f) rfl rfl rfl
set_option maxRecDepth 100000 in
theorem bq2_140_18 (call : QC FA) (L : QH FA) (F : Nat) : xnG call 140 (F + 1) 36 [some (vR 12), some (vR 2)] [] L = xnG call 140 F 37 [some (vR 12), some (vR 2)] [vI 1] L := rfl
set_option maxRecDepth 100000 in
theorem bq2_140_19 (call : QC FA) (ls : List (Option PV)) (L : QH FA) (F : Nat) : xnG call 140 (F + 1) 37 ls [vI 1] L = some (some (vI 1), L) := rfl
theorem vcq2_140_0 (call : QC FA) (z : Nat → Int32) (f : Nat → FA) (res : Option PV × QH FA) (H : ((z 123 = 0 → res = (some (vI 0), LW W (uZ z 122 2) f)) ∧ (¬ z 123 = 0 → (∃ (z1 : Nat → Int32) (f1 : Nat → FA), call 90 [vR 2, vR 17] (LW W (uZ (uZ (uZ z 122 2) 122 1) 123 ((z 123) - 1)) f) = some (none, LW W z1 f1) ∧ res = (some (vI 1), LW W z1 f1))))) : XC call (mP 140) 0 [some (vR 12), some (vR 2)] [] (LW W (uZ z 122 2) f) res := by
  refine xc_b (i' := 2) (ls' := [some (vR 12), some (vR 2)]) (st' := [vI (z 123)]) (L' := LW W (uZ z 122 2) f) 2 (bq2_140_1 call (uZ z 122 2) f) ?_
  refine xc_if (it := 10) (ie := 3) (ls' := [some (vR 12), some (vR 2)]) (st' := []) (bq2_140_2 call (z 123) _ _) (fun q1 => ?_) (fun q1 => ?_)
  · have H := H.1 (cI0t q1)
    refine xc_b (i' := 11) (ls' := [some (vR 12), some (vR 2)]) (st' := [vI 0]) (L' := LW W (uZ z 122 2) f) 1 (bq2_140_3 call _) ?_
    subst H
    exact xc_ret (bq2_140_4 call _ _)
  · have H := H.2 (cI0f q1)
    refine xc_b (i' := 5) (ls' := [some (vR 12), some (vR 2)]) (st' := [vI 2]) (L' := LW W (uZ z 122 2) f) 2 (bq2_140_5 call (uZ z 122 2) f) ?_
    refine xc_f (it := 10) (ie := 6) (ls' := [some (vR 12), some (vR 2)]) (st' := []) (bq2_140_6 call 2 _ _) (by decide) ?_
    refine xc_b (i' := 9) (ls' := [some (vR 12), some (vR 2)]) (st' := [vI 6, vI 2]) (L' := LW W (uZ z 122 2) f) 3 (bq2_140_7 call (uZ z 122 2) f) ?_
    refine xc_t (it := 12) (ie := 10) (ls' := [some (vR 12), some (vR 2)]) (st' := []) (bq2_140_8 call 2 6 _ _) (by decide) ?_
    refine xc_b (i' := 15) (ls' := [some (vR 12), some (vR 2)]) (st' := [vI 2, vR 12]) (L' := LW W (uZ z 122 2) f) 3 (bq2_140_9 call (uZ z 122 2) f) ?_
    refine xc_f (it := 21) (ie := 16) (ls' := [some (vR 12), some (vR 2)]) (st' := [vR 12]) (bq2_140_10 call 2 _ _) (by decide) ?_
    refine xc_b (i' := 22) (ls' := [some (vR 12), some (vR 2)]) (st' := [vI 1, vR 12]) (L' := LW W (uZ z 122 2) f) 5 (bq2_140_11 call (uZ z 122 2) f) ?_
    refine xc_b (i' := 23) (ls' := [some (vR 12), some (vR 2)]) (st' := []) (L' := LW W (uZ (uZ z 122 2) 122 1) f) 1 (bq2_140_12 call 1 _ (uZ z 122 2) f) ?_
    refine xc_b (i' := 28) (ls' := [some (vR 12), some (vR 2)]) (st' := [vI ((z 123) - 1), vR 12]) (L' := LW W (uZ (uZ z 122 2) 122 1) f) 5 (bq2_140_13 call (uZ (uZ z 122 2) 122 1) f) ?_
    refine xc_b (i' := 29) (ls' := [some (vR 12), some (vR 2)]) (st' := []) (L' := LW W (uZ (uZ (uZ z 122 2) 122 1) 123 ((z 123) - 1)) f) 1 (bq2_140_14 call ((z 123) - 1) _ (uZ (uZ z 122 2) 122 1) f) ?_
    refine xc_b (i' := 34) (ls' := [some (vR 12), some (vR 2)]) (st' := [vI 1, vR 13, vR 2]) (L' := LW W (uZ (uZ (uZ z 122 2) 122 1) 123 ((z 123) - 1)) f) 5 (bq2_140_15 call (uZ (uZ (uZ z 122 2) 122 1) 123 ((z 123) - 1)) f) ?_
    refine xc_g (i' := 35) (ls' := [some (vR 12), some (vR 2)]) (st' := [.inr (.inl (rgW (ix 1))), vR 2]) (L' := LW W (uZ (uZ (uZ z 122 2) 122 1) 123 ((z 123) - 1)) f) (bq2_140_16 call _ (uZ (uZ (uZ z 122 2) 122 1) 123 ((z 123) - 1)) f) (by decide) ?_
    show XC call (mP 140) 35 [some (vR 12), some (vR 2)] [vR 17, vR 2] (LW W (uZ (uZ (uZ z 122 2) 122 1) 123 ((z 123) - 1)) f) res
    obtain ⟨z1, f1, hc, H⟩ := H
    refine xc_call (t := 36) (ls' := [some (vR 12), some (vR 2)]) (st' := []) (bq2_140_17 call _ (uZ (uZ (uZ z 122 2) 122 1) 123 ((z 123) - 1)) f) hc ?_
    show XC call (mP 140) 36 [some (vR 12), some (vR 2)] [] (LW W z1 f1) res
    refine xc_b (i' := 37) (ls' := [some (vR 12), some (vR 2)]) (st' := [vI 1]) (L' := LW W z1 f1) 1 (bq2_140_18 call _) ?_
    subst H
    exact xc_ret (bq2_140_19 call _ _)
set_option maxRecDepth 100000 in
theorem bq3_141_1 (call : QC FA) (z : Nat → Int32) (f : Nat → FA) (F : Nat) : xnG call 141 (F + 2) 0 [some (vR 12), some (vR 2)] [] (LW W z f) = xnG call 141 F 2 [some (vR 12), some (vR 2)] [vI (z 122)] (LW W z f) := rfl
set_option maxRecDepth 100000 in
theorem bq3_141_2 (call : QC FA) (x : Int32) (ls : List (Option PV)) (L : QH FA) (F : Nat) : xnG call 141 (F + 1) 2 ls [vI x] L = bif pcmp 2 x 0 then xnG call 141 F 7 ls [] L else xnG call 141 F 3 ls [] L := rfl
set_option maxRecDepth 100000 in
theorem bq3_141_3 (call : QC FA) (z : Nat → Int32) (f : Nat → FA) (F : Nat) : xnG call 141 (F + 3) 3 [some (vR 12), some (vR 2)] [] (LW W z f) = xnG call 141 F 6 [some (vR 12), some (vR 2)] [vI 6, vI (z 122)] (LW W z f) := rfl
set_option maxRecDepth 100000 in
theorem bq3_141_4 (call : QC FA) (x y : Int32) (ls : List (Option PV)) (L : QH FA) (F : Nat) : xnG call 141 (F + 1) 6 ls [vI y, vI x] L = bif pcmp 2 x y then xnG call 141 F 8 ls [] L else xnG call 141 F 7 ls [] L := rfl
set_option maxRecDepth 100000 in
theorem bq3_141_5 (call : QC FA) (z : Nat → Int32) (f : Nat → FA) (F : Nat) : xnG call 141 (F + 4) 8 [some (vR 12), some (vR 2)] [] (LW W z f) = xnG call 141 F 12 [some (vR 12), some (vR 2)] [vI (z 122), vR 13] (LW W z f) := rfl
set_option maxRecDepth 100000 in
theorem bq3_141_6 (call : QC FA) (ls : List (Option PV)) (z : Nat → Int32) (f : Nat → FA) (F : Nat) : xnG call 141 (F + 1) 12 ls [vI 3, vR 13] (LW W z f) = bif ((Nat.beq 1 1 || (Nat.beq 1 2 || Nat.beq 1 3)) && pin 3 6) then xnG call 141 F 13 ls [.inr (.inl (rgW (ix 3)))] (LW W z f) else none := rfl
set_option maxRecDepth 100000 in
theorem bq3_141_7 (call : QC FA) (L : QH FA) (F : Nat) : xnG call 141 (F + 1) 13 [some (vR 12), some (vR 2)] [vR 23] L = xnG call 141 F 14 [some (vR 12), some (vR 2)] [vR 2, vR 23] L := rfl
set_option maxRecDepth 100000 in
theorem bq3_141_8 (call : QC FA) (ls : List (Option PV)) (z : Nat → Int32) (f : Nat → FA) (F : Nat) : xnG call 141 (F + 1) 14 ls [vR 2, vR 23] (LW W z f) = cbd (call 90 [vR 23, vR 2] (LW W z f)) (fun r L' => xnG call 141 F 15 ls (r.toList ++ []) L') := pcY (ih := xnG call 141 F) (call := call) (a := 90) (b := 1) (v := 0) (t := 15) (x := 23) (ls := ls) (As := [vR 2]) (st' := []) (L := LW W z f) rfl rfl rfl
set_option maxRecDepth 100000 in
theorem bq3_141_9 (call : QC FA) (z : Nat → Int32) (f : Nat → FA) (F : Nat) : xnG call 141 (F + 6) 15 [some (vR 12), some (vR 2)] [] (LW W z f) = xnG call 141 F 21 [some (vR 12), some (vR 2)] [vI 6, vI ((z 122) + 1), vR 12] (LW W z f) := rfl
set_option maxRecDepth 100000 in
theorem bq3_141_10 (call : QC FA) (x y : Int32) (ls : List (Option PV)) (L : QH FA) (F : Nat) : xnG call 141 (F + 1) 21 ls [vI y, vI x, vR 12] L = bif pcmp 3 x y then xnG call 141 F 27 ls [vR 12] L else xnG call 141 F 22 ls [vR 12] L := rfl
set_option maxRecDepth 100000 in
theorem bq3_141_11 (call : QC FA) (L : QH FA) (F : Nat) : xnG call 141 (F + 1) 27 [some (vR 12), some (vR 2)] [vR 12] L = xnG call 141 F 28 [some (vR 12), some (vR 2)] [vI 0, vR 12] L := rfl
set_option maxRecDepth 100000 in
theorem bq3_141_12 (call : QC FA) (y : Int32) (ls : List (Option PV)) (z : Nat → Int32) (f : Nat → FA) (F : Nat) : xnG call 141 (F + 1) 28 ls [vI y, vR 12] (LW W z f) = xnG call 141 F 29 ls [] (LW W (uZ z 122 y) f) := rfl
set_option maxRecDepth 100000 in
theorem bq3_141_13 (call : QC FA) (z : Nat → Int32) (f : Nat → FA) (F : Nat) : xnG call 141 (F + 6) 29 [some (vR 12), some (vR 2)] [] (LW W z f) = xnG call 141 F 35 [some (vR 12), some (vR 2)] [vI 6, vI ((z 123) + 1), vR 12] (LW W z f) := rfl
set_option maxRecDepth 100000 in
theorem bq3_141_14 (call : QC FA) (x y : Int32) (ls : List (Option PV)) (L : QH FA) (F : Nat) : xnG call 141 (F + 1) 35 ls [vI y, vI x, vR 12] L = bif pcmp 2 y x then xnG call 141 F 36 ls [vI y, vR 12] L else xnG call 141 F 36 ls [vI x, vR 12] L := pmn (xnG call 141 F) 36 x y ls [vR 12] L rfl
set_option maxRecDepth 100000 in
theorem bq3_141_15 (call : QC FA) (y : Int32) (ls : List (Option PV)) (z : Nat → Int32) (f : Nat → FA) (F : Nat) : xnG call 141 (F + 1) 36 ls [vI y, vR 12] (LW W z f) = xnG call 141 F 37 ls [] (LW W (uZ z 123 y) f) := rfl
set_option maxRecDepth 100000 in
theorem bq3_141_16 (call : QC FA) (ls : List (Option PV)) (L : QH FA) (F : Nat) : xnG call 141 (F + 1) 37 ls [] L = some (none, L) := rfl
set_option maxRecDepth 100000 in
theorem bq3_141_17 (call : QC FA) (z : Nat → Int32) (f : Nat → FA) (F : Nat) : xnG call 141 (F + 5) 22 [some (vR 12), some (vR 2)] [vR 12] (LW W z f) = xnG call 141 F 28 [some (vR 12), some (vR 2)] [vI ((z 122) + 1), vR 12] (LW W z f) := rfl
theorem vcq3_141_0 (call : QC FA) (z : Nat → Int32) (f : Nat → FA) (res : Option PV × QH FA) (H : (∃ (z1 : Nat → Int32) (f1 : Nat → FA), call 90 [vR 23, vR 2] (LW W (uZ z 122 3) f) = some (none, LW W z1 f1) ∧ ((6 ≤ I ((z1 122) + 1) → ((6 < I ((z1 123) + 1) → res = (none, LW W (uZ (uZ z1 122 0) 123 6) f1)) ∧ (I ((z1 123) + 1) ≤ 6 → res = (none, LW W (uZ (uZ z1 122 0) 123 ((z1 123) + 1)) f1)))) ∧ (I ((z1 122) + 1) < 6 → ((6 < I ((z1 123) + 1) → res = (none, LW W (uZ (uZ z1 122 ((z1 122) + 1)) 123 6) f1)) ∧ (I ((z1 123) + 1) ≤ 6 → res = (none, LW W (uZ (uZ z1 122 ((z1 122) + 1)) 123 ((z1 123) + 1)) f1))))))) : XC call (mP 141) 0 [some (vR 12), some (vR 2)] [] (LW W (uZ z 122 3) f) res := by
  refine xc_b (i' := 2) (ls' := [some (vR 12), some (vR 2)]) (st' := [vI 3]) (L' := LW W (uZ z 122 3) f) 2 (bq3_141_1 call (uZ z 122 3) f) ?_
  refine xc_f (it := 7) (ie := 3) (ls' := [some (vR 12), some (vR 2)]) (st' := []) (bq3_141_2 call 3 _ _) (by decide) ?_
  refine xc_b (i' := 6) (ls' := [some (vR 12), some (vR 2)]) (st' := [vI 6, vI 3]) (L' := LW W (uZ z 122 3) f) 3 (bq3_141_3 call (uZ z 122 3) f) ?_
  refine xc_t (it := 8) (ie := 7) (ls' := [some (vR 12), some (vR 2)]) (st' := []) (bq3_141_4 call 3 6 _ _) (by decide) ?_
  refine xc_b (i' := 12) (ls' := [some (vR 12), some (vR 2)]) (st' := [vI 3, vR 13]) (L' := LW W (uZ z 122 3) f) 4 (bq3_141_5 call (uZ z 122 3) f) ?_
  refine xc_g (i' := 13) (ls' := [some (vR 12), some (vR 2)]) (st' := [.inr (.inl (rgW (ix 3)))]) (L' := LW W (uZ z 122 3) f) (bq3_141_6 call _ (uZ z 122 3) f) (by decide) ?_
  show XC call (mP 141) 13 [some (vR 12), some (vR 2)] [vR 23] (LW W (uZ z 122 3) f) res
  refine xc_b (i' := 14) (ls' := [some (vR 12), some (vR 2)]) (st' := [vR 2, vR 23]) (L' := LW W (uZ z 122 3) f) 1 (bq3_141_7 call _) ?_
  obtain ⟨z1, f1, hc, H⟩ := H
  refine xc_call (t := 15) (ls' := [some (vR 12), some (vR 2)]) (st' := []) (bq3_141_8 call _ (uZ z 122 3) f) hc ?_
  show XC call (mP 141) 15 [some (vR 12), some (vR 2)] [] (LW W z1 f1) res
  refine xc_b (i' := 21) (ls' := [some (vR 12), some (vR 2)]) (st' := [vI 6, vI ((z1 122) + 1), vR 12]) (L' := LW W z1 f1) 6 (bq3_141_9 call z1 f1) ?_
  refine xc_if (it := 27) (ie := 22) (ls' := [some (vR 12), some (vR 2)]) (st' := [vR 12]) (bq3_141_10 call ((z1 122) + 1) 6 _ _) (fun q1 => ?_) (fun q1 => ?_)
  · have H := H.1 (cI3t q1 rfl rfl)
    refine xc_b (i' := 28) (ls' := [some (vR 12), some (vR 2)]) (st' := [vI 0, vR 12]) (L' := LW W z1 f1) 1 (bq3_141_11 call _) ?_
    refine xc_b (i' := 29) (ls' := [some (vR 12), some (vR 2)]) (st' := []) (L' := LW W (uZ z1 122 0) f1) 1 (bq3_141_12 call 0 _ z1 f1) ?_
    refine xc_b (i' := 35) (ls' := [some (vR 12), some (vR 2)]) (st' := [vI 6, vI ((z1 123) + 1), vR 12]) (L' := LW W (uZ z1 122 0) f1) 6 (bq3_141_13 call (uZ z1 122 0) f1) ?_
    refine xc_if2 (it := 36) (ie := 36) (ls' := [some (vR 12), some (vR 2)]) (st1 := [vI 6, vR 12]) (st2 := [vI ((z1 123) + 1), vR 12]) (bq3_141_14 call ((z1 123) + 1) 6 _ _) (fun q2 => ?_) (fun q2 => ?_)
    · have H := H.1 (cI2t q2 rfl rfl)
      refine xc_b (i' := 37) (ls' := [some (vR 12), some (vR 2)]) (st' := []) (L' := LW W (uZ (uZ z1 122 0) 123 6) f1) 1 (bq3_141_15 call 6 _ (uZ z1 122 0) f1) ?_
      subst H
      exact xc_ret (bq3_141_16 call _ _)
    · have H := H.2 (cI2f q2 rfl rfl)
      refine xc_b (i' := 37) (ls' := [some (vR 12), some (vR 2)]) (st' := []) (L' := LW W (uZ (uZ z1 122 0) 123 ((z1 123) + 1)) f1) 1 (bq3_141_15 call ((z1 123) + 1) _ (uZ z1 122 0) f1) ?_
      subst H
      exact xc_ret (bq3_141_16 call _ _)
  · have H := H.2 (cI3f q1 rfl rfl)
    refine xc_b (i' := 28) (ls' := [some (vR 12), some (vR 2)]) (st' := [vI ((z1 122) + 1), vR 12]) (L' := LW W z1 f1) 5 (bq3_141_17 call z1 f1) ?_
    refine xc_b (i' := 29) (ls' := [some (vR 12), some (vR 2)]) (st' := []) (L' := LW W (uZ z1 122 ((z1 122) + 1)) f1) 1 (bq3_141_12 call ((z1 122) + 1) _ z1 f1) ?_
    refine xc_b (i' := 35) (ls' := [some (vR 12), some (vR 2)]) (st' := [vI 6, vI ((z1 123) + 1), vR 12]) (L' := LW W (uZ z1 122 ((z1 122) + 1)) f1) 6 (bq3_141_13 call (uZ z1 122 ((z1 122) + 1)) f1) ?_
    refine xc_if2 (it := 36) (ie := 36) (ls' := [some (vR 12), some (vR 2)]) (st1 := [vI 6, vR 12]) (st2 := [vI ((z1 123) + 1), vR 12]) (bq3_141_14 call ((z1 123) + 1) 6 _ _) (fun q3 => ?_) (fun q3 => ?_)
    · have H := H.1 (cI2t q3 rfl rfl)
      refine xc_b (i' := 37) (ls' := [some (vR 12), some (vR 2)]) (st' := []) (L' := LW W (uZ (uZ z1 122 ((z1 122) + 1)) 123 6) f1) 1 (bq3_141_15 call 6 _ (uZ z1 122 ((z1 122) + 1)) f1) ?_
      subst H
      exact xc_ret (bq3_141_16 call _ _)
    · have H := H.2 (cI2f q3 rfl rfl)
      refine xc_b (i' := 37) (ls' := [some (vR 12), some (vR 2)]) (st' := []) (L' := LW W (uZ (uZ z1 122 ((z1 122) + 1)) 123 ((z1 123) + 1)) f1) 1 (bq3_141_15 call ((z1 123) + 1) _ (uZ z1 122 ((z1 122) + 1)) f1) ?_
      subst H
      exact xc_ret (bq3_141_16 call _ _)
set_option maxRecDepth 100000 in
theorem bq3_140_1 (call : QC FA) (z : Nat → Int32) (f : Nat → FA) (F : Nat) : xnG call 140 (F + 2) 0 [some (vR 12), some (vR 2)] [] (LW W z f) = xnG call 140 F 2 [some (vR 12), some (vR 2)] [vI (z 123)] (LW W z f) := rfl
set_option maxRecDepth 100000 in
theorem bq3_140_2 (call : QC FA) (x : Int32) (ls : List (Option PV)) (L : QH FA) (F : Nat) : xnG call 140 (F + 1) 2 ls [vI x] L = bif pcmp 0 x 0 then xnG call 140 F 10 ls [] L else xnG call 140 F 3 ls [] L := rfl
set_option maxRecDepth 100000 in
theorem bq3_140_3 (call : QC FA) (L : QH FA) (F : Nat) : xnG call 140 (F + 1) 10 [some (vR 12), some (vR 2)] [] L = xnG call 140 F 11 [some (vR 12), some (vR 2)] [vI 0] L := rfl
set_option maxRecDepth 100000 in
theorem bq3_140_4 (call : QC FA) (ls : List (Option PV)) (L : QH FA) (F : Nat) : xnG call 140 (F + 1) 11 ls [vI 0] L = some (some (vI 0), L) := rfl
set_option maxRecDepth 100000 in
theorem bq3_140_5 (call : QC FA) (z : Nat → Int32) (f : Nat → FA) (F : Nat) : xnG call 140 (F + 2) 3 [some (vR 12), some (vR 2)] [] (LW W z f) = xnG call 140 F 5 [some (vR 12), some (vR 2)] [vI (z 122)] (LW W z f) := rfl
set_option maxRecDepth 100000 in
theorem bq3_140_6 (call : QC FA) (x : Int32) (ls : List (Option PV)) (L : QH FA) (F : Nat) : xnG call 140 (F + 1) 5 ls [vI x] L = bif pcmp 2 x 0 then xnG call 140 F 10 ls [] L else xnG call 140 F 6 ls [] L := rfl
set_option maxRecDepth 100000 in
theorem bq3_140_7 (call : QC FA) (z : Nat → Int32) (f : Nat → FA) (F : Nat) : xnG call 140 (F + 3) 6 [some (vR 12), some (vR 2)] [] (LW W z f) = xnG call 140 F 9 [some (vR 12), some (vR 2)] [vI 6, vI (z 122)] (LW W z f) := rfl
set_option maxRecDepth 100000 in
theorem bq3_140_8 (call : QC FA) (x y : Int32) (ls : List (Option PV)) (L : QH FA) (F : Nat) : xnG call 140 (F + 1) 9 ls [vI y, vI x] L = bif pcmp 2 x y then xnG call 140 F 12 ls [] L else xnG call 140 F 10 ls [] L := rfl
set_option maxRecDepth 100000 in
theorem bq3_140_9 (call : QC FA) (z : Nat → Int32) (f : Nat → FA) (F : Nat) : xnG call 140 (F + 3) 12 [some (vR 12), some (vR 2)] [] (LW W z f) = xnG call 140 F 15 [some (vR 12), some (vR 2)] [vI (z 122), vR 12] (LW W z f) := rfl
set_option maxRecDepth 100000 in
theorem bq3_140_10 (call : QC FA) (x : Int32) (ls : List (Option PV)) (L : QH FA) (F : Nat) : xnG call 140 (F + 1) 15 ls [vI x, vR 12] L = bif pcmp 5 x 0 then xnG call 140 F 21 ls [vR 12] L else xnG call 140 F 16 ls [vR 12] L := rfl
set_option maxRecDepth 100000 in
theorem bq3_140_11 (call : QC FA) (z : Nat → Int32) (f : Nat → FA) (F : Nat) : xnG call 140 (F + 5) 16 [some (vR 12), some (vR 2)] [vR 12] (LW W z f) = xnG call 140 F 22 [some (vR 12), some (vR 2)] [vI ((z 122) - 1), vR 12] (LW W z f) := rfl
set_option maxRecDepth 100000 in
theorem bq3_140_12 (call : QC FA) (y : Int32) (ls : List (Option PV)) (z : Nat → Int32) (f : Nat → FA) (F : Nat) : xnG call 140 (F + 1) 22 ls [vI y, vR 12] (LW W z f) = xnG call 140 F 23 ls [] (LW W (uZ z 122 y) f) := rfl
set_option maxRecDepth 100000 in
theorem bq3_140_13 (call : QC FA) (z : Nat → Int32) (f : Nat → FA) (F : Nat) : xnG call 140 (F + 5) 23 [some (vR 12), some (vR 2)] [] (LW W z f) = xnG call 140 F 28 [some (vR 12), some (vR 2)] [vI ((z 123) - 1), vR 12] (LW W z f) := rfl
set_option maxRecDepth 100000 in
theorem bq3_140_14 (call : QC FA) (y : Int32) (ls : List (Option PV)) (z : Nat → Int32) (f : Nat → FA) (F : Nat) : xnG call 140 (F + 1) 28 ls [vI y, vR 12] (LW W z f) = xnG call 140 F 29 ls [] (LW W (uZ z 123 y) f) := rfl
set_option maxRecDepth 100000 in
theorem bq3_140_15 (call : QC FA) (z : Nat → Int32) (f : Nat → FA) (F : Nat) : xnG call 140 (F + 5) 29 [some (vR 12), some (vR 2)] [] (LW W z f) = xnG call 140 F 34 [some (vR 12), some (vR 2)] [vI (z 122), vR 13, vR 2] (LW W z f) := rfl
set_option maxRecDepth 100000 in
theorem bq3_140_16 (call : QC FA) (ls : List (Option PV)) (z : Nat → Int32) (f : Nat → FA) (F : Nat) : xnG call 140 (F + 1) 34 ls [vI 2, vR 13, vR 2] (LW W z f) = bif ((Nat.beq 1 1 || (Nat.beq 1 2 || Nat.beq 1 3)) && pin 2 6) then xnG call 140 F 35 ls [.inr (.inl (rgW (ix 2))), vR 2] (LW W z f) else none := rfl
set_option maxRecDepth 100000 in
theorem bq3_140_17 (call : QC FA) (ls : List (Option PV)) (z : Nat → Int32) (f : Nat → FA) (F : Nat) : xnG call 140 (F + 1) 35 ls [vR 20, vR 2] (LW W z f) = cbd (call 90 [vR 2, vR 20] (LW W z f)) (fun r L' => xnG call 140 F 36 ls (r.toList ++ []) L') := pcY (ih := xnG call 140 F) (call := call) (a := 90) (b := 1) (v := 0) (t := 36) (x := 2) (ls := ls) (As := [vR 20]) (st' := []) (L := LW W z f) rfl rfl rfl
set_option maxRecDepth 100000 in
theorem bq3_140_18 (call : QC FA) (L : QH FA) (F : Nat) : xnG call 140 (F + 1) 36 [some (vR 12), some (vR 2)] [] L = xnG call 140 F 37 [some (vR 12), some (vR 2)] [vI 1] L := rfl
set_option maxRecDepth 100000 in
theorem bq3_140_19 (call : QC FA) (ls : List (Option PV)) (L : QH FA) (F : Nat) : xnG call 140 (F + 1) 37 ls [vI 1] L = some (some (vI 1), L) := rfl
theorem vcq3_140_0 (call : QC FA) (z : Nat → Int32) (f : Nat → FA) (res : Option PV × QH FA) (H : ((z 123 = 0 → res = (some (vI 0), LW W (uZ z 122 3) f)) ∧ (¬ z 123 = 0 → (∃ (z1 : Nat → Int32) (f1 : Nat → FA), call 90 [vR 2, vR 20] (LW W (uZ (uZ (uZ z 122 3) 122 2) 123 ((z 123) - 1)) f) = some (none, LW W z1 f1) ∧ res = (some (vI 1), LW W z1 f1))))) : XC call (mP 140) 0 [some (vR 12), some (vR 2)] [] (LW W (uZ z 122 3) f) res := by
  refine xc_b (i' := 2) (ls' := [some (vR 12), some (vR 2)]) (st' := [vI (z 123)]) (L' := LW W (uZ z 122 3) f) 2 (bq3_140_1 call (uZ z 122 3) f) ?_
  refine xc_if (it := 10) (ie := 3) (ls' := [some (vR 12), some (vR 2)]) (st' := []) (bq3_140_2 call (z 123) _ _) (fun q1 => ?_) (fun q1 => ?_)
  · have H := H.1 (cI0t q1)
    refine xc_b (i' := 11) (ls' := [some (vR 12), some (vR 2)]) (st' := [vI 0]) (L' := LW W (uZ z 122 3) f) 1 (bq3_140_3 call _) ?_
    subst H
    exact xc_ret (bq3_140_4 call _ _)
  · have H := H.2 (cI0f q1)
    refine xc_b (i' := 5) (ls' := [some (vR 12), some (vR 2)]) (st' := [vI 3]) (L' := LW W (uZ z 122 3) f) 2 (bq3_140_5 call (uZ z 122 3) f) ?_
    refine xc_f (it := 10) (ie := 6) (ls' := [some (vR 12), some (vR 2)]) (st' := []) (bq3_140_6 call 3 _ _) (by decide) ?_
    refine xc_b (i' := 9) (ls' := [some (vR 12), some (vR 2)]) (st' := [vI 6, vI 3]) (L' := LW W (uZ z 122 3) f) 3 (bq3_140_7 call (uZ z 122 3) f) ?_
    refine xc_t (it := 12) (ie := 10) (ls' := [some (vR 12), some (vR 2)]) (st' := []) (bq3_140_8 call 3 6 _ _) (by decide) ?_
    refine xc_b (i' := 15) (ls' := [some (vR 12), some (vR 2)]) (st' := [vI 3, vR 12]) (L' := LW W (uZ z 122 3) f) 3 (bq3_140_9 call (uZ z 122 3) f) ?_
    refine xc_f (it := 21) (ie := 16) (ls' := [some (vR 12), some (vR 2)]) (st' := [vR 12]) (bq3_140_10 call 3 _ _) (by decide) ?_
    refine xc_b (i' := 22) (ls' := [some (vR 12), some (vR 2)]) (st' := [vI 2, vR 12]) (L' := LW W (uZ z 122 3) f) 5 (bq3_140_11 call (uZ z 122 3) f) ?_
    refine xc_b (i' := 23) (ls' := [some (vR 12), some (vR 2)]) (st' := []) (L' := LW W (uZ (uZ z 122 3) 122 2) f) 1 (bq3_140_12 call 2 _ (uZ z 122 3) f) ?_
    refine xc_b (i' := 28) (ls' := [some (vR 12), some (vR 2)]) (st' := [vI ((z 123) - 1), vR 12]) (L' := LW W (uZ (uZ z 122 3) 122 2) f) 5 (bq3_140_13 call (uZ (uZ z 122 3) 122 2) f) ?_
    refine xc_b (i' := 29) (ls' := [some (vR 12), some (vR 2)]) (st' := []) (L' := LW W (uZ (uZ (uZ z 122 3) 122 2) 123 ((z 123) - 1)) f) 1 (bq3_140_14 call ((z 123) - 1) _ (uZ (uZ z 122 3) 122 2) f) ?_
    refine xc_b (i' := 34) (ls' := [some (vR 12), some (vR 2)]) (st' := [vI 2, vR 13, vR 2]) (L' := LW W (uZ (uZ (uZ z 122 3) 122 2) 123 ((z 123) - 1)) f) 5 (bq3_140_15 call (uZ (uZ (uZ z 122 3) 122 2) 123 ((z 123) - 1)) f) ?_
    refine xc_g (i' := 35) (ls' := [some (vR 12), some (vR 2)]) (st' := [.inr (.inl (rgW (ix 2))), vR 2]) (L' := LW W (uZ (uZ (uZ z 122 3) 122 2) 123 ((z 123) - 1)) f) (bq3_140_16 call _ (uZ (uZ (uZ z 122 3) 122 2) 123 ((z 123) - 1)) f) (by decide) ?_
    show XC call (mP 140) 35 [some (vR 12), some (vR 2)] [vR 20, vR 2] (LW W (uZ (uZ (uZ z 122 3) 122 2) 123 ((z 123) - 1)) f) res
    obtain ⟨z1, f1, hc, H⟩ := H
    refine xc_call (t := 36) (ls' := [some (vR 12), some (vR 2)]) (st' := []) (bq3_140_17 call _ (uZ (uZ (uZ z 122 3) 122 2) 123 ((z 123) - 1)) f) hc ?_
    show XC call (mP 140) 36 [some (vR 12), some (vR 2)] [] (LW W z1 f1) res
    refine xc_b (i' := 37) (ls' := [some (vR 12), some (vR 2)]) (st' := [vI 1]) (L' := LW W z1 f1) 1 (bq3_140_18 call _) ?_
    subst H
    exact xc_ret (bq3_140_19 call _ _)
set_option maxRecDepth 100000 in
theorem bq4_141_1 (call : QC FA) (z : Nat → Int32) (f : Nat → FA) (F : Nat) : xnG call 141 (F + 2) 0 [some (vR 12), some (vR 2)] [] (LW W z f) = xnG call 141 F 2 [some (vR 12), some (vR 2)] [vI (z 122)] (LW W z f) := rfl
set_option maxRecDepth 100000 in
theorem bq4_141_2 (call : QC FA) (x : Int32) (ls : List (Option PV)) (L : QH FA) (F : Nat) : xnG call 141 (F + 1) 2 ls [vI x] L = bif pcmp 2 x 0 then xnG call 141 F 7 ls [] L else xnG call 141 F 3 ls [] L := rfl
set_option maxRecDepth 100000 in
theorem bq4_141_3 (call : QC FA) (z : Nat → Int32) (f : Nat → FA) (F : Nat) : xnG call 141 (F + 3) 3 [some (vR 12), some (vR 2)] [] (LW W z f) = xnG call 141 F 6 [some (vR 12), some (vR 2)] [vI 6, vI (z 122)] (LW W z f) := rfl
set_option maxRecDepth 100000 in
theorem bq4_141_4 (call : QC FA) (x y : Int32) (ls : List (Option PV)) (L : QH FA) (F : Nat) : xnG call 141 (F + 1) 6 ls [vI y, vI x] L = bif pcmp 2 x y then xnG call 141 F 8 ls [] L else xnG call 141 F 7 ls [] L := rfl
set_option maxRecDepth 100000 in
theorem bq4_141_5 (call : QC FA) (z : Nat → Int32) (f : Nat → FA) (F : Nat) : xnG call 141 (F + 4) 8 [some (vR 12), some (vR 2)] [] (LW W z f) = xnG call 141 F 12 [some (vR 12), some (vR 2)] [vI (z 122), vR 13] (LW W z f) := rfl
set_option maxRecDepth 100000 in
theorem bq4_141_6 (call : QC FA) (ls : List (Option PV)) (z : Nat → Int32) (f : Nat → FA) (F : Nat) : xnG call 141 (F + 1) 12 ls [vI 4, vR 13] (LW W z f) = bif ((Nat.beq 1 1 || (Nat.beq 1 2 || Nat.beq 1 3)) && pin 4 6) then xnG call 141 F 13 ls [.inr (.inl (rgW (ix 4)))] (LW W z f) else none := rfl
set_option maxRecDepth 100000 in
theorem bq4_141_7 (call : QC FA) (L : QH FA) (F : Nat) : xnG call 141 (F + 1) 13 [some (vR 12), some (vR 2)] [vR 26] L = xnG call 141 F 14 [some (vR 12), some (vR 2)] [vR 2, vR 26] L := rfl
set_option maxRecDepth 100000 in
theorem bq4_141_8 (call : QC FA) (ls : List (Option PV)) (z : Nat → Int32) (f : Nat → FA) (F : Nat) : xnG call 141 (F + 1) 14 ls [vR 2, vR 26] (LW W z f) = cbd (call 90 [vR 26, vR 2] (LW W z f)) (fun r L' => xnG call 141 F 15 ls (r.toList ++ []) L') := pcY (ih := xnG call 141 F) (call := call) (a := 90) (b := 1) (v := 0) (t := 15) (x := 26) (ls := ls) (As := [vR 2]) (st' := []) (L := LW W z f) rfl rfl rfl
set_option maxRecDepth 100000 in
theorem bq4_141_9 (call : QC FA) (z : Nat → Int32) (f : Nat → FA) (F : Nat) : xnG call 141 (F + 6) 15 [some (vR 12), some (vR 2)] [] (LW W z f) = xnG call 141 F 21 [some (vR 12), some (vR 2)] [vI 6, vI ((z 122) + 1), vR 12] (LW W z f) := rfl
set_option maxRecDepth 100000 in
theorem bq4_141_10 (call : QC FA) (x y : Int32) (ls : List (Option PV)) (L : QH FA) (F : Nat) : xnG call 141 (F + 1) 21 ls [vI y, vI x, vR 12] L = bif pcmp 3 x y then xnG call 141 F 27 ls [vR 12] L else xnG call 141 F 22 ls [vR 12] L := rfl
set_option maxRecDepth 100000 in
theorem bq4_141_11 (call : QC FA) (L : QH FA) (F : Nat) : xnG call 141 (F + 1) 27 [some (vR 12), some (vR 2)] [vR 12] L = xnG call 141 F 28 [some (vR 12), some (vR 2)] [vI 0, vR 12] L := rfl
set_option maxRecDepth 100000 in
theorem bq4_141_12 (call : QC FA) (y : Int32) (ls : List (Option PV)) (z : Nat → Int32) (f : Nat → FA) (F : Nat) : xnG call 141 (F + 1) 28 ls [vI y, vR 12] (LW W z f) = xnG call 141 F 29 ls [] (LW W (uZ z 122 y) f) := rfl
set_option maxRecDepth 100000 in
theorem bq4_141_13 (call : QC FA) (z : Nat → Int32) (f : Nat → FA) (F : Nat) : xnG call 141 (F + 6) 29 [some (vR 12), some (vR 2)] [] (LW W z f) = xnG call 141 F 35 [some (vR 12), some (vR 2)] [vI 6, vI ((z 123) + 1), vR 12] (LW W z f) := rfl
set_option maxRecDepth 100000 in
theorem bq4_141_14 (call : QC FA) (x y : Int32) (ls : List (Option PV)) (L : QH FA) (F : Nat) : xnG call 141 (F + 1) 35 ls [vI y, vI x, vR 12] L = bif pcmp 2 y x then xnG call 141 F 36 ls [vI y, vR 12] L else xnG call 141 F 36 ls [vI x, vR 12] L := pmn (xnG call 141 F) 36 x y ls [vR 12] L rfl
set_option maxRecDepth 100000 in
theorem bq4_141_15 (call : QC FA) (y : Int32) (ls : List (Option PV)) (z : Nat → Int32) (f : Nat → FA) (F : Nat) : xnG call 141 (F + 1) 36 ls [vI y, vR 12] (LW W z f) = xnG call 141 F 37 ls [] (LW W (uZ z 123 y) f) := rfl
set_option maxRecDepth 100000 in
theorem bq4_141_16 (call : QC FA) (ls : List (Option PV)) (L : QH FA) (F : Nat) : xnG call 141 (F + 1) 37 ls [] L = some (none, L) := rfl
set_option maxRecDepth 100000 in
theorem bq4_141_17 (call : QC FA) (z : Nat → Int32) (f : Nat → FA) (F : Nat) : xnG call 141 (F + 5) 22 [some (vR 12), some (vR 2)] [vR 12] (LW W z f) = xnG call 141 F 28 [some (vR 12), some (vR 2)] [vI ((z 122) + 1), vR 12] (LW W z f) := rfl
theorem vcq4_141_0 (call : QC FA) (z : Nat → Int32) (f : Nat → FA) (res : Option PV × QH FA) (H : (∃ (z1 : Nat → Int32) (f1 : Nat → FA), call 90 [vR 26, vR 2] (LW W (uZ z 122 4) f) = some (none, LW W z1 f1) ∧ ((6 ≤ I ((z1 122) + 1) → ((6 < I ((z1 123) + 1) → res = (none, LW W (uZ (uZ z1 122 0) 123 6) f1)) ∧ (I ((z1 123) + 1) ≤ 6 → res = (none, LW W (uZ (uZ z1 122 0) 123 ((z1 123) + 1)) f1)))) ∧ (I ((z1 122) + 1) < 6 → ((6 < I ((z1 123) + 1) → res = (none, LW W (uZ (uZ z1 122 ((z1 122) + 1)) 123 6) f1)) ∧ (I ((z1 123) + 1) ≤ 6 → res = (none, LW W (uZ (uZ z1 122 ((z1 122) + 1)) 123 ((z1 123) + 1)) f1))))))) : XC call (mP 141) 0 [some (vR 12), some (vR 2)] [] (LW W (uZ z 122 4) f) res := by
  refine xc_b (i' := 2) (ls' := [some (vR 12), some (vR 2)]) (st' := [vI 4]) (L' := LW W (uZ z 122 4) f) 2 (bq4_141_1 call (uZ z 122 4) f) ?_
  refine xc_f (it := 7) (ie := 3) (ls' := [some (vR 12), some (vR 2)]) (st' := []) (bq4_141_2 call 4 _ _) (by decide) ?_
  refine xc_b (i' := 6) (ls' := [some (vR 12), some (vR 2)]) (st' := [vI 6, vI 4]) (L' := LW W (uZ z 122 4) f) 3 (bq4_141_3 call (uZ z 122 4) f) ?_
  refine xc_t (it := 8) (ie := 7) (ls' := [some (vR 12), some (vR 2)]) (st' := []) (bq4_141_4 call 4 6 _ _) (by decide) ?_
  refine xc_b (i' := 12) (ls' := [some (vR 12), some (vR 2)]) (st' := [vI 4, vR 13]) (L' := LW W (uZ z 122 4) f) 4 (bq4_141_5 call (uZ z 122 4) f) ?_
  refine xc_g (i' := 13) (ls' := [some (vR 12), some (vR 2)]) (st' := [.inr (.inl (rgW (ix 4)))]) (L' := LW W (uZ z 122 4) f) (bq4_141_6 call _ (uZ z 122 4) f) (by decide) ?_
  show XC call (mP 141) 13 [some (vR 12), some (vR 2)] [vR 26] (LW W (uZ z 122 4) f) res
  refine xc_b (i' := 14) (ls' := [some (vR 12), some (vR 2)]) (st' := [vR 2, vR 26]) (L' := LW W (uZ z 122 4) f) 1 (bq4_141_7 call _) ?_
  obtain ⟨z1, f1, hc, H⟩ := H
  refine xc_call (t := 15) (ls' := [some (vR 12), some (vR 2)]) (st' := []) (bq4_141_8 call _ (uZ z 122 4) f) hc ?_
  show XC call (mP 141) 15 [some (vR 12), some (vR 2)] [] (LW W z1 f1) res
  refine xc_b (i' := 21) (ls' := [some (vR 12), some (vR 2)]) (st' := [vI 6, vI ((z1 122) + 1), vR 12]) (L' := LW W z1 f1) 6 (bq4_141_9 call z1 f1) ?_
  refine xc_if (it := 27) (ie := 22) (ls' := [some (vR 12), some (vR 2)]) (st' := [vR 12]) (bq4_141_10 call ((z1 122) + 1) 6 _ _) (fun q1 => ?_) (fun q1 => ?_)
  · have H := H.1 (cI3t q1 rfl rfl)
    refine xc_b (i' := 28) (ls' := [some (vR 12), some (vR 2)]) (st' := [vI 0, vR 12]) (L' := LW W z1 f1) 1 (bq4_141_11 call _) ?_
    refine xc_b (i' := 29) (ls' := [some (vR 12), some (vR 2)]) (st' := []) (L' := LW W (uZ z1 122 0) f1) 1 (bq4_141_12 call 0 _ z1 f1) ?_
    refine xc_b (i' := 35) (ls' := [some (vR 12), some (vR 2)]) (st' := [vI 6, vI ((z1 123) + 1), vR 12]) (L' := LW W (uZ z1 122 0) f1) 6 (bq4_141_13 call (uZ z1 122 0) f1) ?_
    refine xc_if2 (it := 36) (ie := 36) (ls' := [some (vR 12), some (vR 2)]) (st1 := [vI 6, vR 12]) (st2 := [vI ((z1 123) + 1), vR 12]) (bq4_141_14 call ((z1 123) + 1) 6 _ _) (fun q2 => ?_) (fun q2 => ?_)
    · have H := H.1 (cI2t q2 rfl rfl)
      refine xc_b (i' := 37) (ls' := [some (vR 12), some (vR 2)]) (st' := []) (L' := LW W (uZ (uZ z1 122 0) 123 6) f1) 1 (bq4_141_15 call 6 _ (uZ z1 122 0) f1) ?_
      subst H
      exact xc_ret (bq4_141_16 call _ _)
    · have H := H.2 (cI2f q2 rfl rfl)
      refine xc_b (i' := 37) (ls' := [some (vR 12), some (vR 2)]) (st' := []) (L' := LW W (uZ (uZ z1 122 0) 123 ((z1 123) + 1)) f1) 1 (bq4_141_15 call ((z1 123) + 1) _ (uZ z1 122 0) f1) ?_
      subst H
      exact xc_ret (bq4_141_16 call _ _)
  · have H := H.2 (cI3f q1 rfl rfl)
    refine xc_b (i' := 28) (ls' := [some (vR 12), some (vR 2)]) (st' := [vI ((z1 122) + 1), vR 12]) (L' := LW W z1 f1) 5 (bq4_141_17 call z1 f1) ?_
    refine xc_b (i' := 29) (ls' := [some (vR 12), some (vR 2)]) (st' := []) (L' := LW W (uZ z1 122 ((z1 122) + 1)) f1) 1 (bq4_141_12 call ((z1 122) + 1) _ z1 f1) ?_
    refine xc_b (i' := 35) (ls' := [some (vR 12), some (vR 2)]) (st' := [vI 6, vI ((z1 123) + 1), vR 12]) (L' := LW W (uZ z1 122 ((z1 122) + 1)) f1) 6 (bq4_141_13 call (uZ z1 122 ((z1 122) + 1)) f1) ?_
    refine xc_if2 (it := 36) (ie := 36) (ls' := [some (vR 12), some (vR 2)]) (st1 := [vI 6, vR 12]) (st2 := [vI ((z1 123) + 1), vR 12]) (bq4_141_14 call ((z1 123) + 1) 6 _ _) (fun q3 => ?_) (fun q3 => ?_)
    · have H := H.1 (cI2t q3 rfl rfl)
      refine xc_b (i' := 37) (ls' := [some (vR 12), some (vR 2)]) (st' := []) (L' := LW W (uZ (uZ z1 122 ((z1 122) + 1)) 123 6) f1) 1 (bq4_141_15 call 6 _ (uZ z1 122 ((z1 122) + 1)) f1) ?_
      subst H
      exact xc_ret (bq4_141_16 call _ _)
    · have H := H.2 (cI2f q3 rfl rfl)
      refine xc_b (i' := 37) (ls' := [some (vR 12), some (vR 2)]) (st' := []) (L' := LW W (uZ (uZ z1 122 ((z1 122) + 1)) 123 ((z1 123) + 1)) f1) 1 (bq4_141_15 call ((z1 123) + 1) _ (uZ z1 122 ((z1 122) + 1)) f1) ?_
      subst H
      exact xc_ret (bq4_141_16 call _ _)
set_option maxRecDepth 100000 in
theorem bq4_140_1 (call : QC FA) (z : Nat → Int32) (f : Nat → FA) (F : Nat) : xnG call 140 (F + 2) 0 [some (vR 12), some (vR 2)] [] (LW W z f) = xnG call 140 F 2 [some (vR 12), some (vR 2)] [vI (z 123)] (LW W z f) := rfl
set_option maxRecDepth 100000 in
theorem bq4_140_2 (call : QC FA) (x : Int32) (ls : List (Option PV)) (L : QH FA) (F : Nat) : xnG call 140 (F + 1) 2 ls [vI x] L = bif pcmp 0 x 0 then xnG call 140 F 10 ls [] L else xnG call 140 F 3 ls [] L := rfl
set_option maxRecDepth 100000 in
theorem bq4_140_3 (call : QC FA) (L : QH FA) (F : Nat) : xnG call 140 (F + 1) 10 [some (vR 12), some (vR 2)] [] L = xnG call 140 F 11 [some (vR 12), some (vR 2)] [vI 0] L := rfl
set_option maxRecDepth 100000 in
theorem bq4_140_4 (call : QC FA) (ls : List (Option PV)) (L : QH FA) (F : Nat) : xnG call 140 (F + 1) 11 ls [vI 0] L = some (some (vI 0), L) := rfl
set_option maxRecDepth 100000 in
theorem bq4_140_5 (call : QC FA) (z : Nat → Int32) (f : Nat → FA) (F : Nat) : xnG call 140 (F + 2) 3 [some (vR 12), some (vR 2)] [] (LW W z f) = xnG call 140 F 5 [some (vR 12), some (vR 2)] [vI (z 122)] (LW W z f) := rfl
set_option maxRecDepth 100000 in
theorem bq4_140_6 (call : QC FA) (x : Int32) (ls : List (Option PV)) (L : QH FA) (F : Nat) : xnG call 140 (F + 1) 5 ls [vI x] L = bif pcmp 2 x 0 then xnG call 140 F 10 ls [] L else xnG call 140 F 6 ls [] L := rfl
set_option maxRecDepth 100000 in
theorem bq4_140_7 (call : QC FA) (z : Nat → Int32) (f : Nat → FA) (F : Nat) : xnG call 140 (F + 3) 6 [some (vR 12), some (vR 2)] [] (LW W z f) = xnG call 140 F 9 [some (vR 12), some (vR 2)] [vI 6, vI (z 122)] (LW W z f) := rfl
set_option maxRecDepth 100000 in
theorem bq4_140_8 (call : QC FA) (x y : Int32) (ls : List (Option PV)) (L : QH FA) (F : Nat) : xnG call 140 (F + 1) 9 ls [vI y, vI x] L = bif pcmp 2 x y then xnG call 140 F 12 ls [] L else xnG call 140 F 10 ls [] L := rfl
set_option maxRecDepth 100000 in
theorem bq4_140_9 (call : QC FA) (z : Nat → Int32) (f : Nat → FA) (F : Nat) : xnG call 140 (F + 3) 12 [some (vR 12), some (vR 2)] [] (LW W z f) = xnG call 140 F 15 [some (vR 12), some (vR 2)] [vI (z 122), vR 12] (LW W z f) := rfl
set_option maxRecDepth 100000 in
theorem bq4_140_10 (call : QC FA) (x : Int32) (ls : List (Option PV)) (L : QH FA) (F : Nat) : xnG call 140 (F + 1) 15 ls [vI x, vR 12] L = bif pcmp 5 x 0 then xnG call 140 F 21 ls [vR 12] L else xnG call 140 F 16 ls [vR 12] L := rfl
set_option maxRecDepth 100000 in
theorem bq4_140_11 (call : QC FA) (z : Nat → Int32) (f : Nat → FA) (F : Nat) : xnG call 140 (F + 5) 16 [some (vR 12), some (vR 2)] [vR 12] (LW W z f) = xnG call 140 F 22 [some (vR 12), some (vR 2)] [vI ((z 122) - 1), vR 12] (LW W z f) := rfl
set_option maxRecDepth 100000 in
theorem bq4_140_12 (call : QC FA) (y : Int32) (ls : List (Option PV)) (z : Nat → Int32) (f : Nat → FA) (F : Nat) : xnG call 140 (F + 1) 22 ls [vI y, vR 12] (LW W z f) = xnG call 140 F 23 ls [] (LW W (uZ z 122 y) f) := rfl
set_option maxRecDepth 100000 in
theorem bq4_140_13 (call : QC FA) (z : Nat → Int32) (f : Nat → FA) (F : Nat) : xnG call 140 (F + 5) 23 [some (vR 12), some (vR 2)] [] (LW W z f) = xnG call 140 F 28 [some (vR 12), some (vR 2)] [vI ((z 123) - 1), vR 12] (LW W z f) := rfl
set_option maxRecDepth 100000 in
theorem bq4_140_14 (call : QC FA) (y : Int32) (ls : List (Option PV)) (z : Nat → Int32) (f : Nat → FA) (F : Nat) : xnG call 140 (F + 1) 28 ls [vI y, vR 12] (LW W z f) = xnG call 140 F 29 ls [] (LW W (uZ z 123 y) f) := rfl
set_option maxRecDepth 100000 in
theorem bq4_140_15 (call : QC FA) (z : Nat → Int32) (f : Nat → FA) (F : Nat) : xnG call 140 (F + 5) 29 [some (vR 12), some (vR 2)] [] (LW W z f) = xnG call 140 F 34 [some (vR 12), some (vR 2)] [vI (z 122), vR 13, vR 2] (LW W z f) := rfl
set_option maxRecDepth 100000 in
theorem bq4_140_16 (call : QC FA) (ls : List (Option PV)) (z : Nat → Int32) (f : Nat → FA) (F : Nat) : xnG call 140 (F + 1) 34 ls [vI 3, vR 13, vR 2] (LW W z f) = bif ((Nat.beq 1 1 || (Nat.beq 1 2 || Nat.beq 1 3)) && pin 3 6) then xnG call 140 F 35 ls [.inr (.inl (rgW (ix 3))), vR 2] (LW W z f) else none := rfl
set_option maxRecDepth 100000 in
theorem bq4_140_17 (call : QC FA) (ls : List (Option PV)) (z : Nat → Int32) (f : Nat → FA) (F : Nat) : xnG call 140 (F + 1) 35 ls [vR 23, vR 2] (LW W z f) = cbd (call 90 [vR 2, vR 23] (LW W z f)) (fun r L' => xnG call 140 F 36 ls (r.toList ++ []) L') := pcY (ih := xnG call 140 F) (call := call) (a := 90) (b := 1) (v := 0) (t := 36) (x := 2) (ls := ls) (As := [vR 23]) (st' := []) (L := LW W z f) rfl rfl rfl
set_option maxRecDepth 100000 in
theorem bq4_140_18 (call : QC FA) (L : QH FA) (F : Nat) : xnG call 140 (F + 1) 36 [some (vR 12), some (vR 2)] [] L = xnG call 140 F 37 [some (vR 12), some (vR 2)] [vI 1] L := rfl
set_option maxRecDepth 100000 in
theorem bq4_140_19 (call : QC FA) (ls : List (Option PV)) (L : QH FA) (F : Nat) : xnG call 140 (F + 1) 37 ls [vI 1] L = some (some (vI 1), L) := rfl
theorem vcq4_140_0 (call : QC FA) (z : Nat → Int32) (f : Nat → FA) (res : Option PV × QH FA) (H : ((z 123 = 0 → res = (some (vI 0), LW W (uZ z 122 4) f)) ∧ (¬ z 123 = 0 → (∃ (z1 : Nat → Int32) (f1 : Nat → FA), call 90 [vR 2, vR 23] (LW W (uZ (uZ (uZ z 122 4) 122 3) 123 ((z 123) - 1)) f) = some (none, LW W z1 f1) ∧ res = (some (vI 1), LW W z1 f1))))) : XC call (mP 140) 0 [some (vR 12), some (vR 2)] [] (LW W (uZ z 122 4) f) res := by
  refine xc_b (i' := 2) (ls' := [some (vR 12), some (vR 2)]) (st' := [vI (z 123)]) (L' := LW W (uZ z 122 4) f) 2 (bq4_140_1 call (uZ z 122 4) f) ?_
  refine xc_if (it := 10) (ie := 3) (ls' := [some (vR 12), some (vR 2)]) (st' := []) (bq4_140_2 call (z 123) _ _) (fun q1 => ?_) (fun q1 => ?_)
  · have H := H.1 (cI0t q1)
    refine xc_b (i' := 11) (ls' := [some (vR 12), some (vR 2)]) (st' := [vI 0]) (L' := LW W (uZ z 122 4) f) 1 (bq4_140_3 call _) ?_
    subst H
    exact xc_ret (bq4_140_4 call _ _)
  · have H := H.2 (cI0f q1)
    refine xc_b (i' := 5) (ls' := [some (vR 12), some (vR 2)]) (st' := [vI 4]) (L' := LW W (uZ z 122 4) f) 2 (bq4_140_5 call (uZ z 122 4) f) ?_
    refine xc_f (it := 10) (ie := 6) (ls' := [some (vR 12), some (vR 2)]) (st' := []) (bq4_140_6 call 4 _ _) (by decide) ?_
    refine xc_b (i' := 9) (ls' := [some (vR 12), some (vR 2)]) (st' := [vI 6, vI 4]) (L' := LW W (uZ z 122 4) f) 3 (bq4_140_7 call (uZ z 122 4) f) ?_
    refine xc_t (it := 12) (ie := 10) (ls' := [some (vR 12), some (vR 2)]) (st' := []) (bq4_140_8 call 4 6 _ _) (by decide) ?_
    refine xc_b (i' := 15) (ls' := [some (vR 12), some (vR 2)]) (st' := [vI 4, vR 12]) (L' := LW W (uZ z 122 4) f) 3 (bq4_140_9 call (uZ z 122 4) f) ?_
    refine xc_f (it := 21) (ie := 16) (ls' := [some (vR 12), some (vR 2)]) (st' := [vR 12]) (bq4_140_10 call 4 _ _) (by decide) ?_
    refine xc_b (i' := 22) (ls' := [some (vR 12), some (vR 2)]) (st' := [vI 3, vR 12]) (L' := LW W (uZ z 122 4) f) 5 (bq4_140_11 call (uZ z 122 4) f) ?_
    refine xc_b (i' := 23) (ls' := [some (vR 12), some (vR 2)]) (st' := []) (L' := LW W (uZ (uZ z 122 4) 122 3) f) 1 (bq4_140_12 call 3 _ (uZ z 122 4) f) ?_
    refine xc_b (i' := 28) (ls' := [some (vR 12), some (vR 2)]) (st' := [vI ((z 123) - 1), vR 12]) (L' := LW W (uZ (uZ z 122 4) 122 3) f) 5 (bq4_140_13 call (uZ (uZ z 122 4) 122 3) f) ?_
    refine xc_b (i' := 29) (ls' := [some (vR 12), some (vR 2)]) (st' := []) (L' := LW W (uZ (uZ (uZ z 122 4) 122 3) 123 ((z 123) - 1)) f) 1 (bq4_140_14 call ((z 123) - 1) _ (uZ (uZ z 122 4) 122 3) f) ?_
    refine xc_b (i' := 34) (ls' := [some (vR 12), some (vR 2)]) (st' := [vI 3, vR 13, vR 2]) (L' := LW W (uZ (uZ (uZ z 122 4) 122 3) 123 ((z 123) - 1)) f) 5 (bq4_140_15 call (uZ (uZ (uZ z 122 4) 122 3) 123 ((z 123) - 1)) f) ?_
    refine xc_g (i' := 35) (ls' := [some (vR 12), some (vR 2)]) (st' := [.inr (.inl (rgW (ix 3))), vR 2]) (L' := LW W (uZ (uZ (uZ z 122 4) 122 3) 123 ((z 123) - 1)) f) (bq4_140_16 call _ (uZ (uZ (uZ z 122 4) 122 3) 123 ((z 123) - 1)) f) (by decide) ?_
    show XC call (mP 140) 35 [some (vR 12), some (vR 2)] [vR 23, vR 2] (LW W (uZ (uZ (uZ z 122 4) 122 3) 123 ((z 123) - 1)) f) res
    obtain ⟨z1, f1, hc, H⟩ := H
    refine xc_call (t := 36) (ls' := [some (vR 12), some (vR 2)]) (st' := []) (bq4_140_17 call _ (uZ (uZ (uZ z 122 4) 122 3) 123 ((z 123) - 1)) f) hc ?_
    show XC call (mP 140) 36 [some (vR 12), some (vR 2)] [] (LW W z1 f1) res
    refine xc_b (i' := 37) (ls' := [some (vR 12), some (vR 2)]) (st' := [vI 1]) (L' := LW W z1 f1) 1 (bq4_140_18 call _) ?_
    subst H
    exact xc_ret (bq4_140_19 call _ _)
set_option maxRecDepth 100000 in
theorem bq5_141_1 (call : QC FA) (z : Nat → Int32) (f : Nat → FA) (F : Nat) : xnG call 141 (F + 2) 0 [some (vR 12), some (vR 2)] [] (LW W z f) = xnG call 141 F 2 [some (vR 12), some (vR 2)] [vI (z 122)] (LW W z f) := rfl
set_option maxRecDepth 100000 in
theorem bq5_141_2 (call : QC FA) (x : Int32) (ls : List (Option PV)) (L : QH FA) (F : Nat) : xnG call 141 (F + 1) 2 ls [vI x] L = bif pcmp 2 x 0 then xnG call 141 F 7 ls [] L else xnG call 141 F 3 ls [] L := rfl
set_option maxRecDepth 100000 in
theorem bq5_141_3 (call : QC FA) (z : Nat → Int32) (f : Nat → FA) (F : Nat) : xnG call 141 (F + 3) 3 [some (vR 12), some (vR 2)] [] (LW W z f) = xnG call 141 F 6 [some (vR 12), some (vR 2)] [vI 6, vI (z 122)] (LW W z f) := rfl
set_option maxRecDepth 100000 in
theorem bq5_141_4 (call : QC FA) (x y : Int32) (ls : List (Option PV)) (L : QH FA) (F : Nat) : xnG call 141 (F + 1) 6 ls [vI y, vI x] L = bif pcmp 2 x y then xnG call 141 F 8 ls [] L else xnG call 141 F 7 ls [] L := rfl
set_option maxRecDepth 100000 in
theorem bq5_141_5 (call : QC FA) (z : Nat → Int32) (f : Nat → FA) (F : Nat) : xnG call 141 (F + 4) 8 [some (vR 12), some (vR 2)] [] (LW W z f) = xnG call 141 F 12 [some (vR 12), some (vR 2)] [vI (z 122), vR 13] (LW W z f) := rfl
set_option maxRecDepth 100000 in
theorem bq5_141_6 (call : QC FA) (ls : List (Option PV)) (z : Nat → Int32) (f : Nat → FA) (F : Nat) : xnG call 141 (F + 1) 12 ls [vI 5, vR 13] (LW W z f) = bif ((Nat.beq 1 1 || (Nat.beq 1 2 || Nat.beq 1 3)) && pin 5 6) then xnG call 141 F 13 ls [.inr (.inl (rgW (ix 5)))] (LW W z f) else none := rfl
set_option maxRecDepth 100000 in
theorem bq5_141_7 (call : QC FA) (L : QH FA) (F : Nat) : xnG call 141 (F + 1) 13 [some (vR 12), some (vR 2)] [vR 29] L = xnG call 141 F 14 [some (vR 12), some (vR 2)] [vR 2, vR 29] L := rfl
set_option maxRecDepth 100000 in
theorem bq5_141_8 (call : QC FA) (ls : List (Option PV)) (z : Nat → Int32) (f : Nat → FA) (F : Nat) : xnG call 141 (F + 1) 14 ls [vR 2, vR 29] (LW W z f) = cbd (call 90 [vR 29, vR 2] (LW W z f)) (fun r L' => xnG call 141 F 15 ls (r.toList ++ []) L') := pcY (ih := xnG call 141 F) (call := call) (a := 90) (b := 1) (v := 0) (t := 15) (x := 29) (ls := ls) (As := [vR 2]) (st' := []) (L := LW W z f) rfl rfl rfl
set_option maxRecDepth 100000 in
theorem bq5_141_9 (call : QC FA) (z : Nat → Int32) (f : Nat → FA) (F : Nat) : xnG call 141 (F + 6) 15 [some (vR 12), some (vR 2)] [] (LW W z f) = xnG call 141 F 21 [some (vR 12), some (vR 2)] [vI 6, vI ((z 122) + 1), vR 12] (LW W z f) := rfl
set_option maxRecDepth 100000 in
theorem bq5_141_10 (call : QC FA) (x y : Int32) (ls : List (Option PV)) (L : QH FA) (F : Nat) : xnG call 141 (F + 1) 21 ls [vI y, vI x, vR 12] L = bif pcmp 3 x y then xnG call 141 F 27 ls [vR 12] L else xnG call 141 F 22 ls [vR 12] L := rfl
set_option maxRecDepth 100000 in
theorem bq5_141_11 (call : QC FA) (L : QH FA) (F : Nat) : xnG call 141 (F + 1) 27 [some (vR 12), some (vR 2)] [vR 12] L = xnG call 141 F 28 [some (vR 12), some (vR 2)] [vI 0, vR 12] L := rfl
set_option maxRecDepth 100000 in
theorem bq5_141_12 (call : QC FA) (y : Int32) (ls : List (Option PV)) (z : Nat → Int32) (f : Nat → FA) (F : Nat) : xnG call 141 (F + 1) 28 ls [vI y, vR 12] (LW W z f) = xnG call 141 F 29 ls [] (LW W (uZ z 122 y) f) := rfl
set_option maxRecDepth 100000 in
theorem bq5_141_13 (call : QC FA) (z : Nat → Int32) (f : Nat → FA) (F : Nat) : xnG call 141 (F + 6) 29 [some (vR 12), some (vR 2)] [] (LW W z f) = xnG call 141 F 35 [some (vR 12), some (vR 2)] [vI 6, vI ((z 123) + 1), vR 12] (LW W z f) := rfl
set_option maxRecDepth 100000 in
theorem bq5_141_14 (call : QC FA) (x y : Int32) (ls : List (Option PV)) (L : QH FA) (F : Nat) : xnG call 141 (F + 1) 35 ls [vI y, vI x, vR 12] L = bif pcmp 2 y x then xnG call 141 F 36 ls [vI y, vR 12] L else xnG call 141 F 36 ls [vI x, vR 12] L := pmn (xnG call 141 F) 36 x y ls [vR 12] L rfl
set_option maxRecDepth 100000 in
theorem bq5_141_15 (call : QC FA) (y : Int32) (ls : List (Option PV)) (z : Nat → Int32) (f : Nat → FA) (F : Nat) : xnG call 141 (F + 1) 36 ls [vI y, vR 12] (LW W z f) = xnG call 141 F 37 ls [] (LW W (uZ z 123 y) f) := rfl
set_option maxRecDepth 100000 in
theorem bq5_141_16 (call : QC FA) (ls : List (Option PV)) (L : QH FA) (F : Nat) : xnG call 141 (F + 1) 37 ls [] L = some (none, L) := rfl
set_option maxRecDepth 100000 in
theorem bq5_141_17 (call : QC FA) (z : Nat → Int32) (f : Nat → FA) (F : Nat) : xnG call 141 (F + 5) 22 [some (vR 12), some (vR 2)] [vR 12] (LW W z f) = xnG call 141 F 28 [some (vR 12), some (vR 2)] [vI ((z 122) + 1), vR 12] (LW W z f) := rfl
theorem vcq5_141_0 (call : QC FA) (z : Nat → Int32) (f : Nat → FA) (res : Option PV × QH FA) (H : (∃ (z1 : Nat → Int32) (f1 : Nat → FA), call 90 [vR 29, vR 2] (LW W (uZ z 122 5) f) = some (none, LW W z1 f1) ∧ ((6 ≤ I ((z1 122) + 1) → ((6 < I ((z1 123) + 1) → res = (none, LW W (uZ (uZ z1 122 0) 123 6) f1)) ∧ (I ((z1 123) + 1) ≤ 6 → res = (none, LW W (uZ (uZ z1 122 0) 123 ((z1 123) + 1)) f1)))) ∧ (I ((z1 122) + 1) < 6 → ((6 < I ((z1 123) + 1) → res = (none, LW W (uZ (uZ z1 122 ((z1 122) + 1)) 123 6) f1)) ∧ (I ((z1 123) + 1) ≤ 6 → res = (none, LW W (uZ (uZ z1 122 ((z1 122) + 1)) 123 ((z1 123) + 1)) f1))))))) : XC call (mP 141) 0 [some (vR 12), some (vR 2)] [] (LW W (uZ z 122 5) f) res := by
  refine xc_b (i' := 2) (ls' := [some (vR 12), some (vR 2)]) (st' := [vI 5]) (L' := LW W (uZ z 122 5) f) 2 (bq5_141_1 call (uZ z 122 5) f) ?_
  refine xc_f (it := 7) (ie := 3) (ls' := [some (vR 12), some (vR 2)]) (st' := []) (bq5_141_2 call 5 _ _) (by decide) ?_
  refine xc_b (i' := 6) (ls' := [some (vR 12), some (vR 2)]) (st' := [vI 6, vI 5]) (L' := LW W (uZ z 122 5) f) 3 (bq5_141_3 call (uZ z 122 5) f) ?_
  refine xc_t (it := 8) (ie := 7) (ls' := [some (vR 12), some (vR 2)]) (st' := []) (bq5_141_4 call 5 6 _ _) (by decide) ?_
  refine xc_b (i' := 12) (ls' := [some (vR 12), some (vR 2)]) (st' := [vI 5, vR 13]) (L' := LW W (uZ z 122 5) f) 4 (bq5_141_5 call (uZ z 122 5) f) ?_
  refine xc_g (i' := 13) (ls' := [some (vR 12), some (vR 2)]) (st' := [.inr (.inl (rgW (ix 5)))]) (L' := LW W (uZ z 122 5) f) (bq5_141_6 call _ (uZ z 122 5) f) (by decide) ?_
  show XC call (mP 141) 13 [some (vR 12), some (vR 2)] [vR 29] (LW W (uZ z 122 5) f) res
  refine xc_b (i' := 14) (ls' := [some (vR 12), some (vR 2)]) (st' := [vR 2, vR 29]) (L' := LW W (uZ z 122 5) f) 1 (bq5_141_7 call _) ?_
  obtain ⟨z1, f1, hc, H⟩ := H
  refine xc_call (t := 15) (ls' := [some (vR 12), some (vR 2)]) (st' := []) (bq5_141_8 call _ (uZ z 122 5) f) hc ?_
  show XC call (mP 141) 15 [some (vR 12), some (vR 2)] [] (LW W z1 f1) res
  refine xc_b (i' := 21) (ls' := [some (vR 12), some (vR 2)]) (st' := [vI 6, vI ((z1 122) + 1), vR 12]) (L' := LW W z1 f1) 6 (bq5_141_9 call z1 f1) ?_
  refine xc_if (it := 27) (ie := 22) (ls' := [some (vR 12), some (vR 2)]) (st' := [vR 12]) (bq5_141_10 call ((z1 122) + 1) 6 _ _) (fun q1 => ?_) (fun q1 => ?_)
  · have H := H.1 (cI3t q1 rfl rfl)
    refine xc_b (i' := 28) (ls' := [some (vR 12), some (vR 2)]) (st' := [vI 0, vR 12]) (L' := LW W z1 f1) 1 (bq5_141_11 call _) ?_
    refine xc_b (i' := 29) (ls' := [some (vR 12), some (vR 2)]) (st' := []) (L' := LW W (uZ z1 122 0) f1) 1 (bq5_141_12 call 0 _ z1 f1) ?_
    refine xc_b (i' := 35) (ls' := [some (vR 12), some (vR 2)]) (st' := [vI 6, vI ((z1 123) + 1), vR 12]) (L' := LW W (uZ z1 122 0) f1) 6 (bq5_141_13 call (uZ z1 122 0) f1) ?_
    refine xc_if2 (it := 36) (ie := 36) (ls' := [some (vR 12), some (vR 2)]) (st1 := [vI 6, vR 12]) (st2 := [vI ((z1 123) + 1), vR 12]) (bq5_141_14 call ((z1 123) + 1) 6 _ _) (fun q2 => ?_) (fun q2 => ?_)
    · have H := H.1 (cI2t q2 rfl rfl)
      refine xc_b (i' := 37) (ls' := [some (vR 12), some (vR 2)]) (st' := []) (L' := LW W (uZ (uZ z1 122 0) 123 6) f1) 1 (bq5_141_15 call 6 _ (uZ z1 122 0) f1) ?_
      subst H
      exact xc_ret (bq5_141_16 call _ _)
    · have H := H.2 (cI2f q2 rfl rfl)
      refine xc_b (i' := 37) (ls' := [some (vR 12), some (vR 2)]) (st' := []) (L' := LW W (uZ (uZ z1 122 0) 123 ((z1 123) + 1)) f1) 1 (bq5_141_15 call ((z1 123) + 1) _ (uZ z1 122 0) f1) ?_
      subst H
      exact xc_ret (bq5_141_16 call _ _)
  · have H := H.2 (cI3f q1 rfl rfl)
    refine xc_b (i' := 28) (ls' := [some (vR 12), some (vR 2)]) (st' := [vI ((z1 122) + 1), vR 12]) (L' := LW W z1 f1) 5 (bq5_141_17 call z1 f1) ?_
    refine xc_b (i' := 29) (ls' := [some (vR 12), some (vR 2)]) (st' := []) (L' := LW W (uZ z1 122 ((z1 122) + 1)) f1) 1 (bq5_141_12 call ((z1 122) + 1) _ z1 f1) ?_
    refine xc_b (i' := 35) (ls' := [some (vR 12), some (vR 2)]) (st' := [vI 6, vI ((z1 123) + 1), vR 12]) (L' := LW W (uZ z1 122 ((z1 122) + 1)) f1) 6 (bq5_141_13 call (uZ z1 122 ((z1 122) + 1)) f1) ?_
    refine xc_if2 (it := 36) (ie := 36) (ls' := [some (vR 12), some (vR 2)]) (st1 := [vI 6, vR 12]) (st2 := [vI ((z1 123) + 1), vR 12]) (bq5_141_14 call ((z1 123) + 1) 6 _ _) (fun q3 => ?_) (fun q3 => ?_)
    · have H := H.1 (cI2t q3 rfl rfl)
      refine xc_b (i' := 37) (ls' := [some (vR 12), some (vR 2)]) (st' := []) (L' := LW W (uZ (uZ z1 122 ((z1 122) + 1)) 123 6) f1) 1 (bq5_141_15 call 6 _ (uZ z1 122 ((z1 122) + 1)) f1) ?_
      subst H
      exact xc_ret (bq5_141_16 call _ _)
    · have H := H.2 (cI2f q3 rfl rfl)
      refine xc_b (i' := 37) (ls' := [some (vR 12), some (vR 2)]) (st' := []) (L' := LW W (uZ (uZ z1 122 ((z1 122) + 1)) 123 ((z1 123) + 1)) f1) 1 (bq5_141_15 call ((z1 123) + 1) _ (uZ z1 122 ((z1 122) + 1)) f1) ?_
      subst H
      exact xc_ret (bq5_141_16 call _ _)
set_option maxRecDepth 100000 in
theorem bq5_140_1 (call : QC FA) (z : Nat → Int32) (f : Nat → FA) (F : Nat) : xnG call 140 (F + 2) 0 [some (vR 12), some (vR 2)] [] (LW W z f) = xnG call 140 F 2 [some (vR 12), some (vR 2)] [vI (z 123)] (LW W z f) := rfl
set_option maxRecDepth 100000 in
theorem bq5_140_2 (call : QC FA) (x : Int32) (ls : List (Option PV)) (L : QH FA) (F : Nat) : xnG call 140 (F + 1) 2 ls [vI x] L = bif pcmp 0 x 0 then xnG call 140 F 10 ls [] L else xnG call 140 F 3 ls [] L := rfl
set_option maxRecDepth 100000 in
theorem bq5_140_3 (call : QC FA) (L : QH FA) (F : Nat) : xnG call 140 (F + 1) 10 [some (vR 12), some (vR 2)] [] L = xnG call 140 F 11 [some (vR 12), some (vR 2)] [vI 0] L := rfl
set_option maxRecDepth 100000 in
theorem bq5_140_4 (call : QC FA) (ls : List (Option PV)) (L : QH FA) (F : Nat) : xnG call 140 (F + 1) 11 ls [vI 0] L = some (some (vI 0), L) := rfl
set_option maxRecDepth 100000 in
theorem bq5_140_5 (call : QC FA) (z : Nat → Int32) (f : Nat → FA) (F : Nat) : xnG call 140 (F + 2) 3 [some (vR 12), some (vR 2)] [] (LW W z f) = xnG call 140 F 5 [some (vR 12), some (vR 2)] [vI (z 122)] (LW W z f) := rfl
set_option maxRecDepth 100000 in
theorem bq5_140_6 (call : QC FA) (x : Int32) (ls : List (Option PV)) (L : QH FA) (F : Nat) : xnG call 140 (F + 1) 5 ls [vI x] L = bif pcmp 2 x 0 then xnG call 140 F 10 ls [] L else xnG call 140 F 6 ls [] L := rfl
set_option maxRecDepth 100000 in
theorem bq5_140_7 (call : QC FA) (z : Nat → Int32) (f : Nat → FA) (F : Nat) : xnG call 140 (F + 3) 6 [some (vR 12), some (vR 2)] [] (LW W z f) = xnG call 140 F 9 [some (vR 12), some (vR 2)] [vI 6, vI (z 122)] (LW W z f) := rfl
set_option maxRecDepth 100000 in
theorem bq5_140_8 (call : QC FA) (x y : Int32) (ls : List (Option PV)) (L : QH FA) (F : Nat) : xnG call 140 (F + 1) 9 ls [vI y, vI x] L = bif pcmp 2 x y then xnG call 140 F 12 ls [] L else xnG call 140 F 10 ls [] L := rfl
set_option maxRecDepth 100000 in
theorem bq5_140_9 (call : QC FA) (z : Nat → Int32) (f : Nat → FA) (F : Nat) : xnG call 140 (F + 3) 12 [some (vR 12), some (vR 2)] [] (LW W z f) = xnG call 140 F 15 [some (vR 12), some (vR 2)] [vI (z 122), vR 12] (LW W z f) := rfl
set_option maxRecDepth 100000 in
theorem bq5_140_10 (call : QC FA) (x : Int32) (ls : List (Option PV)) (L : QH FA) (F : Nat) : xnG call 140 (F + 1) 15 ls [vI x, vR 12] L = bif pcmp 5 x 0 then xnG call 140 F 21 ls [vR 12] L else xnG call 140 F 16 ls [vR 12] L := rfl
set_option maxRecDepth 100000 in
theorem bq5_140_11 (call : QC FA) (z : Nat → Int32) (f : Nat → FA) (F : Nat) : xnG call 140 (F + 5) 16 [some (vR 12), some (vR 2)] [vR 12] (LW W z f) = xnG call 140 F 22 [some (vR 12), some (vR 2)] [vI ((z 122) - 1), vR 12] (LW W z f) := rfl
set_option maxRecDepth 100000 in
theorem bq5_140_12 (call : QC FA) (y : Int32) (ls : List (Option PV)) (z : Nat → Int32) (f : Nat → FA) (F : Nat) : xnG call 140 (F + 1) 22 ls [vI y, vR 12] (LW W z f) = xnG call 140 F 23 ls [] (LW W (uZ z 122 y) f) := rfl
set_option maxRecDepth 100000 in
theorem bq5_140_13 (call : QC FA) (z : Nat → Int32) (f : Nat → FA) (F : Nat) : xnG call 140 (F + 5) 23 [some (vR 12), some (vR 2)] [] (LW W z f) = xnG call 140 F 28 [some (vR 12), some (vR 2)] [vI ((z 123) - 1), vR 12] (LW W z f) := rfl
set_option maxRecDepth 100000 in
theorem bq5_140_14 (call : QC FA) (y : Int32) (ls : List (Option PV)) (z : Nat → Int32) (f : Nat → FA) (F : Nat) : xnG call 140 (F + 1) 28 ls [vI y, vR 12] (LW W z f) = xnG call 140 F 29 ls [] (LW W (uZ z 123 y) f) := rfl
set_option maxRecDepth 100000 in
theorem bq5_140_15 (call : QC FA) (z : Nat → Int32) (f : Nat → FA) (F : Nat) : xnG call 140 (F + 5) 29 [some (vR 12), some (vR 2)] [] (LW W z f) = xnG call 140 F 34 [some (vR 12), some (vR 2)] [vI (z 122), vR 13, vR 2] (LW W z f) := rfl
set_option maxRecDepth 100000 in
theorem bq5_140_16 (call : QC FA) (ls : List (Option PV)) (z : Nat → Int32) (f : Nat → FA) (F : Nat) : xnG call 140 (F + 1) 34 ls [vI 4, vR 13, vR 2] (LW W z f) = bif ((Nat.beq 1 1 || (Nat.beq 1 2 || Nat.beq 1 3)) && pin 4 6) then xnG call 140 F 35 ls [.inr (.inl (rgW (ix 4))), vR 2] (LW W z f) else none := rfl
set_option maxRecDepth 100000 in
theorem bq5_140_17 (call : QC FA) (ls : List (Option PV)) (z : Nat → Int32) (f : Nat → FA) (F : Nat) : xnG call 140 (F + 1) 35 ls [vR 26, vR 2] (LW W z f) = cbd (call 90 [vR 2, vR 26] (LW W z f)) (fun r L' => xnG call 140 F 36 ls (r.toList ++ []) L') := pcY (ih := xnG call 140 F) (call := call) (a := 90) (b := 1) (v := 0) (t := 36) (x := 2) (ls := ls) (As := [vR 26]) (st' := []) (L := LW W z f) rfl rfl rfl
set_option maxRecDepth 100000 in
theorem bq5_140_18 (call : QC FA) (L : QH FA) (F : Nat) : xnG call 140 (F + 1) 36 [some (vR 12), some (vR 2)] [] L = xnG call 140 F 37 [some (vR 12), some (vR 2)] [vI 1] L := rfl
set_option maxRecDepth 100000 in
theorem bq5_140_19 (call : QC FA) (ls : List (Option PV)) (L : QH FA) (F : Nat) : xnG call 140 (F + 1) 37 ls [vI 1] L = some (some (vI 1), L) := rfl
theorem vcq5_140_0 (call : QC FA) (z : Nat → Int32) (f : Nat → FA) (res : Option PV × QH FA) (H : ((z 123 = 0 → res = (some (vI 0), LW W (uZ z 122 5) f)) ∧ (¬ z 123 = 0 → (∃ (z1 : Nat → Int32) (f1 : Nat → FA), call 90 [vR 2, vR 26] (LW W (uZ (uZ (uZ z 122 5) 122 4) 123 ((z 123) - 1)) f) = some (none, LW W z1 f1) ∧ res = (some (vI 1), LW W z1 f1))))) : XC call (mP 140) 0 [some (vR 12), some (vR 2)] [] (LW W (uZ z 122 5) f) res := by
  refine xc_b (i' := 2) (ls' := [some (vR 12), some (vR 2)]) (st' := [vI (z 123)]) (L' := LW W (uZ z 122 5) f) 2 (bq5_140_1 call (uZ z 122 5) f) ?_
  refine xc_if (it := 10) (ie := 3) (ls' := [some (vR 12), some (vR 2)]) (st' := []) (bq5_140_2 call (z 123) _ _) (fun q1 => ?_) (fun q1 => ?_)
  · have H := H.1 (cI0t q1)
    refine xc_b (i' := 11) (ls' := [some (vR 12), some (vR 2)]) (st' := [vI 0]) (L' := LW W (uZ z 122 5) f) 1 (bq5_140_3 call _) ?_
    subst H
    exact xc_ret (bq5_140_4 call _ _)
  · have H := H.2 (cI0f q1)
    refine xc_b (i' := 5) (ls' := [some (vR 12), some (vR 2)]) (st' := [vI 5]) (L' := LW W (uZ z 122 5) f) 2 (bq5_140_5 call (uZ z 122 5) f) ?_
    refine xc_f (it := 10) (ie := 6) (ls' := [some (vR 12), some (vR 2)]) (st' := []) (bq5_140_6 call 5 _ _) (by decide) ?_
    refine xc_b (i' := 9) (ls' := [some (vR 12), some (vR 2)]) (st' := [vI 6, vI 5]) (L' := LW W (uZ z 122 5) f) 3 (bq5_140_7 call (uZ z 122 5) f) ?_
    refine xc_t (it := 12) (ie := 10) (ls' := [some (vR 12), some (vR 2)]) (st' := []) (bq5_140_8 call 5 6 _ _) (by decide) ?_
    refine xc_b (i' := 15) (ls' := [some (vR 12), some (vR 2)]) (st' := [vI 5, vR 12]) (L' := LW W (uZ z 122 5) f) 3 (bq5_140_9 call (uZ z 122 5) f) ?_
    refine xc_f (it := 21) (ie := 16) (ls' := [some (vR 12), some (vR 2)]) (st' := [vR 12]) (bq5_140_10 call 5 _ _) (by decide) ?_
    refine xc_b (i' := 22) (ls' := [some (vR 12), some (vR 2)]) (st' := [vI 4, vR 12]) (L' := LW W (uZ z 122 5) f) 5 (bq5_140_11 call (uZ z 122 5) f) ?_
    refine xc_b (i' := 23) (ls' := [some (vR 12), some (vR 2)]) (st' := []) (L' := LW W (uZ (uZ z 122 5) 122 4) f) 1 (bq5_140_12 call 4 _ (uZ z 122 5) f) ?_
    refine xc_b (i' := 28) (ls' := [some (vR 12), some (vR 2)]) (st' := [vI ((z 123) - 1), vR 12]) (L' := LW W (uZ (uZ z 122 5) 122 4) f) 5 (bq5_140_13 call (uZ (uZ z 122 5) 122 4) f) ?_
    refine xc_b (i' := 29) (ls' := [some (vR 12), some (vR 2)]) (st' := []) (L' := LW W (uZ (uZ (uZ z 122 5) 122 4) 123 ((z 123) - 1)) f) 1 (bq5_140_14 call ((z 123) - 1) _ (uZ (uZ z 122 5) 122 4) f) ?_
    refine xc_b (i' := 34) (ls' := [some (vR 12), some (vR 2)]) (st' := [vI 4, vR 13, vR 2]) (L' := LW W (uZ (uZ (uZ z 122 5) 122 4) 123 ((z 123) - 1)) f) 5 (bq5_140_15 call (uZ (uZ (uZ z 122 5) 122 4) 123 ((z 123) - 1)) f) ?_
    refine xc_g (i' := 35) (ls' := [some (vR 12), some (vR 2)]) (st' := [.inr (.inl (rgW (ix 4))), vR 2]) (L' := LW W (uZ (uZ (uZ z 122 5) 122 4) 123 ((z 123) - 1)) f) (bq5_140_16 call _ (uZ (uZ (uZ z 122 5) 122 4) 123 ((z 123) - 1)) f) (by decide) ?_
    show XC call (mP 140) 35 [some (vR 12), some (vR 2)] [vR 26, vR 2] (LW W (uZ (uZ (uZ z 122 5) 122 4) 123 ((z 123) - 1)) f) res
    obtain ⟨z1, f1, hc, H⟩ := H
    refine xc_call (t := 36) (ls' := [some (vR 12), some (vR 2)]) (st' := []) (bq5_140_17 call _ (uZ (uZ (uZ z 122 5) 122 4) 123 ((z 123) - 1)) f) hc ?_
    show XC call (mP 140) 36 [some (vR 12), some (vR 2)] [] (LW W z1 f1) res
    refine xc_b (i' := 37) (ls' := [some (vR 12), some (vR 2)]) (st' := [vI 1]) (L' := LW W z1 f1) 1 (bq5_140_18 call _) ?_
    subst H
    exact xc_ret (bq5_140_19 call _ _)
set_option maxRecDepth 100000 in
theorem b139_1 (call : QC FA) (L : QH FA) (F : Nat) : xnG call 139 (F + 2) 0 [some (vR 12)] [] L = xnG call 139 F 2 [some (vR 12)] [vI 0, vR 12] L := rfl
set_option maxRecDepth 100000 in
theorem b139_2 (call : QC FA) (y : Int32) (ls : List (Option PV)) (z : Nat → Int32) (f : Nat → FA) (F : Nat) : xnG call 139 (F + 1) 2 ls [vI y, vR 12] (LW W z f) = xnG call 139 F 3 ls [] (LW W (uZ z 123 y) f) := rfl
set_option maxRecDepth 100000 in
theorem b139_3 (call : QC FA) (ls : List (Option PV)) (L : QH FA) (F : Nat) : xnG call 139 (F + 1) 3 ls [] L = some (none, L) := rfl
theorem vc139_0 (call : QC FA) (z : Nat → Int32) (f : Nat → FA) (res : Option PV × QH FA) (H : res = (none, LW W (uZ z 123 0) f)) : XC call (mP 139) 0 [some (vR 12)] [] (LW W z f) res := by
  refine xc_b (i' := 2) (ls' := [some (vR 12)]) (st' := [vI 0, vR 12]) (L' := LW W z f) 2 (b139_1 call _) ?_
  refine xc_b (i' := 3) (ls' := [some (vR 12)]) (st' := []) (L' := LW W (uZ z 123 0) f) 1 (b139_2 call 0 _ z f) ?_
  subst H
  exact xc_ret (b139_3 call _ _)
set_option maxRecDepth 100000 in
theorem b90_1 (call : QC FA) (z : Nat → Int32) (f : Nat → FA) (F : Nat) : xnG call 90 (F + 7) 0 [some (vR 2), some (vR 14)] [] (LW W z f) = xnG call 90 F 7 [some (vR 2), some (vR 14)] [vI 120, vI 0, vR 3, vI 0, vR 15] (LW W z f) := rfl
set_option maxRecDepth 100000 in
theorem b90_2 (call : QC FA) (ls : List (Option PV)) (z : Nat → Int32) (f : Nat → FA) (F : Nat) : xnG call 90 (F + 1) 7 ls [vI 120, vI 0, vR 3, vI 0, vR 15] (LW W z f) = bif (Nat.beq 0 0 && (Nat.beq 0 0 && (pcmp 3 0 0 && (pcmp 3 0 0 && (pcmp 3 120 0 && (Nat.ble (ix 0 + ix 120) 120 && (Nat.ble (ix 0 + ix 120) 120 && Nat.ble 0 8))))))) then xnG call 90 F 8 ls [] (LW W z (uA f 3 (va_cpy (f 15) (f 3) (ix 0) (ix 0) (ix 120)))) else none := rfl
set_option maxRecDepth 100000 in
theorem b90_3 (call : QC FA) (z : Nat → Int32) (f : Nat → FA) (F : Nat) : xnG call 90 (F + 7) 8 [some (vR 2), some (vR 14)] [] (LW W z f) = xnG call 90 F 15 [some (vR 2), some (vR 14)] [vI 144, vI 0, vR 4, vI 0, vR 16] (LW W z f) := rfl
set_option maxRecDepth 100000 in
theorem b90_4 (call : QC FA) (ls : List (Option PV)) (z : Nat → Int32) (f : Nat → FA) (F : Nat) : xnG call 90 (F + 1) 15 ls [vI 144, vI 0, vR 4, vI 0, vR 16] (LW W z f) = bif (Nat.beq 0 0 && (Nat.beq 0 0 && (pcmp 3 0 0 && (pcmp 3 0 0 && (pcmp 3 144 0 && (Nat.ble (ix 0 + ix 144) 144 && (Nat.ble (ix 0 + ix 144) 144 && Nat.ble 0 8))))))) then xnG call 90 F 16 ls [] (LW W z (uA f 4 (va_cpy (f 16) (f 4) (ix 0) (ix 0) (ix 144)))) else none := rfl
set_option maxRecDepth 100000 in
theorem b90_5 (call : QC FA) (z : Nat → Int32) (f : Nat → FA) (F : Nat) : xnG call 90 (F + 3) 16 [some (vR 2), some (vR 14)] [] (LW W z f) = xnG call 90 F 19 [some (vR 2), some (vR 14)] [vI (z 142), vR 2] (LW W z f) := rfl
set_option maxRecDepth 100000 in
theorem b90_6 (call : QC FA) (y : Int32) (ls : List (Option PV)) (z : Nat → Int32) (f : Nat → FA) (F : Nat) : xnG call 90 (F + 1) 19 ls [vI y, vR 2] (LW W z f) = xnG call 90 F 20 ls [] (LW W (uZ z 22 y) f) := rfl
set_option maxRecDepth 100000 in
theorem b90_7 (call : QC FA) (z : Nat → Int32) (f : Nat → FA) (F : Nat) : xnG call 90 (F + 3) 20 [some (vR 2), some (vR 14)] [] (LW W z f) = xnG call 90 F 23 [some (vR 2), some (vR 14)] [vI (z 143), vR 2] (LW W z f) := rfl
set_option maxRecDepth 100000 in
theorem b90_8 (call : QC FA) (y : Int32) (ls : List (Option PV)) (z : Nat → Int32) (f : Nat → FA) (F : Nat) : xnG call 90 (F + 1) 23 ls [vI y, vR 2] (LW W z f) = xnG call 90 F 24 ls [] (LW W (uZ z 23 y) f) := rfl
set_option maxRecDepth 100000 in
theorem b90_9 (call : QC FA) (z : Nat → Int32) (f : Nat → FA) (F : Nat) : xnG call 90 (F + 3) 24 [some (vR 2), some (vR 14)] [] (LW W z f) = xnG call 90 F 27 [some (vR 2), some (vR 14)] [vI (z 144), vR 2] (LW W z f) := rfl
set_option maxRecDepth 100000 in
theorem b90_10 (call : QC FA) (y : Int32) (ls : List (Option PV)) (z : Nat → Int32) (f : Nat → FA) (F : Nat) : xnG call 90 (F + 1) 27 ls [vI y, vR 2] (LW W z f) = xnG call 90 F 28 ls [] (LW W (uZ z 24 y) f) := rfl
set_option maxRecDepth 100000 in
theorem b90_11 (call : QC FA) (z : Nat → Int32) (f : Nat → FA) (F : Nat) : xnG call 90 (F + 3) 28 [some (vR 2), some (vR 14)] [] (LW W z f) = xnG call 90 F 31 [some (vR 2), some (vR 14)] [vI (z 145), vR 2] (LW W z f) := rfl
set_option maxRecDepth 100000 in
theorem b90_12 (call : QC FA) (y : Int32) (ls : List (Option PV)) (z : Nat → Int32) (f : Nat → FA) (F : Nat) : xnG call 90 (F + 1) 31 ls [vI y, vR 2] (LW W z f) = xnG call 90 F 32 ls [] (LW W (uZ z 25 y) f) := rfl
set_option maxRecDepth 100000 in
theorem b90_13 (call : QC FA) (z : Nat → Int32) (f : Nat → FA) (F : Nat) : xnG call 90 (F + 3) 32 [some (vR 2), some (vR 14)] [] (LW W z f) = xnG call 90 F 35 [some (vR 2), some (vR 14)] [vI (z 146), vR 2] (LW W z f) := rfl
set_option maxRecDepth 100000 in
theorem b90_14 (call : QC FA) (y : Int32) (ls : List (Option PV)) (z : Nat → Int32) (f : Nat → FA) (F : Nat) : xnG call 90 (F + 1) 35 ls [vI y, vR 2] (LW W z f) = xnG call 90 F 36 ls [] (LW W (uZ z 26 y) f) := rfl
set_option maxRecDepth 100000 in
theorem b90_15 (call : QC FA) (z : Nat → Int32) (f : Nat → FA) (F : Nat) : xnG call 90 (F + 3) 36 [some (vR 2), some (vR 14)] [] (LW W z f) = xnG call 90 F 39 [some (vR 2), some (vR 14)] [vI (z 147), vR 2] (LW W z f) := rfl
set_option maxRecDepth 100000 in
theorem b90_16 (call : QC FA) (y : Int32) (ls : List (Option PV)) (z : Nat → Int32) (f : Nat → FA) (F : Nat) : xnG call 90 (F + 1) 39 ls [vI y, vR 2] (LW W z f) = xnG call 90 F 40 ls [] (LW W (uZ z 27 y) f) := rfl
set_option maxRecDepth 100000 in
theorem b90_17 (call : QC FA) (z : Nat → Int32) (f : Nat → FA) (F : Nat) : xnG call 90 (F + 3) 40 [some (vR 2), some (vR 14)] [] (LW W z f) = xnG call 90 F 43 [some (vR 2), some (vR 14)] [vI (z 148), vR 2] (LW W z f) := rfl
set_option maxRecDepth 100000 in
theorem b90_18 (call : QC FA) (y : Int32) (ls : List (Option PV)) (z : Nat → Int32) (f : Nat → FA) (F : Nat) : xnG call 90 (F + 1) 43 ls [vI y, vR 2] (LW W z f) = xnG call 90 F 44 ls [] (LW W (uZ z 28 y) f) := rfl
set_option maxRecDepth 100000 in
theorem b90_19 (call : QC FA) (z : Nat → Int32) (f : Nat → FA) (F : Nat) : xnG call 90 (F + 3) 44 [some (vR 2), some (vR 14)] [] (LW W z f) = xnG call 90 F 47 [some (vR 2), some (vR 14)] [vI (z 149), vR 2] (LW W z f) := rfl
set_option maxRecDepth 100000 in
theorem b90_20 (call : QC FA) (y : Int32) (ls : List (Option PV)) (z : Nat → Int32) (f : Nat → FA) (F : Nat) : xnG call 90 (F + 1) 47 ls [vI y, vR 2] (LW W z f) = xnG call 90 F 48 ls [] (LW W (uZ z 29 y) f) := rfl
set_option maxRecDepth 100000 in
theorem b90_21 (call : QC FA) (ls : List (Option PV)) (L : QH FA) (F : Nat) : xnG call 90 (F + 1) 48 ls [] L = some (none, L) := rfl
theorem vc90_0 (call : QC FA) (z : Nat → Int32) (f : Nat → FA) (res : Option PV × QH FA) (H : res = (none, LW W (uZ (uZ (uZ (uZ (uZ (uZ (uZ (uZ z 22 (z 142)) 23 (z 143)) 24 (z 144)) 25 (z 145)) 26 (z 146)) 27 (z 147)) 28 (z 148)) 29 (z 149)) (uA (uA f 3 (cpW (f 15) (f 3) 120)) 4 (cpW (f 16) (f 4) 144)))) : XC call (mP 90) 0 [some (vR 2), some (vR 14)] [] (LW W z f) res := by
  refine xc_b (i' := 7) (ls' := [some (vR 2), some (vR 14)]) (st' := [vI 120, vI 0, vR 3, vI 0, vR 15]) (L' := LW W z f) 7 (b90_1 call z f) ?_
  refine xc_g (i' := 8) (ls' := [some (vR 2), some (vR 14)]) (st' := []) (L' := LW W z (uA f 3 (va_cpy (f 15) (f 3) (ix 0) (ix 0) (ix 120)))) (b90_2 call _ z f) (by decide) ?_
  rw [cpW_e (f := f 15) (g := f 3) (a := 0) (b := 0) (n := 120) (N := 120) (by decide) (by decide) (by decide)]
  show XC call (mP 90) 8 [some (vR 2), some (vR 14)] [] (LW W z (uA f 3 (cpW (f 15) (f 3) 120))) res
  refine xc_b (i' := 15) (ls' := [some (vR 2), some (vR 14)]) (st' := [vI 144, vI 0, vR 4, vI 0, vR 16]) (L' := LW W z (uA f 3 (cpW (f 15) (f 3) 120))) 7 (b90_3 call z (uA f 3 (cpW (f 15) (f 3) 120))) ?_
  refine xc_g (i' := 16) (ls' := [some (vR 2), some (vR 14)]) (st' := []) (L' := LW W z (uA (uA f 3 (cpW (f 15) (f 3) 120)) 4 (va_cpy ((uA f 3 (cpW (f 15) (f 3) 120)) 16) ((uA f 3 (cpW (f 15) (f 3) 120)) 4) (ix 0) (ix 0) (ix 144)))) (b90_4 call _ z (uA f 3 (cpW (f 15) (f 3) 120))) (by decide) ?_
  rw [cpW_e (f := (uA f 3 (cpW (f 15) (f 3) 120)) 16) (g := (uA f 3 (cpW (f 15) (f 3) 120)) 4) (a := 0) (b := 0) (n := 144) (N := 144) (by decide) (by decide) (by decide)]
  show XC call (mP 90) 16 [some (vR 2), some (vR 14)] [] (LW W z (uA (uA f 3 (cpW (f 15) (f 3) 120)) 4 (cpW (f 16) (f 4) 144))) res
  refine xc_b (i' := 19) (ls' := [some (vR 2), some (vR 14)]) (st' := [vI (z 142), vR 2]) (L' := LW W z (uA (uA f 3 (cpW (f 15) (f 3) 120)) 4 (cpW (f 16) (f 4) 144))) 3 (b90_5 call z (uA (uA f 3 (cpW (f 15) (f 3) 120)) 4 (cpW (f 16) (f 4) 144))) ?_
  refine xc_b (i' := 20) (ls' := [some (vR 2), some (vR 14)]) (st' := []) (L' := LW W (uZ z 22 (z 142)) (uA (uA f 3 (cpW (f 15) (f 3) 120)) 4 (cpW (f 16) (f 4) 144))) 1 (b90_6 call (z 142) _ z (uA (uA f 3 (cpW (f 15) (f 3) 120)) 4 (cpW (f 16) (f 4) 144))) ?_
  refine xc_b (i' := 23) (ls' := [some (vR 2), some (vR 14)]) (st' := [vI (z 143), vR 2]) (L' := LW W (uZ z 22 (z 142)) (uA (uA f 3 (cpW (f 15) (f 3) 120)) 4 (cpW (f 16) (f 4) 144))) 3 (b90_7 call (uZ z 22 (z 142)) (uA (uA f 3 (cpW (f 15) (f 3) 120)) 4 (cpW (f 16) (f 4) 144))) ?_
  refine xc_b (i' := 24) (ls' := [some (vR 2), some (vR 14)]) (st' := []) (L' := LW W (uZ (uZ z 22 (z 142)) 23 (z 143)) (uA (uA f 3 (cpW (f 15) (f 3) 120)) 4 (cpW (f 16) (f 4) 144))) 1 (b90_8 call (z 143) _ (uZ z 22 (z 142)) (uA (uA f 3 (cpW (f 15) (f 3) 120)) 4 (cpW (f 16) (f 4) 144))) ?_
  refine xc_b (i' := 27) (ls' := [some (vR 2), some (vR 14)]) (st' := [vI (z 144), vR 2]) (L' := LW W (uZ (uZ z 22 (z 142)) 23 (z 143)) (uA (uA f 3 (cpW (f 15) (f 3) 120)) 4 (cpW (f 16) (f 4) 144))) 3 (b90_9 call (uZ (uZ z 22 (z 142)) 23 (z 143)) (uA (uA f 3 (cpW (f 15) (f 3) 120)) 4 (cpW (f 16) (f 4) 144))) ?_
  refine xc_b (i' := 28) (ls' := [some (vR 2), some (vR 14)]) (st' := []) (L' := LW W (uZ (uZ (uZ z 22 (z 142)) 23 (z 143)) 24 (z 144)) (uA (uA f 3 (cpW (f 15) (f 3) 120)) 4 (cpW (f 16) (f 4) 144))) 1 (b90_10 call (z 144) _ (uZ (uZ z 22 (z 142)) 23 (z 143)) (uA (uA f 3 (cpW (f 15) (f 3) 120)) 4 (cpW (f 16) (f 4) 144))) ?_
  refine xc_b (i' := 31) (ls' := [some (vR 2), some (vR 14)]) (st' := [vI (z 145), vR 2]) (L' := LW W (uZ (uZ (uZ z 22 (z 142)) 23 (z 143)) 24 (z 144)) (uA (uA f 3 (cpW (f 15) (f 3) 120)) 4 (cpW (f 16) (f 4) 144))) 3 (b90_11 call (uZ (uZ (uZ z 22 (z 142)) 23 (z 143)) 24 (z 144)) (uA (uA f 3 (cpW (f 15) (f 3) 120)) 4 (cpW (f 16) (f 4) 144))) ?_
  refine xc_b (i' := 32) (ls' := [some (vR 2), some (vR 14)]) (st' := []) (L' := LW W (uZ (uZ (uZ (uZ z 22 (z 142)) 23 (z 143)) 24 (z 144)) 25 (z 145)) (uA (uA f 3 (cpW (f 15) (f 3) 120)) 4 (cpW (f 16) (f 4) 144))) 1 (b90_12 call (z 145) _ (uZ (uZ (uZ z 22 (z 142)) 23 (z 143)) 24 (z 144)) (uA (uA f 3 (cpW (f 15) (f 3) 120)) 4 (cpW (f 16) (f 4) 144))) ?_
  refine xc_b (i' := 35) (ls' := [some (vR 2), some (vR 14)]) (st' := [vI (z 146), vR 2]) (L' := LW W (uZ (uZ (uZ (uZ z 22 (z 142)) 23 (z 143)) 24 (z 144)) 25 (z 145)) (uA (uA f 3 (cpW (f 15) (f 3) 120)) 4 (cpW (f 16) (f 4) 144))) 3 (b90_13 call (uZ (uZ (uZ (uZ z 22 (z 142)) 23 (z 143)) 24 (z 144)) 25 (z 145)) (uA (uA f 3 (cpW (f 15) (f 3) 120)) 4 (cpW (f 16) (f 4) 144))) ?_
  refine xc_b (i' := 36) (ls' := [some (vR 2), some (vR 14)]) (st' := []) (L' := LW W (uZ (uZ (uZ (uZ (uZ z 22 (z 142)) 23 (z 143)) 24 (z 144)) 25 (z 145)) 26 (z 146)) (uA (uA f 3 (cpW (f 15) (f 3) 120)) 4 (cpW (f 16) (f 4) 144))) 1 (b90_14 call (z 146) _ (uZ (uZ (uZ (uZ z 22 (z 142)) 23 (z 143)) 24 (z 144)) 25 (z 145)) (uA (uA f 3 (cpW (f 15) (f 3) 120)) 4 (cpW (f 16) (f 4) 144))) ?_
  refine xc_b (i' := 39) (ls' := [some (vR 2), some (vR 14)]) (st' := [vI (z 147), vR 2]) (L' := LW W (uZ (uZ (uZ (uZ (uZ z 22 (z 142)) 23 (z 143)) 24 (z 144)) 25 (z 145)) 26 (z 146)) (uA (uA f 3 (cpW (f 15) (f 3) 120)) 4 (cpW (f 16) (f 4) 144))) 3 (b90_15 call (uZ (uZ (uZ (uZ (uZ z 22 (z 142)) 23 (z 143)) 24 (z 144)) 25 (z 145)) 26 (z 146)) (uA (uA f 3 (cpW (f 15) (f 3) 120)) 4 (cpW (f 16) (f 4) 144))) ?_
  refine xc_b (i' := 40) (ls' := [some (vR 2), some (vR 14)]) (st' := []) (L' := LW W (uZ (uZ (uZ (uZ (uZ (uZ z 22 (z 142)) 23 (z 143)) 24 (z 144)) 25 (z 145)) 26 (z 146)) 27 (z 147)) (uA (uA f 3 (cpW (f 15) (f 3) 120)) 4 (cpW (f 16) (f 4) 144))) 1 (b90_16 call (z 147) _ (uZ (uZ (uZ (uZ (uZ z 22 (z 142)) 23 (z 143)) 24 (z 144)) 25 (z 145)) 26 (z 146)) (uA (uA f 3 (cpW (f 15) (f 3) 120)) 4 (cpW (f 16) (f 4) 144))) ?_
  refine xc_b (i' := 43) (ls' := [some (vR 2), some (vR 14)]) (st' := [vI (z 148), vR 2]) (L' := LW W (uZ (uZ (uZ (uZ (uZ (uZ z 22 (z 142)) 23 (z 143)) 24 (z 144)) 25 (z 145)) 26 (z 146)) 27 (z 147)) (uA (uA f 3 (cpW (f 15) (f 3) 120)) 4 (cpW (f 16) (f 4) 144))) 3 (b90_17 call (uZ (uZ (uZ (uZ (uZ (uZ z 22 (z 142)) 23 (z 143)) 24 (z 144)) 25 (z 145)) 26 (z 146)) 27 (z 147)) (uA (uA f 3 (cpW (f 15) (f 3) 120)) 4 (cpW (f 16) (f 4) 144))) ?_
  refine xc_b (i' := 44) (ls' := [some (vR 2), some (vR 14)]) (st' := []) (L' := LW W (uZ (uZ (uZ (uZ (uZ (uZ (uZ z 22 (z 142)) 23 (z 143)) 24 (z 144)) 25 (z 145)) 26 (z 146)) 27 (z 147)) 28 (z 148)) (uA (uA f 3 (cpW (f 15) (f 3) 120)) 4 (cpW (f 16) (f 4) 144))) 1 (b90_18 call (z 148) _ (uZ (uZ (uZ (uZ (uZ (uZ z 22 (z 142)) 23 (z 143)) 24 (z 144)) 25 (z 145)) 26 (z 146)) 27 (z 147)) (uA (uA f 3 (cpW (f 15) (f 3) 120)) 4 (cpW (f 16) (f 4) 144))) ?_
  refine xc_b (i' := 47) (ls' := [some (vR 2), some (vR 14)]) (st' := [vI (z 149), vR 2]) (L' := LW W (uZ (uZ (uZ (uZ (uZ (uZ (uZ z 22 (z 142)) 23 (z 143)) 24 (z 144)) 25 (z 145)) 26 (z 146)) 27 (z 147)) 28 (z 148)) (uA (uA f 3 (cpW (f 15) (f 3) 120)) 4 (cpW (f 16) (f 4) 144))) 3 (b90_19 call (uZ (uZ (uZ (uZ (uZ (uZ (uZ z 22 (z 142)) 23 (z 143)) 24 (z 144)) 25 (z 145)) 26 (z 146)) 27 (z 147)) 28 (z 148)) (uA (uA f 3 (cpW (f 15) (f 3) 120)) 4 (cpW (f 16) (f 4) 144))) ?_
  refine xc_b (i' := 48) (ls' := [some (vR 2), some (vR 14)]) (st' := []) (L' := LW W (uZ (uZ (uZ (uZ (uZ (uZ (uZ (uZ z 22 (z 142)) 23 (z 143)) 24 (z 144)) 25 (z 145)) 26 (z 146)) 27 (z 147)) 28 (z 148)) 29 (z 149)) (uA (uA f 3 (cpW (f 15) (f 3) 120)) 4 (cpW (f 16) (f 4) 144))) 1 (b90_20 call (z 149) _ (uZ (uZ (uZ (uZ (uZ (uZ (uZ z 22 (z 142)) 23 (z 143)) 24 (z 144)) 25 (z 145)) 26 (z 146)) 27 (z 147)) 28 (z 148)) (uA (uA f 3 (cpW (f 15) (f 3) 120)) 4 (cpW (f 16) (f 4) 144))) ?_
  subst H
  exact xc_ret (b90_21 call _ _)
end TWs
