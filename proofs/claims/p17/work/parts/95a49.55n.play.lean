/-! press, lift, hand, undo, hours: both sides -/
section TWs
variable {W : TXW}
set_option maxRecDepth 100000 in
theorem bp_28_1 (call : QC FA) (x0 : Int32) (x1 : Int32) (o2 : Option PV) (L : QH FA) (F : Nat) : xnG call 28 (F + 1) 0 [some (vI x0), some (vI x1), o2] [] L = xnG call 28 F 1 [some (vI x0), some (vI x1), o2] [vI x0] L := rfl
set_option maxRecDepth 100000 in
theorem bp_28_2 (call : QC FA) (x : Int32) (ls : List (Option PV)) (L : QH FA) (F : Nat) : xnG call 28 (F + 1) 1 ls [vI x] L = bif pcmp 2 x 0 then xnG call 28 F 12 ls [] L else xnG call 28 F 2 ls [] L := rfl
set_option maxRecDepth 100000 in
theorem bp_28_3 (call : QC FA) (x0 : Int32) (x1 : Int32) (o2 : Option PV) (L : QH FA) (F : Nat) : xnG call 28 (F + 3) 12 [some (vI x0), some (vI x1), o2] [] L = xnG call 28 F 15 [some (vI x0), some (vI x1), some (vI 0)] [vI 0] L := rfl
set_option maxRecDepth 100000 in
theorem bp_28_4 (call : QC FA) (x : Int32) (ls : List (Option PV)) (L : QH FA) (F : Nat) : xnG call 28 (F + 1) 15 ls [vI x] L = bif pcmp 0 x 0 then xnG call 28 F 22 ls [] L else xnG call 28 F 16 ls [] L := rfl
set_option maxRecDepth 100000 in
theorem bp_28_5 (call : QC FA) (x0 : Int32) (x1 : Int32) (x2 : Int32) (L : QH FA) (F : Nat) : xnG call 28 (F + 1) 22 [some (vI x0), some (vI x1), some (vI x2)] [] L = xnG call 28 F 23 [some (vI x0), some (vI x1), some (vI x2)] [vI ((-1))] L := rfl
set_option maxRecDepth 100000 in
theorem bp_28_6 (call : QC FA) (x : Int32) (ls : List (Option PV)) (L : QH FA) (F : Nat) : xnG call 28 (F + 1) 23 ls [vI x] L = some (some (vI x), L) := rfl
set_option maxRecDepth 100000 in
theorem bp_28_7 (call : QC FA) (x0 : Int32) (x1 : Int32) (o2 : Option PV) (L : QH FA) (F : Nat) : xnG call 28 (F + 2) 2 [some (vI x0), some (vI x1), o2] [] L = xnG call 28 F 4 [some (vI x0), some (vI x1), o2] [vI 12, vI x0] L := rfl
set_option maxRecDepth 100000 in
theorem bp_28_8 (call : QC FA) (x y : Int32) (ls : List (Option PV)) (L : QH FA) (F : Nat) : xnG call 28 (F + 1) 4 ls [vI y, vI x] L = bif pcmp 3 x y then xnG call 28 F 12 ls [] L else xnG call 28 F 5 ls [] L := rfl
set_option maxRecDepth 100000 in
theorem bp_28_9 (call : QC FA) (x0 : Int32) (x1 : Int32) (o2 : Option PV) (L : QH FA) (F : Nat) : xnG call 28 (F + 1) 5 [some (vI x0), some (vI x1), o2] [] L = xnG call 28 F 6 [some (vI x0), some (vI x1), o2] [vI x1] L := rfl
set_option maxRecDepth 100000 in
theorem bp_28_10 (call : QC FA) (x : Int32) (ls : List (Option PV)) (L : QH FA) (F : Nat) : xnG call 28 (F + 1) 6 ls [vI x] L = bif pcmp 2 x 0 then xnG call 28 F 12 ls [] L else xnG call 28 F 7 ls [] L := rfl
set_option maxRecDepth 100000 in
theorem bp_28_11 (call : QC FA) (x0 : Int32) (x1 : Int32) (o2 : Option PV) (L : QH FA) (F : Nat) : xnG call 28 (F + 2) 7 [some (vI x0), some (vI x1), o2] [] L = xnG call 28 F 9 [some (vI x0), some (vI x1), o2] [vI 12, vI x1] L := rfl
set_option maxRecDepth 100000 in
theorem bp_28_12 (call : QC FA) (x y : Int32) (ls : List (Option PV)) (L : QH FA) (F : Nat) : xnG call 28 (F + 1) 9 ls [vI y, vI x] L = bif pcmp 3 x y then xnG call 28 F 12 ls [] L else xnG call 28 F 10 ls [] L := rfl
set_option maxRecDepth 100000 in
theorem bp_28_13 (call : QC FA) (x0 : Int32) (x1 : Int32) (o2 : Option PV) (L : QH FA) (F : Nat) : xnG call 28 (F + 4) 10 [some (vI x0), some (vI x1), o2] [] L = xnG call 28 F 15 [some (vI x0), some (vI x1), some (vI 1)] [vI 1] L := rfl
set_option maxRecDepth 100000 in
theorem bp_28_14 (call : QC FA) (x0 : Int32) (x1 : Int32) (x2 : Int32) (L : QH FA) (F : Nat) : xnG call 28 (F + 6) 16 [some (vI x0), some (vI x1), some (vI x2)] [] L = xnG call 28 F 23 [some (vI x0), some (vI x1), some (vI x2)] [vI ((x0 * 12) + x1)] L := rfl
theorem vcp_28_0 (call : QC FA) (x0 : Int32) (x1 : Int32) (o2 : Option PV) (z : Nat → Int32) (f : Nat → FA) (res : Option PV × QH FA) (H : ((I x0 < 0 → res = (some (vI ((-1))), LW W z f)) ∧ (0 ≤ I x0 → ((12 ≤ I x0 → res = (some (vI ((-1))), LW W z f)) ∧ (I x0 < 12 → ((I x1 < 0 → res = (some (vI ((-1))), LW W z f)) ∧ (0 ≤ I x1 → ((12 ≤ I x1 → res = (some (vI ((-1))), LW W z f)) ∧ (I x1 < 12 → res = (some (vI ((x0 * 12) + x1)), LW W z f)))))))))) : XC call (mP 28) 0 [some (vI x0), some (vI x1), o2] [] (LW W z f) res := by
  refine xc_b (i' := 1) (ls' := [some (vI x0), some (vI x1), o2]) (st' := [vI x0]) (L' := LW W z f) 1 (bp_28_1 call x0 x1 o2 _) ?_
  refine xc_if (it := 12) (ie := 2) (ls' := [some (vI x0), some (vI x1), o2]) (st' := []) (bp_28_2 call x0 _ _) (fun q1 => ?_) (fun q1 => ?_)
  · have H := H.1 (cI2t q1 rfl rfl)
    refine xc_b (i' := 15) (ls' := [some (vI x0), some (vI x1), some (vI 0)]) (st' := [vI 0]) (L' := LW W z f) 3 (bp_28_3 call x0 x1 o2 _) ?_
    refine xc_t (it := 22) (ie := 16) (ls' := [some (vI x0), some (vI x1), some (vI 0)]) (st' := []) (bp_28_4 call 0 _ _) (by decide) ?_
    refine xc_b (i' := 23) (ls' := [some (vI x0), some (vI x1), some (vI 0)]) (st' := [vI ((-1))]) (L' := LW W z f) 1 (bp_28_5 call x0 x1 0 _) ?_
    subst H
    exact xc_ret (bp_28_6 call _ _ _)
  · have H := H.2 (cI2f q1 rfl rfl)
    refine xc_b (i' := 4) (ls' := [some (vI x0), some (vI x1), o2]) (st' := [vI 12, vI x0]) (L' := LW W z f) 2 (bp_28_7 call x0 x1 o2 _) ?_
    refine xc_if (it := 12) (ie := 5) (ls' := [some (vI x0), some (vI x1), o2]) (st' := []) (bp_28_8 call x0 12 _ _) (fun q2 => ?_) (fun q2 => ?_)
    · have H := H.1 (cI3t q2 rfl rfl)
      refine xc_b (i' := 15) (ls' := [some (vI x0), some (vI x1), some (vI 0)]) (st' := [vI 0]) (L' := LW W z f) 3 (bp_28_3 call x0 x1 o2 _) ?_
      refine xc_t (it := 22) (ie := 16) (ls' := [some (vI x0), some (vI x1), some (vI 0)]) (st' := []) (bp_28_4 call 0 _ _) (by decide) ?_
      refine xc_b (i' := 23) (ls' := [some (vI x0), some (vI x1), some (vI 0)]) (st' := [vI ((-1))]) (L' := LW W z f) 1 (bp_28_5 call x0 x1 0 _) ?_
      subst H
      exact xc_ret (bp_28_6 call _ _ _)
    · have H := H.2 (cI3f q2 rfl rfl)
      refine xc_b (i' := 6) (ls' := [some (vI x0), some (vI x1), o2]) (st' := [vI x1]) (L' := LW W z f) 1 (bp_28_9 call x0 x1 o2 _) ?_
      refine xc_if (it := 12) (ie := 7) (ls' := [some (vI x0), some (vI x1), o2]) (st' := []) (bp_28_10 call x1 _ _) (fun q3 => ?_) (fun q3 => ?_)
      · have H := H.1 (cI2t q3 rfl rfl)
        refine xc_b (i' := 15) (ls' := [some (vI x0), some (vI x1), some (vI 0)]) (st' := [vI 0]) (L' := LW W z f) 3 (bp_28_3 call x0 x1 o2 _) ?_
        refine xc_t (it := 22) (ie := 16) (ls' := [some (vI x0), some (vI x1), some (vI 0)]) (st' := []) (bp_28_4 call 0 _ _) (by decide) ?_
        refine xc_b (i' := 23) (ls' := [some (vI x0), some (vI x1), some (vI 0)]) (st' := [vI ((-1))]) (L' := LW W z f) 1 (bp_28_5 call x0 x1 0 _) ?_
        subst H
        exact xc_ret (bp_28_6 call _ _ _)
      · have H := H.2 (cI2f q3 rfl rfl)
        refine xc_b (i' := 9) (ls' := [some (vI x0), some (vI x1), o2]) (st' := [vI 12, vI x1]) (L' := LW W z f) 2 (bp_28_11 call x0 x1 o2 _) ?_
        refine xc_if (it := 12) (ie := 10) (ls' := [some (vI x0), some (vI x1), o2]) (st' := []) (bp_28_12 call x1 12 _ _) (fun q4 => ?_) (fun q4 => ?_)
        · have H := H.1 (cI3t q4 rfl rfl)
          refine xc_b (i' := 15) (ls' := [some (vI x0), some (vI x1), some (vI 0)]) (st' := [vI 0]) (L' := LW W z f) 3 (bp_28_3 call x0 x1 o2 _) ?_
          refine xc_t (it := 22) (ie := 16) (ls' := [some (vI x0), some (vI x1), some (vI 0)]) (st' := []) (bp_28_4 call 0 _ _) (by decide) ?_
          refine xc_b (i' := 23) (ls' := [some (vI x0), some (vI x1), some (vI 0)]) (st' := [vI ((-1))]) (L' := LW W z f) 1 (bp_28_5 call x0 x1 0 _) ?_
          subst H
          exact xc_ret (bp_28_6 call _ _ _)
        · have H := H.2 (cI3f q4 rfl rfl)
          refine xc_b (i' := 15) (ls' := [some (vI x0), some (vI x1), some (vI 1)]) (st' := [vI 1]) (L' := LW W z f) 4 (bp_28_13 call x0 x1 o2 _) ?_
          refine xc_f (it := 22) (ie := 16) (ls' := [some (vI x0), some (vI x1), some (vI 1)]) (st' := []) (bp_28_4 call 1 _ _) (by decide) ?_
          refine xc_b (i' := 23) (ls' := [some (vI x0), some (vI x1), some (vI 1)]) (st' := [vI ((x0 * 12) + x1)]) (L' := LW W z f) 6 (bp_28_14 call x0 x1 1 _) ?_
          subst H
          exact xc_ret (bp_28_6 call _ _ _)
set_option maxRecDepth 100000 in
theorem bp_84_1 (call : QC FA) (x1 : Int32) (L : QH FA) (F : Nat) : xnG call 84 (F + 2) 0 [some (vR 2), some (vI x1)] [] L = xnG call 84 F 2 [some (vR 2), some (vI x1)] [vI x1, vR 2] L := rfl
set_option maxRecDepth 100000 in
theorem bp_84_2 (call : QC FA) (a0 : Int32) (ls : List (Option PV)) (z : Nat → Int32) (f : Nat → FA) (F : Nat) : xnG call 84 (F + 1) 2 ls [vI a0, vR 2] (LW W z f) = cbd (call 14 [vR 2, vI a0] (LW W z f)) (fun r L' => xnG call 84 F 3 ls (r.toList ++ []) L') := pcY (ih := xnG call 84 F) (call := call) (a := 14) (b := 1) (v := 0) (t := 3) (x := 2) (ls := ls) (As := [vI a0]) (st' := []) (L := LW W z f) rfl rfl rfl
set_option maxRecDepth 100000 in
theorem bp_84_3 (call : QC FA) (x : Int32) (ls : List (Option PV)) (L : QH FA) (F : Nat) : xnG call 84 (F + 1) 3 ls [vI x] L = bif pcmp 0 x 0 then xnG call 84 F 16 ls [] L else xnG call 84 F 4 ls [] L := rfl
set_option maxRecDepth 100000 in
theorem bp_84_4 (call : QC FA) (x1 : Int32) (L : QH FA) (F : Nat) : xnG call 84 (F + 1) 16 [some (vR 2), some (vI x1)] [] L = xnG call 84 F 17 [some (vR 2), some (vI x1)] [vI 0] L := rfl
set_option maxRecDepth 100000 in
theorem bp_84_5 (call : QC FA) (ls : List (Option PV)) (L : QH FA) (F : Nat) : xnG call 84 (F + 1) 17 ls [vI 0] L = some (some (vI 0), L) := rfl
set_option maxRecDepth 100000 in
theorem bp_84_6 (call : QC FA) (x1 : Int32) (L : QH FA) (F : Nat) : xnG call 84 (F + 3) 4 [some (vR 2), some (vI x1)] [] L = xnG call 84 F 7 [some (vR 2), some (vI x1)] [vI 4, vI x1, vR 2] L := rfl
set_option maxRecDepth 100000 in
theorem bp_84_7 (call : QC FA) (a0 : Int32) (a1 : Int32) (ls : List (Option PV)) (z : Nat → Int32) (f : Nat → FA) (F : Nat) : xnG call 84 (F + 1) 7 ls [vI a1, vI a0, vR 2] (LW W z f) = cbd (call 13 [vR 2, vI a0, vI a1] (LW W z f)) (fun r L' => xnG call 84 F 8 ls (r.toList ++ []) L') := pcY (ih := xnG call 84 F) (call := call) (a := 13) (b := 2) (v := 0) (t := 8) (x := 2) (ls := ls) (As := [vI a0, vI a1]) (st' := []) (L := LW W z f) rfl rfl rfl
set_option maxRecDepth 100000 in
theorem bp_84_8 (call : QC FA) (x : Int32) (ls : List (Option PV)) (L : QH FA) (F : Nat) : xnG call 84 (F + 1) 8 ls [vI x] L = bif pcmp 1 x 0 then xnG call 84 F 16 ls [] L else xnG call 84 F 9 ls [] L := rfl
set_option maxRecDepth 100000 in
theorem bp_84_9 (call : QC FA) (x1 : Int32) (L : QH FA) (F : Nat) : xnG call 84 (F + 3) 9 [some (vR 2), some (vI x1)] [] L = xnG call 84 F 12 [some (vR 2), some (vI x1)] [vI 1, vI x1, vR 2] L := rfl
set_option maxRecDepth 100000 in
theorem bp_84_10 (call : QC FA) (a0 : Int32) (a1 : Int32) (ls : List (Option PV)) (z : Nat → Int32) (f : Nat → FA) (F : Nat) : xnG call 84 (F + 1) 12 ls [vI a1, vI a0, vR 2] (LW W z f) = cbd (call 13 [vR 2, vI a0, vI a1] (LW W z f)) (fun r L' => xnG call 84 F 13 ls (r.toList ++ []) L') := pcY (ih := xnG call 84 F) (call := call) (a := 13) (b := 2) (v := 0) (t := 13) (x := 2) (ls := ls) (As := [vI a0, vI a1]) (st' := []) (L := LW W z f) rfl rfl rfl
set_option maxRecDepth 100000 in
theorem bp_84_11 (call : QC FA) (x : Int32) (ls : List (Option PV)) (L : QH FA) (F : Nat) : xnG call 84 (F + 1) 13 ls [vI x] L = bif pcmp 0 x 0 then xnG call 84 F 16 ls [] L else xnG call 84 F 14 ls [] L := rfl
set_option maxRecDepth 100000 in
theorem bp_84_12 (call : QC FA) (x1 : Int32) (L : QH FA) (F : Nat) : xnG call 84 (F + 2) 14 [some (vR 2), some (vI x1)] [] L = xnG call 84 F 17 [some (vR 2), some (vI x1)] [vI 1] L := rfl
set_option maxRecDepth 100000 in
theorem bp_84_13 (call : QC FA) (ls : List (Option PV)) (L : QH FA) (F : Nat) : xnG call 84 (F + 1) 17 ls [vI 1] L = some (some (vI 1), L) := rfl
theorem vcp_84_0 (call : QC FA) (x1 : Int32) (z : Nat → Int32) (f : Nat → FA) (res : Option PV × QH FA) (H : (∃ (r1 : Int32) (z1 : Nat → Int32) (f1 : Nat → FA), call 14 [vR 2, vI x1] (LW W z f) = some (some (vI r1), LW W z1 f1) ∧ ((r1 = 0 → res = (some (vI 0), LW W z1 f1)) ∧ (¬ r1 = 0 → (∃ (r2 : Int32) (z2 : Nat → Int32) (f2 : Nat → FA), call 13 [vR 2, vI x1, vI 4] (LW W z1 f1) = some (some (vI r2), LW W z2 f2) ∧ ((¬ r2 = 0 → res = (some (vI 0), LW W z2 f2)) ∧ (r2 = 0 → (∃ (r3 : Int32) (z3 : Nat → Int32) (f3 : Nat → FA), call 13 [vR 2, vI x1, vI 1] (LW W z2 f2) = some (some (vI r3), LW W z3 f3) ∧ ((r3 = 0 → res = (some (vI 0), LW W z3 f3)) ∧ (¬ r3 = 0 → res = (some (vI 1), LW W z3 f3))))))))))) : XC call (mP 84) 0 [some (vR 2), some (vI x1)] [] (LW W z f) res := by
  refine xc_b (i' := 2) (ls' := [some (vR 2), some (vI x1)]) (st' := [vI x1, vR 2]) (L' := LW W z f) 2 (bp_84_1 call x1 _) ?_
  obtain ⟨r1, z1, f1, hc, H⟩ := H
  refine xc_call (t := 3) (ls' := [some (vR 2), some (vI x1)]) (st' := []) (bp_84_2 call x1 _ z f) hc ?_
  show XC call (mP 84) 3 [some (vR 2), some (vI x1)] [vI r1] (LW W z1 f1) res
  refine xc_if (it := 16) (ie := 4) (ls' := [some (vR 2), some (vI x1)]) (st' := []) (bp_84_3 call r1 _ _) (fun q1 => ?_) (fun q1 => ?_)
  · have H := H.1 (cI0t q1)
    refine xc_b (i' := 17) (ls' := [some (vR 2), some (vI x1)]) (st' := [vI 0]) (L' := LW W z1 f1) 1 (bp_84_4 call x1 _) ?_
    subst H
    exact xc_ret (bp_84_5 call _ _)
  · have H := H.2 (cI0f q1)
    refine xc_b (i' := 7) (ls' := [some (vR 2), some (vI x1)]) (st' := [vI 4, vI x1, vR 2]) (L' := LW W z1 f1) 3 (bp_84_6 call x1 _) ?_
    obtain ⟨r2, z2, f2, hc, H⟩ := H
    refine xc_call (t := 8) (ls' := [some (vR 2), some (vI x1)]) (st' := []) (bp_84_7 call x1 4 _ z1 f1) hc ?_
    show XC call (mP 84) 8 [some (vR 2), some (vI x1)] [vI r2] (LW W z2 f2) res
    refine xc_if (it := 16) (ie := 9) (ls' := [some (vR 2), some (vI x1)]) (st' := []) (bp_84_8 call r2 _ _) (fun q2 => ?_) (fun q2 => ?_)
    · have H := H.1 (cI1t q2)
      refine xc_b (i' := 17) (ls' := [some (vR 2), some (vI x1)]) (st' := [vI 0]) (L' := LW W z2 f2) 1 (bp_84_4 call x1 _) ?_
      subst H
      exact xc_ret (bp_84_5 call _ _)
    · have H := H.2 (cI1f q2)
      refine xc_b (i' := 12) (ls' := [some (vR 2), some (vI x1)]) (st' := [vI 1, vI x1, vR 2]) (L' := LW W z2 f2) 3 (bp_84_9 call x1 _) ?_
      obtain ⟨r3, z3, f3, hc, H⟩ := H
      refine xc_call (t := 13) (ls' := [some (vR 2), some (vI x1)]) (st' := []) (bp_84_10 call x1 1 _ z2 f2) hc ?_
      show XC call (mP 84) 13 [some (vR 2), some (vI x1)] [vI r3] (LW W z3 f3) res
      refine xc_if (it := 16) (ie := 14) (ls' := [some (vR 2), some (vI x1)]) (st' := []) (bp_84_11 call r3 _ _) (fun q3 => ?_) (fun q3 => ?_)
      · have H := H.1 (cI0t q3)
        refine xc_b (i' := 17) (ls' := [some (vR 2), some (vI x1)]) (st' := [vI 0]) (L' := LW W z3 f3) 1 (bp_84_4 call x1 _) ?_
        subst H
        exact xc_ret (bp_84_5 call _ _)
      · have H := H.2 (cI0f q3)
        refine xc_b (i' := 17) (ls' := [some (vR 2), some (vI x1)]) (st' := [vI 1]) (L' := LW W z3 f3) 2 (bp_84_12 call x1 _) ?_
        subst H
        exact xc_ret (bp_84_13 call _ _)
set_option maxRecDepth 100000 in
theorem bp_174_1 (call : QC FA) (x1 : Int32) (x2 : Int32) (z : Nat → Int32) (f : Nat → FA) (F : Nat) : xnG call 174 (F + 4) 0 [some (vR 0), some (vI x1), some (vI x2)] [] (LW W z f) = xnG call 174 F 4 [some (vR 0), some (vI x1), some (vI x2)] [vI x1, vR 2] (LW W z f) := rfl
set_option maxRecDepth 100000 in
theorem bp_174_2 (call : QC FA) (a0 : Int32) (ls : List (Option PV)) (z : Nat → Int32) (f : Nat → FA) (F : Nat) : xnG call 174 (F + 1) 4 ls [vI a0, vR 2] (LW W z f) = cbd (call 84 [vR 2, vI a0] (LW W z f)) (fun r L' => xnG call 174 F 5 ls (r.toList ++ []) L') := pcY (ih := xnG call 174 F) (call := call) (a := 84) (b := 1) (v := 0) (t := 5) (x := 2) (ls := ls) (As := [vI a0]) (st' := []) (L := LW W z f) rfl rfl rfl
set_option maxRecDepth 100000 in
theorem bp_174_3 (call : QC FA) (x : Int32) (ls : List (Option PV)) (L : QH FA) (F : Nat) : xnG call 174 (F + 1) 5 ls [vI x] L = bif pcmp 0 x 0 then xnG call 174 F 11 ls [] L else xnG call 174 F 6 ls [] L := rfl
set_option maxRecDepth 100000 in
theorem bp_174_4 (call : QC FA) (x1 : Int32) (x2 : Int32) (L : QH FA) (F : Nat) : xnG call 174 (F + 1) 11 [some (vR 0), some (vI x1), some (vI x2)] [] L = xnG call 174 F 12 [some (vR 0), some (vI x1), some (vI x2)] [vI ((-1))] L := rfl
set_option maxRecDepth 100000 in
theorem bp_174_5 (call : QC FA) (x : Int32) (ls : List (Option PV)) (L : QH FA) (F : Nat) : xnG call 174 (F + 1) 12 ls [vI x] L = some (some (vI x), L) := rfl
set_option maxRecDepth 100000 in
theorem bp_174_6 (call : QC FA) (x1 : Int32) (x2 : Int32) (L : QH FA) (F : Nat) : xnG call 174 (F + 1) 6 [some (vR 0), some (vI x1), some (vI x2)] [] L = xnG call 174 F 7 [some (vR 0), some (vI x1), some (vI x2)] [vI x2] L := rfl
set_option maxRecDepth 100000 in
theorem bp_174_7 (call : QC FA) (x : Int32) (ls : List (Option PV)) (L : QH FA) (F : Nat) : xnG call 174 (F + 1) 7 ls [vI x] L = bif pcmp 2 x 0 then xnG call 174 F 11 ls [] L else xnG call 174 F 8 ls [] L := rfl
set_option maxRecDepth 100000 in
theorem bp_174_8 (call : QC FA) (x1 : Int32) (x2 : Int32) (L : QH FA) (F : Nat) : xnG call 174 (F + 2) 8 [some (vR 0), some (vI x1), some (vI x2)] [] L = xnG call 174 F 10 [some (vR 0), some (vI x1), some (vI x2)] [vI 12, vI x2] L := rfl
set_option maxRecDepth 100000 in
theorem bp_174_9 (call : QC FA) (x y : Int32) (ls : List (Option PV)) (L : QH FA) (F : Nat) : xnG call 174 (F + 1) 10 ls [vI y, vI x] L = bif pcmp 2 x y then xnG call 174 F 13 ls [] L else xnG call 174 F 11 ls [] L := rfl
set_option maxRecDepth 100000 in
theorem bp_174_10 (call : QC FA) (x1 : Int32) (x2 : Int32) (z : Nat → Int32) (f : Nat → FA) (F : Nat) : xnG call 174 (F + 5) 13 [some (vR 0), some (vI x1), some (vI x2)] [] (LW W z f) = xnG call 174 F 18 [some (vR 0), some (vI x1), some (vI x2)] [vR 2, vR 12] (LW W z f) := rfl
set_option maxRecDepth 100000 in
theorem bp_174_11 (call : QC FA) (ls : List (Option PV)) (z : Nat → Int32) (f : Nat → FA) (F : Nat) : xnG call 174 (F + 1) 18 ls [vR 2, vR 12] (LW W z f) = cbd (call 141 [vR 12, vR 2] (LW W z f)) (fun r L' => xnG call 174 F 19 ls (r.toList ++ []) L') := pcY (ih := xnG call 174 F) (call := call) (a := 141) (b := 1) (v := 7) (t := 19) (x := 12) (ls := ls) (As := [vR 2]) (st' := []) (L := LW W z f) rfl rfl rfl
set_option maxRecDepth 100000 in
theorem bp_174_12 (call : QC FA) (x1 : Int32) (x2 : Int32) (z : Nat → Int32) (f : Nat → FA) (F : Nat) : xnG call 174 (F + 4) 19 [some (vR 0), some (vI x1), some (vI x2)] [] (LW W z f) = xnG call 174 F 23 [some (vR 0), some (vI x1), some (vI x2)] [vI x2, vI x1, vR 8] (LW W z f) := rfl
set_option maxRecDepth 100000 in
theorem bp_174_13 (call : QC FA) (a0 : Int32) (a1 : Int32) (ls : List (Option PV)) (z : Nat → Int32) (f : Nat → FA) (F : Nat) : xnG call 174 (F + 1) 23 ls [vI a1, vI a0, vR 8] (LW W z f) = cbd (call 94 [vR 8, vI a0, vI a1] (LW W z f)) (fun r L' => xnG call 174 F 24 ls (r.toList ++ []) L') := pcY (ih := xnG call 174 F) (call := call) (a := 94) (b := 2) (v := 1) (t := 24) (x := 8) (ls := ls) (As := [vI a0, vI a1]) (st' := []) (L := LW W z f) rfl rfl rfl
set_option maxRecDepth 100000 in
theorem bp_174_14 (call : QC FA) (x : Int32) (ls : List (Option PV)) (L : QH FA) (F : Nat) : xnG call 174 (F + 1) 24 ls [vI x] L = some (some (vI x), L) := rfl
theorem vcp_174_0 (call : QC FA) (x1 : Int32) (x2 : Int32) (z : Nat → Int32) (f : Nat → FA) (res : Option PV × QH FA) (H : (∃ (r1 : Int32) (z1 : Nat → Int32) (f1 : Nat → FA), call 84 [vR 2, vI x1] (LW W z f) = some (some (vI r1), LW W z1 f1) ∧ ((r1 = 0 → res = (some (vI ((-1))), LW W z1 f1)) ∧ (¬ r1 = 0 → ((I x2 < 0 → res = (some (vI ((-1))), LW W z1 f1)) ∧ (0 ≤ I x2 → ((I x2 < 12 → (∃ (z2 : Nat → Int32) (f2 : Nat → FA), call 141 [vR 12, vR 2] (LW W z1 f1) = some (none, LW W z2 f2) ∧ (∃ (r3 : Int32) (z3 : Nat → Int32) (f3 : Nat → FA), call 94 [vR 8, vI x1, vI x2] (LW W z2 f2) = some (some (vI r3), LW W z3 f3) ∧ res = (some (vI r3), LW W z3 f3)))) ∧ (12 ≤ I x2 → res = (some (vI ((-1))), LW W z1 f1))))))))) : XC call (mP 174) 0 [some (vR 0), some (vI x1), some (vI x2)] [] (LW W z f) res := by
  refine xc_b (i' := 4) (ls' := [some (vR 0), some (vI x1), some (vI x2)]) (st' := [vI x1, vR 2]) (L' := LW W z f) 4 (bp_174_1 call x1 x2 z f) ?_
  obtain ⟨r1, z1, f1, hc, H⟩ := H
  refine xc_call (t := 5) (ls' := [some (vR 0), some (vI x1), some (vI x2)]) (st' := []) (bp_174_2 call x1 _ z f) hc ?_
  show XC call (mP 174) 5 [some (vR 0), some (vI x1), some (vI x2)] [vI r1] (LW W z1 f1) res
  refine xc_if (it := 11) (ie := 6) (ls' := [some (vR 0), some (vI x1), some (vI x2)]) (st' := []) (bp_174_3 call r1 _ _) (fun q1 => ?_) (fun q1 => ?_)
  · have H := H.1 (cI0t q1)
    refine xc_b (i' := 12) (ls' := [some (vR 0), some (vI x1), some (vI x2)]) (st' := [vI ((-1))]) (L' := LW W z1 f1) 1 (bp_174_4 call x1 x2 _) ?_
    subst H
    exact xc_ret (bp_174_5 call _ _ _)
  · have H := H.2 (cI0f q1)
    refine xc_b (i' := 7) (ls' := [some (vR 0), some (vI x1), some (vI x2)]) (st' := [vI x2]) (L' := LW W z1 f1) 1 (bp_174_6 call x1 x2 _) ?_
    refine xc_if (it := 11) (ie := 8) (ls' := [some (vR 0), some (vI x1), some (vI x2)]) (st' := []) (bp_174_7 call x2 _ _) (fun q2 => ?_) (fun q2 => ?_)
    · have H := H.1 (cI2t q2 rfl rfl)
      refine xc_b (i' := 12) (ls' := [some (vR 0), some (vI x1), some (vI x2)]) (st' := [vI ((-1))]) (L' := LW W z1 f1) 1 (bp_174_4 call x1 x2 _) ?_
      subst H
      exact xc_ret (bp_174_5 call _ _ _)
    · have H := H.2 (cI2f q2 rfl rfl)
      refine xc_b (i' := 10) (ls' := [some (vR 0), some (vI x1), some (vI x2)]) (st' := [vI 12, vI x2]) (L' := LW W z1 f1) 2 (bp_174_8 call x1 x2 _) ?_
      refine xc_if (it := 13) (ie := 11) (ls' := [some (vR 0), some (vI x1), some (vI x2)]) (st' := []) (bp_174_9 call x2 12 _ _) (fun q3 => ?_) (fun q3 => ?_)
      · have H := H.1 (cI2t q3 rfl rfl)
        refine xc_b (i' := 18) (ls' := [some (vR 0), some (vI x1), some (vI x2)]) (st' := [vR 2, vR 12]) (L' := LW W z1 f1) 5 (bp_174_10 call x1 x2 z1 f1) ?_
        obtain ⟨z2, f2, hc, H⟩ := H
        refine xc_call (t := 19) (ls' := [some (vR 0), some (vI x1), some (vI x2)]) (st' := []) (bp_174_11 call _ z1 f1) hc ?_
        show XC call (mP 174) 19 [some (vR 0), some (vI x1), some (vI x2)] [] (LW W z2 f2) res
        refine xc_b (i' := 23) (ls' := [some (vR 0), some (vI x1), some (vI x2)]) (st' := [vI x2, vI x1, vR 8]) (L' := LW W z2 f2) 4 (bp_174_12 call x1 x2 z2 f2) ?_
        obtain ⟨r3, z3, f3, hc, H⟩ := H
        refine xc_call (t := 24) (ls' := [some (vR 0), some (vI x1), some (vI x2)]) (st' := []) (bp_174_13 call x1 x2 _ z2 f2) hc ?_
        show XC call (mP 174) 24 [some (vR 0), some (vI x1), some (vI x2)] [vI r3] (LW W z3 f3) res
        subst H
        exact xc_ret (bp_174_14 call _ _ _)
      · have H := H.2 (cI2f q3 rfl rfl)
        refine xc_b (i' := 12) (ls' := [some (vR 0), some (vI x1), some (vI x2)]) (st' := [vI ((-1))]) (L' := LW W z1 f1) 1 (bp_174_4 call x1 x2 _) ?_
        subst H
        exact xc_ret (bp_174_5 call _ _ _)
set_option maxRecDepth 100000 in
theorem bp_167_1 (call : QC FA) (x1 : Int32) (x2 : Int32) (o3 : Option PV) (L : QH FA) (F : Nat) : xnG call 167 (F + 2) 0 [some (vR 0), some (vI x1), some (vI x2), o3] [] L = xnG call 167 F 2 [some (vR 0), some (vI x1), some (vI x2), o3] [vI x2, vI x1] L := rfl
set_option maxRecDepth 100000 in
theorem bp_167_2 (call : QC FA) (a0 : Int32) (a1 : Int32) (ls : List (Option PV)) (z : Nat → Int32) (f : Nat → FA) (F : Nat) : xnG call 167 (F + 1) 2 ls [vI a1, vI a0] (LW W z f) = cbd (call 28 [vI a0, vI a1] (LW W z f)) (fun r L' => xnG call 167 F 3 ls (r.toList ++ []) L') := pcZ (ih := xnG call 167 F) (call := call) (a := 28) (b := 2) (t := 3) (ls := ls) (As := [vI a0, vI a1]) (st' := []) (L := LW W z f) rfl rfl
set_option maxRecDepth 100000 in
theorem bp_167_3 (call : QC FA) (x1 : Int32) (x2 : Int32) (o3 : Option PV) (s0 : Int32) (z : Nat → Int32) (f : Nat → FA) (F : Nat) : xnG call 167 (F + 5) 3 [some (vR 0), some (vI x1), some (vI x2), o3] [vI s0] (LW W z f) = xnG call 167 F 8 [some (vR 0), some (vI x1), some (vI x2), some (vI s0)] [vI s0, vR 2] (LW W z f) := rfl
set_option maxRecDepth 100000 in
theorem bp_167_4 (call : QC FA) (a0 : Int32) (ls : List (Option PV)) (z : Nat → Int32) (f : Nat → FA) (F : Nat) : xnG call 167 (F + 1) 8 ls [vI a0, vR 2] (LW W z f) = cbd (call 6 [vR 2, vI a0] (LW W z f)) (fun r L' => xnG call 167 F 9 ls (r.toList ++ []) L') := pcY (ih := xnG call 167 F) (call := call) (a := 6) (b := 1) (v := 0) (t := 9) (x := 2) (ls := ls) (As := [vI a0]) (st' := []) (L := LW W z f) rfl rfl rfl
set_option maxRecDepth 100000 in
theorem bp_167_5 (call : QC FA) (x : Int32) (ls : List (Option PV)) (L : QH FA) (F : Nat) : xnG call 167 (F + 1) 9 ls [vI x] L = bif pcmp 1 x 0 then xnG call 167 F 12 ls [] L else xnG call 167 F 10 ls [] L := rfl
set_option maxRecDepth 100000 in
theorem bp_167_6 (call : QC FA) (x1 : Int32) (x2 : Int32) (x3 : Int32) (z : Nat → Int32) (f : Nat → FA) (F : Nat) : xnG call 167 (F + 5) 12 [some (vR 0), some (vI x1), some (vI x2), some (vI x3)] [] (LW W z f) = xnG call 167 F 17 [some (vR 0), some (vI x1), some (vI x2), some (vI x3)] [vR 2, vR 12] (LW W z f) := rfl
set_option maxRecDepth 100000 in
theorem bp_167_7 (call : QC FA) (ls : List (Option PV)) (z : Nat → Int32) (f : Nat → FA) (F : Nat) : xnG call 167 (F + 1) 17 ls [vR 2, vR 12] (LW W z f) = cbd (call 141 [vR 12, vR 2] (LW W z f)) (fun r L' => xnG call 167 F 18 ls (r.toList ++ []) L') := pcY (ih := xnG call 167 F) (call := call) (a := 141) (b := 1) (v := 7) (t := 18) (x := 12) (ls := ls) (As := [vR 2]) (st' := []) (L := LW W z f) rfl rfl rfl
set_option maxRecDepth 100000 in
theorem bp_167_8 (call : QC FA) (x1 : Int32) (x2 : Int32) (x3 : Int32) (z : Nat → Int32) (f : Nat → FA) (F : Nat) : xnG call 167 (F + 4) 18 [some (vR 0), some (vI x1), some (vI x2), some (vI x3)] [] (LW W z f) = xnG call 167 F 22 [some (vR 0), some (vI x1), some (vI x2), some (vI x3)] [vI 3, vI x3, vR 8] (LW W z f) := rfl
set_option maxRecDepth 100000 in
theorem bp_167_9 (call : QC FA) (a0 : Int32) (a1 : Int32) (ls : List (Option PV)) (z : Nat → Int32) (f : Nat → FA) (F : Nat) : xnG call 167 (F + 1) 22 ls [vI a1, vI a0, vR 8] (LW W z f) = cbd (call 101 [vR 8, vI a0, vI a1] (LW W z f)) (fun r L' => xnG call 167 F 23 ls (r.toList ++ []) L') := pcY (ih := xnG call 167 F) (call := call) (a := 101) (b := 2) (v := 1) (t := 23) (x := 8) (ls := ls) (As := [vI a0, vI a1]) (st' := []) (L := LW W z f) rfl rfl rfl
set_option maxRecDepth 100000 in
theorem bp_167_10 (call : QC FA) (x1 : Int32) (x2 : Int32) (x3 : Int32) (L : QH FA) (F : Nat) : xnG call 167 (F + 1) 23 [some (vR 0), some (vI x1), some (vI x2), some (vI x3)] [] L = xnG call 167 F 24 [some (vR 0), some (vI x1), some (vI x2), some (vI x3)] [vI 1] L := rfl
set_option maxRecDepth 100000 in
theorem bp_167_11 (call : QC FA) (ls : List (Option PV)) (L : QH FA) (F : Nat) : xnG call 167 (F + 1) 24 ls [vI 1] L = some (some (vI 1), L) := rfl
set_option maxRecDepth 100000 in
theorem bp_167_12 (call : QC FA) (x1 : Int32) (x2 : Int32) (x3 : Int32) (L : QH FA) (F : Nat) : xnG call 167 (F + 1) 10 [some (vR 0), some (vI x1), some (vI x2), some (vI x3)] [] L = xnG call 167 F 11 [some (vR 0), some (vI x1), some (vI x2), some (vI x3)] [vI 0] L := rfl
set_option maxRecDepth 100000 in
theorem bp_167_13 (call : QC FA) (ls : List (Option PV)) (L : QH FA) (F : Nat) : xnG call 167 (F + 1) 11 ls [vI 0] L = some (some (vI 0), L) := rfl
theorem vcp_167_0 (call : QC FA) (x1 : Int32) (x2 : Int32) (o3 : Option PV) (z : Nat → Int32) (f : Nat → FA) (res : Option PV × QH FA) (H : (∃ (r1 : Int32) (z1 : Nat → Int32) (f1 : Nat → FA), call 28 [vI x1, vI x2] (LW W z f) = some (some (vI r1), LW W z1 f1) ∧ (∃ (r2 : Int32) (z2 : Nat → Int32) (f2 : Nat → FA), call 6 [vR 2, vI r1] (LW W z1 f1) = some (some (vI r2), LW W z2 f2) ∧ ((¬ r2 = 0 → (∃ (z3 : Nat → Int32) (f3 : Nat → FA), call 141 [vR 12, vR 2] (LW W z2 f2) = some (none, LW W z3 f3) ∧ (∃ (z4 : Nat → Int32) (f4 : Nat → FA), call 101 [vR 8, vI r1, vI 3] (LW W z3 f3) = some (none, LW W z4 f4) ∧ res = (some (vI 1), LW W z4 f4)))) ∧ (r2 = 0 → res = (some (vI 0), LW W z2 f2)))))) : XC call (mP 167) 0 [some (vR 0), some (vI x1), some (vI x2), o3] [] (LW W z f) res := by
  refine xc_b (i' := 2) (ls' := [some (vR 0), some (vI x1), some (vI x2), o3]) (st' := [vI x2, vI x1]) (L' := LW W z f) 2 (bp_167_1 call x1 x2 o3 _) ?_
  obtain ⟨r1, z1, f1, hc, H⟩ := H
  refine xc_call (t := 3) (ls' := [some (vR 0), some (vI x1), some (vI x2), o3]) (st' := []) (bp_167_2 call x1 x2 _ z f) hc ?_
  show XC call (mP 167) 3 [some (vR 0), some (vI x1), some (vI x2), o3] [vI r1] (LW W z1 f1) res
  refine xc_b (i' := 8) (ls' := [some (vR 0), some (vI x1), some (vI x2), some (vI r1)]) (st' := [vI r1, vR 2]) (L' := LW W z1 f1) 5 (bp_167_3 call x1 x2 o3 r1 z1 f1) ?_
  obtain ⟨r2, z2, f2, hc, H⟩ := H
  refine xc_call (t := 9) (ls' := [some (vR 0), some (vI x1), some (vI x2), some (vI r1)]) (st' := []) (bp_167_4 call r1 _ z1 f1) hc ?_
  show XC call (mP 167) 9 [some (vR 0), some (vI x1), some (vI x2), some (vI r1)] [vI r2] (LW W z2 f2) res
  refine xc_if (it := 12) (ie := 10) (ls' := [some (vR 0), some (vI x1), some (vI x2), some (vI r1)]) (st' := []) (bp_167_5 call r2 _ _) (fun q1 => ?_) (fun q1 => ?_)
  · have H := H.1 (cI1t q1)
    refine xc_b (i' := 17) (ls' := [some (vR 0), some (vI x1), some (vI x2), some (vI r1)]) (st' := [vR 2, vR 12]) (L' := LW W z2 f2) 5 (bp_167_6 call x1 x2 r1 z2 f2) ?_
    obtain ⟨z3, f3, hc, H⟩ := H
    refine xc_call (t := 18) (ls' := [some (vR 0), some (vI x1), some (vI x2), some (vI r1)]) (st' := []) (bp_167_7 call _ z2 f2) hc ?_
    show XC call (mP 167) 18 [some (vR 0), some (vI x1), some (vI x2), some (vI r1)] [] (LW W z3 f3) res
    refine xc_b (i' := 22) (ls' := [some (vR 0), some (vI x1), some (vI x2), some (vI r1)]) (st' := [vI 3, vI r1, vR 8]) (L' := LW W z3 f3) 4 (bp_167_8 call x1 x2 r1 z3 f3) ?_
    obtain ⟨z4, f4, hc, H⟩ := H
    refine xc_call (t := 23) (ls' := [some (vR 0), some (vI x1), some (vI x2), some (vI r1)]) (st' := []) (bp_167_9 call r1 3 _ z3 f3) hc ?_
    show XC call (mP 167) 23 [some (vR 0), some (vI x1), some (vI x2), some (vI r1)] [] (LW W z4 f4) res
    refine xc_b (i' := 24) (ls' := [some (vR 0), some (vI x1), some (vI x2), some (vI r1)]) (st' := [vI 1]) (L' := LW W z4 f4) 1 (bp_167_10 call x1 x2 r1 _) ?_
    subst H
    exact xc_ret (bp_167_11 call _ _)
  · have H := H.2 (cI1f q1)
    refine xc_b (i' := 11) (ls' := [some (vR 0), some (vI x1), some (vI x2), some (vI r1)]) (st' := [vI 0]) (L' := LW W z2 f2) 1 (bp_167_12 call x1 x2 r1 _) ?_
    subst H
    exact xc_ret (bp_167_13 call _ _)
set_option maxRecDepth 100000 in
theorem bp_162_1 (call : QC FA) (x1 : Int32) (x2 : Int32) (z : Nat → Int32) (f : Nat → FA) (F : Nat) : xnG call 162 (F + 4) 0 [some (vR 0), some (vI x1), some (vI x2)] [] (LW W z f) = xnG call 162 F 4 [some (vR 0), some (vI x1), some (vI x2)] [vI x1, vR 2] (LW W z f) := rfl
set_option maxRecDepth 100000 in
theorem bp_162_2 (call : QC FA) (a0 : Int32) (ls : List (Option PV)) (z : Nat → Int32) (f : Nat → FA) (F : Nat) : xnG call 162 (F + 1) 4 ls [vI a0, vR 2] (LW W z f) = cbd (call 14 [vR 2, vI a0] (LW W z f)) (fun r L' => xnG call 162 F 5 ls (r.toList ++ []) L') := pcY (ih := xnG call 162 F) (call := call) (a := 14) (b := 1) (v := 0) (t := 5) (x := 2) (ls := ls) (As := [vI a0]) (st' := []) (L := LW W z f) rfl rfl rfl
set_option maxRecDepth 100000 in
theorem bp_162_3 (call : QC FA) (x : Int32) (ls : List (Option PV)) (L : QH FA) (F : Nat) : xnG call 162 (F + 1) 5 ls [vI x] L = bif pcmp 0 x 0 then xnG call 162 F 19 ls [] L else xnG call 162 F 6 ls [] L := rfl
set_option maxRecDepth 100000 in
theorem bp_162_4 (call : QC FA) (x1 : Int32) (x2 : Int32) (L : QH FA) (F : Nat) : xnG call 162 (F + 1) 19 [some (vR 0), some (vI x1), some (vI x2)] [] L = xnG call 162 F 20 [some (vR 0), some (vI x1), some (vI x2)] [vI 0] L := rfl
set_option maxRecDepth 100000 in
theorem bp_162_5 (call : QC FA) (ls : List (Option PV)) (L : QH FA) (F : Nat) : xnG call 162 (F + 1) 20 ls [vI 0] L = some (some (vI 0), L) := rfl
set_option maxRecDepth 100000 in
theorem bp_162_6 (call : QC FA) (x1 : Int32) (x2 : Int32) (L : QH FA) (F : Nat) : xnG call 162 (F + 1) 6 [some (vR 0), some (vI x1), some (vI x2)] [] L = xnG call 162 F 7 [some (vR 0), some (vI x1), some (vI x2)] [vI x2] L := rfl
set_option maxRecDepth 100000 in
theorem bp_162_7 (call : QC FA) (x : Int32) (ls : List (Option PV)) (L : QH FA) (F : Nat) : xnG call 162 (F + 1) 7 ls [vI x] L = bif pcmp 2 x 0 then xnG call 162 F 19 ls [] L else xnG call 162 F 8 ls [] L := rfl
set_option maxRecDepth 100000 in
theorem bp_162_8 (call : QC FA) (x1 : Int32) (x2 : Int32) (L : QH FA) (F : Nat) : xnG call 162 (F + 2) 8 [some (vR 0), some (vI x1), some (vI x2)] [] L = xnG call 162 F 10 [some (vR 0), some (vI x1), some (vI x2)] [vI 2, vI x2] L := rfl
set_option maxRecDepth 100000 in
theorem bp_162_9 (call : QC FA) (x y : Int32) (ls : List (Option PV)) (L : QH FA) (F : Nat) : xnG call 162 (F + 1) 10 ls [vI y, vI x] L = bif pcmp 4 x y then xnG call 162 F 19 ls [] L else xnG call 162 F 11 ls [] L := rfl
set_option maxRecDepth 100000 in
theorem bp_162_10 (call : QC FA) (x1 : Int32) (x2 : Int32) (z : Nat → Int32) (f : Nat → FA) (F : Nat) : xnG call 162 (F + 5) 11 [some (vR 0), some (vI x1), some (vI x2)] [] (LW W z f) = xnG call 162 F 16 [some (vR 0), some (vI x1), some (vI x2)] [vI 4, vI x1, vR 2] (LW W z f) := rfl
set_option maxRecDepth 100000 in
theorem bp_162_11 (call : QC FA) (a0 : Int32) (a1 : Int32) (ls : List (Option PV)) (z : Nat → Int32) (f : Nat → FA) (F : Nat) : xnG call 162 (F + 1) 16 ls [vI a1, vI a0, vR 2] (LW W z f) = cbd (call 13 [vR 2, vI a0, vI a1] (LW W z f)) (fun r L' => xnG call 162 F 17 ls (r.toList ++ []) L') := pcY (ih := xnG call 162 F) (call := call) (a := 13) (b := 2) (v := 0) (t := 17) (x := 2) (ls := ls) (As := [vI a0, vI a1]) (st' := []) (L := LW W z f) rfl rfl rfl
set_option maxRecDepth 100000 in
theorem bp_162_12 (call : QC FA) (x1 : Int32) (x2 : Int32) (s0 : Int32) (L : QH FA) (F : Nat) : xnG call 162 (F + 1) 17 [some (vR 0), some (vI x1), some (vI x2)] [vI s0] L = xnG call 162 F 18 [some (vR 0), some (vI x1), some (vI x2)] [vI x2, vI s0] L := rfl
set_option maxRecDepth 100000 in
theorem bp_162_13 (call : QC FA) (x y : Int32) (ls : List (Option PV)) (L : QH FA) (F : Nat) : xnG call 162 (F + 1) 18 ls [vI y, vI x] L = bif pcmp 1 x y then xnG call 162 F 21 ls [] L else xnG call 162 F 19 ls [] L := rfl
set_option maxRecDepth 100000 in
theorem bp_162_14 (call : QC FA) (x1 : Int32) (x2 : Int32) (z : Nat → Int32) (f : Nat → FA) (F : Nat) : xnG call 162 (F + 5) 21 [some (vR 0), some (vI x1), some (vI x2)] [] (LW W z f) = xnG call 162 F 26 [some (vR 0), some (vI x1), some (vI x2)] [vR 2, vR 12] (LW W z f) := rfl
set_option maxRecDepth 100000 in
theorem bp_162_15 (call : QC FA) (ls : List (Option PV)) (z : Nat → Int32) (f : Nat → FA) (F : Nat) : xnG call 162 (F + 1) 26 ls [vR 2, vR 12] (LW W z f) = cbd (call 141 [vR 12, vR 2] (LW W z f)) (fun r L' => xnG call 162 F 27 ls (r.toList ++ []) L') := pcY (ih := xnG call 162 F) (call := call) (a := 141) (b := 1) (v := 7) (t := 27) (x := 12) (ls := ls) (As := [vR 2]) (st' := []) (L := LW W z f) rfl rfl rfl
set_option maxRecDepth 100000 in
theorem bp_162_16 (call : QC FA) (x1 : Int32) (x2 : Int32) (z : Nat → Int32) (f : Nat → FA) (F : Nat) : xnG call 162 (F + 6) 27 [some (vR 0), some (vI x1), some (vI x2)] [] (LW W z f) = xnG call 162 F 33 [some (vR 0), some (vI x1), some (vI x2)] [vI x2, vI 4, vI x1, vR 2] (LW W z f) := rfl
set_option maxRecDepth 100000 in
theorem bp_162_17 (call : QC FA) (a0 : Int32) (a1 : Int32) (a2 : Int32) (ls : List (Option PV)) (z : Nat → Int32) (f : Nat → FA) (F : Nat) : xnG call 162 (F + 1) 33 ls [vI a2, vI a1, vI a0, vR 2] (LW W z f) = cbd (call 87 [vR 2, vI a0, vI a1, vI a2] (LW W z f)) (fun r L' => xnG call 162 F 34 ls (r.toList ++ []) L') := pcY (ih := xnG call 162 F) (call := call) (a := 87) (b := 3) (v := 0) (t := 34) (x := 2) (ls := ls) (As := [vI a0, vI a1, vI a2]) (st' := []) (L := LW W z f) rfl rfl rfl
set_option maxRecDepth 100000 in
theorem bp_162_18 (call : QC FA) (x1 : Int32) (x2 : Int32) (L : QH FA) (F : Nat) : xnG call 162 (F + 1) 34 [some (vR 0), some (vI x1), some (vI x2)] [] L = xnG call 162 F 35 [some (vR 0), some (vI x1), some (vI x2)] [vI 1] L := rfl
set_option maxRecDepth 100000 in
theorem bp_162_19 (call : QC FA) (ls : List (Option PV)) (L : QH FA) (F : Nat) : xnG call 162 (F + 1) 35 ls [vI 1] L = some (some (vI 1), L) := rfl
theorem vcp_162_0 (call : QC FA) (x1 : Int32) (x2 : Int32) (z : Nat → Int32) (f : Nat → FA) (res : Option PV × QH FA) (H : (∃ (r1 : Int32) (z1 : Nat → Int32) (f1 : Nat → FA), call 14 [vR 2, vI x1] (LW W z f) = some (some (vI r1), LW W z1 f1) ∧ ((r1 = 0 → res = (some (vI 0), LW W z1 f1)) ∧ (¬ r1 = 0 → ((I x2 < 0 → res = (some (vI 0), LW W z1 f1)) ∧ (0 ≤ I x2 → ((2 < I x2 → res = (some (vI 0), LW W z1 f1)) ∧ (I x2 ≤ 2 → (∃ (r2 : Int32) (z2 : Nat → Int32) (f2 : Nat → FA), call 13 [vR 2, vI x1, vI 4] (LW W z1 f1) = some (some (vI r2), LW W z2 f2) ∧ ((¬ r2 = x2 → (∃ (z3 : Nat → Int32) (f3 : Nat → FA), call 141 [vR 12, vR 2] (LW W z2 f2) = some (none, LW W z3 f3) ∧ (∃ (z4 : Nat → Int32) (f4 : Nat → FA), call 87 [vR 2, vI x1, vI 4, vI x2] (LW W z3 f3) = some (none, LW W z4 f4) ∧ res = (some (vI 1), LW W z4 f4)))) ∧ (r2 = x2 → res = (some (vI 0), LW W z2 f2)))))))))))) : XC call (mP 162) 0 [some (vR 0), some (vI x1), some (vI x2)] [] (LW W z f) res := by
  refine xc_b (i' := 4) (ls' := [some (vR 0), some (vI x1), some (vI x2)]) (st' := [vI x1, vR 2]) (L' := LW W z f) 4 (bp_162_1 call x1 x2 z f) ?_
  obtain ⟨r1, z1, f1, hc, H⟩ := H
  refine xc_call (t := 5) (ls' := [some (vR 0), some (vI x1), some (vI x2)]) (st' := []) (bp_162_2 call x1 _ z f) hc ?_
  show XC call (mP 162) 5 [some (vR 0), some (vI x1), some (vI x2)] [vI r1] (LW W z1 f1) res
  refine xc_if (it := 19) (ie := 6) (ls' := [some (vR 0), some (vI x1), some (vI x2)]) (st' := []) (bp_162_3 call r1 _ _) (fun q1 => ?_) (fun q1 => ?_)
  · have H := H.1 (cI0t q1)
    refine xc_b (i' := 20) (ls' := [some (vR 0), some (vI x1), some (vI x2)]) (st' := [vI 0]) (L' := LW W z1 f1) 1 (bp_162_4 call x1 x2 _) ?_
    subst H
    exact xc_ret (bp_162_5 call _ _)
  · have H := H.2 (cI0f q1)
    refine xc_b (i' := 7) (ls' := [some (vR 0), some (vI x1), some (vI x2)]) (st' := [vI x2]) (L' := LW W z1 f1) 1 (bp_162_6 call x1 x2 _) ?_
    refine xc_if (it := 19) (ie := 8) (ls' := [some (vR 0), some (vI x1), some (vI x2)]) (st' := []) (bp_162_7 call x2 _ _) (fun q2 => ?_) (fun q2 => ?_)
    · have H := H.1 (cI2t q2 rfl rfl)
      refine xc_b (i' := 20) (ls' := [some (vR 0), some (vI x1), some (vI x2)]) (st' := [vI 0]) (L' := LW W z1 f1) 1 (bp_162_4 call x1 x2 _) ?_
      subst H
      exact xc_ret (bp_162_5 call _ _)
    · have H := H.2 (cI2f q2 rfl rfl)
      refine xc_b (i' := 10) (ls' := [some (vR 0), some (vI x1), some (vI x2)]) (st' := [vI 2, vI x2]) (L' := LW W z1 f1) 2 (bp_162_8 call x1 x2 _) ?_
      refine xc_if (it := 19) (ie := 11) (ls' := [some (vR 0), some (vI x1), some (vI x2)]) (st' := []) (bp_162_9 call x2 2 _ _) (fun q3 => ?_) (fun q3 => ?_)
      · have H := H.1 (cI4t q3 rfl rfl)
        refine xc_b (i' := 20) (ls' := [some (vR 0), some (vI x1), some (vI x2)]) (st' := [vI 0]) (L' := LW W z1 f1) 1 (bp_162_4 call x1 x2 _) ?_
        subst H
        exact xc_ret (bp_162_5 call _ _)
      · have H := H.2 (cI4f q3 rfl rfl)
        refine xc_b (i' := 16) (ls' := [some (vR 0), some (vI x1), some (vI x2)]) (st' := [vI 4, vI x1, vR 2]) (L' := LW W z1 f1) 5 (bp_162_10 call x1 x2 z1 f1) ?_
        obtain ⟨r2, z2, f2, hc, H⟩ := H
        refine xc_call (t := 17) (ls' := [some (vR 0), some (vI x1), some (vI x2)]) (st' := []) (bp_162_11 call x1 4 _ z1 f1) hc ?_
        show XC call (mP 162) 17 [some (vR 0), some (vI x1), some (vI x2)] [vI r2] (LW W z2 f2) res
        refine xc_b (i' := 18) (ls' := [some (vR 0), some (vI x1), some (vI x2)]) (st' := [vI x2, vI r2]) (L' := LW W z2 f2) 1 (bp_162_12 call x1 x2 r2 _) ?_
        refine xc_if (it := 21) (ie := 19) (ls' := [some (vR 0), some (vI x1), some (vI x2)]) (st' := []) (bp_162_13 call r2 x2 _ _) (fun q4 => ?_) (fun q4 => ?_)
        · have H := H.1 (cI1t q4)
          refine xc_b (i' := 26) (ls' := [some (vR 0), some (vI x1), some (vI x2)]) (st' := [vR 2, vR 12]) (L' := LW W z2 f2) 5 (bp_162_14 call x1 x2 z2 f2) ?_
          obtain ⟨z3, f3, hc, H⟩ := H
          refine xc_call (t := 27) (ls' := [some (vR 0), some (vI x1), some (vI x2)]) (st' := []) (bp_162_15 call _ z2 f2) hc ?_
          show XC call (mP 162) 27 [some (vR 0), some (vI x1), some (vI x2)] [] (LW W z3 f3) res
          refine xc_b (i' := 33) (ls' := [some (vR 0), some (vI x1), some (vI x2)]) (st' := [vI x2, vI 4, vI x1, vR 2]) (L' := LW W z3 f3) 6 (bp_162_16 call x1 x2 z3 f3) ?_
          obtain ⟨z4, f4, hc, H⟩ := H
          refine xc_call (t := 34) (ls' := [some (vR 0), some (vI x1), some (vI x2)]) (st' := []) (bp_162_17 call x1 4 x2 _ z3 f3) hc ?_
          show XC call (mP 162) 34 [some (vR 0), some (vI x1), some (vI x2)] [] (LW W z4 f4) res
          refine xc_b (i' := 35) (ls' := [some (vR 0), some (vI x1), some (vI x2)]) (st' := [vI 1]) (L' := LW W z4 f4) 1 (bp_162_18 call x1 x2 _) ?_
          subst H
          exact xc_ret (bp_162_19 call _ _)
        · have H := H.2 (cI1f q4)
          refine xc_b (i' := 20) (ls' := [some (vR 0), some (vI x1), some (vI x2)]) (st' := [vI 0]) (L' := LW W z2 f2) 1 (bp_162_4 call x1 x2 _) ?_
          subst H
          exact xc_ret (bp_162_5 call _ _)
set_option maxRecDepth 100000 in
theorem bp_163_1 (call : QC FA) (x1 : Int32) (o2 : Option PV) (o3 : Option PV) (L : QH FA) (F : Nat) : xnG call 163 (F + 2) 0 [some (vR 0), some (vI x1), o2, o3] [] L = xnG call 163 F 2 [some (vR 0), some (vI x1), o2, o3] [vI 1, vI x1] L := rfl
set_option maxRecDepth 100000 in
theorem bp_163_2 (call : QC FA) (x y : Int32) (ls : List (Option PV)) (L : QH FA) (F : Nat) : xnG call 163 (F + 1) 2 ls [vI y, vI x] L = bif pcmp 2 x y then xnG call 163 F 21 ls [] L else xnG call 163 F 3 ls [] L := rfl
set_option maxRecDepth 100000 in
theorem bp_163_3 (call : QC FA) (x1 : Int32) (o2 : Option PV) (o3 : Option PV) (L : QH FA) (F : Nat) : xnG call 163 (F + 1) 21 [some (vR 0), some (vI x1), o2, o3] [] L = xnG call 163 F 22 [some (vR 0), some (vI x1), o2, o3] [vI ((-1))] L := rfl
set_option maxRecDepth 100000 in
theorem bp_163_4 (call : QC FA) (x : Int32) (ls : List (Option PV)) (L : QH FA) (F : Nat) : xnG call 163 (F + 1) 22 ls [vI x] L = some (some (vI x), L) := rfl
set_option maxRecDepth 100000 in
theorem bp_163_5 (call : QC FA) (x1 : Int32) (o2 : Option PV) (o3 : Option PV) (L : QH FA) (F : Nat) : xnG call 163 (F + 2) 3 [some (vR 0), some (vI x1), o2, o3] [] L = xnG call 163 F 5 [some (vR 0), some (vI x1), o2, o3] [vI 60, vI x1] L := rfl
set_option maxRecDepth 100000 in
theorem bp_163_6 (call : QC FA) (x y : Int32) (ls : List (Option PV)) (L : QH FA) (F : Nat) : xnG call 163 (F + 1) 5 ls [vI y, vI x] L = bif pcmp 4 x y then xnG call 163 F 21 ls [] L else xnG call 163 F 6 ls [] L := rfl
set_option maxRecDepth 100000 in
theorem bp_163_7 (call : QC FA) (x1 : Int32) (o2 : Option PV) (o3 : Option PV) (z : Nat → Int32) (f : Nat → FA) (F : Nat) : xnG call 163 (F + 11) 6 [some (vR 0), some (vI x1), o2, o3] [] (LW W z f) = xnG call 163 F 17 [some (vR 0), some (vI x1), o2, o3] [vI 12, vI ((z 24) + x1), vI (z 25)] (LW W z f) := rfl
set_option maxRecDepth 100000 in
theorem bp_163_8 (call : QC FA) (x y : Int32) (s0 : Int32) (ls : List (Option PV)) (L : QH FA) (F : Nat) : xnG call 163 (F + 1) 17 ls [vI y, vI x, vI s0] L = bif pcmp 1 y 0 then xnG call 163 F 18 ls [vI (x / y), vI s0] L else none := rfl
set_option maxRecDepth 100000 in
theorem bp_163_9 (call : QC FA) (x1 : Int32) (o2 : Option PV) (o3 : Option PV) (s0 : Int32) (s1 : Int32) (L : QH FA) (F : Nat) : xnG call 163 (F + 2) 18 [some (vR 0), some (vI x1), o2, o3] [vI s0, vI s1] L = xnG call 163 F 20 [some (vR 0), some (vI x1), o2, o3] [vI 9990, vI (s1 + s0)] L := rfl
set_option maxRecDepth 100000 in
theorem bp_163_10 (call : QC FA) (x y : Int32) (ls : List (Option PV)) (L : QH FA) (F : Nat) : xnG call 163 (F + 1) 20 ls [vI y, vI x] L = bif pcmp 5 x y then xnG call 163 F 23 ls [] L else xnG call 163 F 21 ls [] L := rfl
set_option maxRecDepth 100000 in
theorem bp_163_11 (call : QC FA) (x1 : Int32) (o2 : Option PV) (o3 : Option PV) (L : QH FA) (F : Nat) : xnG call 163 (F + 4) 23 [some (vR 0), some (vI x1), o2, o3] [] L = xnG call 163 F 27 [some (vR 0), some (vI x1), some (vI 0), some (vI 0)] [] L := rfl
theorem vcp_163_0 (call : QC FA) (x1 : Int32) (o2 : Option PV) (o3 : Option PV) (z : Nat → Int32) (f : Nat → FA) (res : Option PV × QH FA) (H : ((I x1 < 1 → res = (some (vI ((-1))), LW W z f)) ∧ (1 ≤ I x1 → ((60 < I x1 → res = (some (vI ((-1))), LW W z f)) ∧ (I x1 ≤ 60 → (¬ (12 : Int32) = 0 ∧ ((I ((z 25) + (((z 24) + x1) / 12)) ≤ 9990 → XC call (mP 163) 27 [some (vR 0), some (vI x1), some (vI 0), some (vI 0)] [] (LW W z f) res) ∧ (9990 < I ((z 25) + (((z 24) + x1) / 12)) → res = (some (vI ((-1))), LW W z f))))))))) : XC call (mP 163) 0 [some (vR 0), some (vI x1), o2, o3] [] (LW W z f) res := by
  refine xc_b (i' := 2) (ls' := [some (vR 0), some (vI x1), o2, o3]) (st' := [vI 1, vI x1]) (L' := LW W z f) 2 (bp_163_1 call x1 o2 o3 _) ?_
  refine xc_if (it := 21) (ie := 3) (ls' := [some (vR 0), some (vI x1), o2, o3]) (st' := []) (bp_163_2 call x1 1 _ _) (fun q1 => ?_) (fun q1 => ?_)
  · have H := H.1 (cI2t q1 rfl rfl)
    refine xc_b (i' := 22) (ls' := [some (vR 0), some (vI x1), o2, o3]) (st' := [vI ((-1))]) (L' := LW W z f) 1 (bp_163_3 call x1 o2 o3 _) ?_
    subst H
    exact xc_ret (bp_163_4 call _ _ _)
  · have H := H.2 (cI2f q1 rfl rfl)
    refine xc_b (i' := 5) (ls' := [some (vR 0), some (vI x1), o2, o3]) (st' := [vI 60, vI x1]) (L' := LW W z f) 2 (bp_163_5 call x1 o2 o3 _) ?_
    refine xc_if (it := 21) (ie := 6) (ls' := [some (vR 0), some (vI x1), o2, o3]) (st' := []) (bp_163_6 call x1 60 _ _) (fun q2 => ?_) (fun q2 => ?_)
    · have H := H.1 (cI4t q2 rfl rfl)
      refine xc_b (i' := 22) (ls' := [some (vR 0), some (vI x1), o2, o3]) (st' := [vI ((-1))]) (L' := LW W z f) 1 (bp_163_3 call x1 o2 o3 _) ?_
      subst H
      exact xc_ret (bp_163_4 call _ _ _)
    · have H := H.2 (cI4f q2 rfl rfl)
      refine xc_b (i' := 17) (ls' := [some (vR 0), some (vI x1), o2, o3]) (st' := [vI 12, vI ((z 24) + x1), vI (z 25)]) (L' := LW W z f) 11 (bp_163_7 call x1 o2 o3 z f) ?_
      obtain ⟨g1, H⟩ := H
      refine xc_g (i' := 18) (ls' := [some (vR 0), some (vI x1), o2, o3]) (st' := [vI (((z 24) + x1) / 12), vI (z 25)]) (L' := LW W z f) (bp_163_8 call ((z 24) + x1) 12 (z 25) _ _) (cmp_ne.trans (decide_eq_true g1)) ?_
      refine xc_b (i' := 20) (ls' := [some (vR 0), some (vI x1), o2, o3]) (st' := [vI 9990, vI ((z 25) + (((z 24) + x1) / 12))]) (L' := LW W z f) 2 (bp_163_9 call x1 o2 o3 (((z 24) + x1) / 12) (z 25) _) ?_
      refine xc_if (it := 23) (ie := 21) (ls' := [some (vR 0), some (vI x1), o2, o3]) (st' := []) (bp_163_10 call ((z 25) + (((z 24) + x1) / 12)) 9990 _ _) (fun q3 => ?_) (fun q3 => ?_)
      · have H := H.1 (cI5t q3 rfl rfl)
        refine xc_b (i' := 27) (ls' := [some (vR 0), some (vI x1), some (vI 0), some (vI 0)]) (st' := []) (L' := LW W z f) 4 (bp_163_11 call x1 o2 o3 _) ?_
        exact H
      · have H := H.2 (cI5f q3 rfl rfl)
        refine xc_b (i' := 22) (ls' := [some (vR 0), some (vI x1), o2, o3]) (st' := [vI ((-1))]) (L' := LW W z f) 1 (bp_163_3 call x1 o2 o3 _) ?_
        subst H
        exact xc_ret (bp_163_4 call _ _ _)
set_option maxRecDepth 100000 in
theorem bp_c27_163_1 (call : QC FA) (x1 : Int32) (x2 : Int32) (x3 : Int32) (L : QH FA) (F : Nat) : xnG call 163 (F + 2) 27 [some (vR 0), some (vI x1), some (vI x2), some (vI x3)] [] L = xnG call 163 F 29 [some (vR 0), some (vI x1), some (vI x2), some (vI x3)] [vI x1, vI x3] L := rfl
set_option maxRecDepth 100000 in
theorem bp_c27_163_2 (call : QC FA) (x y : Int32) (ls : List (Option PV)) (L : QH FA) (F : Nat) : xnG call 163 (F + 1) 29 ls [vI y, vI x] L = bif pcmp 3 x y then xnG call 163 F 49 ls [] L else xnG call 163 F 30 ls [] L := rfl
set_option maxRecDepth 100000 in
theorem bp_c27_163_3 (call : QC FA) (x1 : Int32) (x2 : Int32) (x3 : Int32) (L : QH FA) (F : Nat) : xnG call 163 (F + 1) 49 [some (vR 0), some (vI x1), some (vI x2), some (vI x3)] [] L = xnG call 163 F 50 [some (vR 0), some (vI x1), some (vI x2), some (vI x3)] [vI x2] L := rfl
set_option maxRecDepth 100000 in
theorem bp_c27_163_4 (call : QC FA) (x : Int32) (ls : List (Option PV)) (L : QH FA) (F : Nat) : xnG call 163 (F + 1) 50 ls [vI x] L = some (some (vI x), L) := rfl
set_option maxRecDepth 100000 in
theorem bp_c27_163_5 (call : QC FA) (x1 : Int32) (x2 : Int32) (x3 : Int32) (L : QH FA) (F : Nat) : xnG call 163 (F + 4) 30 [some (vR 0), some (vI x1), some (vI x2), some (vI x3)] [] L = xnG call 163 F 34 [some (vR 0), some (vI x1), some (vI x2), some (vI x3)] [vI 6, vI (x1 - x3)] L := rfl
set_option maxRecDepth 100000 in
theorem bp_c27_163_6 (call : QC FA) (x y : Int32) (ls : List (Option PV)) (L : QH FA) (F : Nat) : xnG call 163 (F + 1) 34 ls [vI y, vI x] L = bif pcmp 4 x y then xnG call 163 F 41 ls [] L else xnG call 163 F 35 ls [] L := rfl
set_option maxRecDepth 100000 in
theorem bp_c27_163_7 (call : QC FA) (x1 : Int32) (x2 : Int32) (x3 : Int32) (z : Nat → Int32) (f : Nat → FA) (F : Nat) : xnG call 163 (F + 3) 41 [some (vR 0), some (vI x1), some (vI x2), some (vI x3)] [] (LW W z f) = xnG call 163 F 44 [some (vR 0), some (vI x1), some (vI x2), some (vI x3)] [vR 8, vI x2] (LW W z f) := rfl
set_option maxRecDepth 100000 in
theorem bp_c27_163_8 (call : QC FA) (s0 : Int32) (ls : List (Option PV)) (z : Nat → Int32) (f : Nat → FA) (F : Nat) : xnG call 163 (F + 1) 44 ls [vR 8, vI s0] (LW W z f) = cbd (call 98 [vR 8] (LW W z f)) (fun r L' => xnG call 163 F 45 ls (r.toList ++ [vI s0]) L') := pcY (ih := xnG call 163 F) (call := call) (a := 98) (b := 0) (v := 1) (t := 45) (x := 8) (ls := ls) (As := []) (st' := [vI s0]) (L := LW W z f) rfl rfl rfl
set_option maxRecDepth 100000 in
theorem bp_c27_163_9 (call : QC FA) (x1 : Int32) (x2 : Int32) (x3 : Int32) (s0 : Int32) (s1 : Int32) (L : QH FA) (F : Nat) : xnG call 163 (F + 2) 45 [some (vR 0), some (vI x1), some (vI x2), some (vI x3)] [vI s0, vI s1] L = xnG call 163 F 47 [some (vR 0), some (vI x1), some (vI (s1 + s0)), some (vI x3)] [] L := rfl
set_option maxRecDepth 100000 in
theorem bp_c27_163_10 (call : QC FA) (x1 : Int32) (x2 : Int32) (x3 : Int32) (L : QH FA) (F : Nat) : xnG call 163 (F + 1) 47 [some (vR 0), some (vI x1), some (vI x2), some (vI x3)] [] L = xnG call 163 F 48 [some (vR 0), some (vI x1), some (vI x2), some (vI (x3 + 1))] [] L := rfl
set_option maxRecDepth 100000 in
theorem bp_c27_163_11 (call : QC FA) (x1 : Int32) (x2 : Int32) (x3 : Int32) (L : QH FA) (F : Nat) : xnG call 163 (F + 1) 48 [some (vR 0), some (vI x1), some (vI x2), some (vI x3)] [] L = xnG call 163 F 27 [some (vR 0), some (vI x1), some (vI x2), some (vI x3)] [] L := rfl
set_option maxRecDepth 100000 in
theorem bp_c27_163_12 (call : QC FA) (x1 : Int32) (x2 : Int32) (x3 : Int32) (z : Nat → Int32) (f : Nat → FA) (F : Nat) : xnG call 163 (F + 5) 35 [some (vR 0), some (vI x1), some (vI x2), some (vI x3)] [] (LW W z f) = xnG call 163 F 40 [some (vR 0), some (vI x1), some (vI x2), some (vI x3)] [vR 2, vR 12] (LW W z f) := rfl
set_option maxRecDepth 100000 in
theorem bp_c27_163_13 (call : QC FA) (ls : List (Option PV)) (z : Nat → Int32) (f : Nat → FA) (F : Nat) : xnG call 163 (F + 1) 40 ls [vR 2, vR 12] (LW W z f) = cbd (call 141 [vR 12, vR 2] (LW W z f)) (fun r L' => xnG call 163 F 41 ls (r.toList ++ []) L') := pcY (ih := xnG call 163 F) (call := call) (a := 141) (b := 1) (v := 7) (t := 41) (x := 12) (ls := ls) (As := [vR 2]) (st' := []) (L := LW W z f) rfl rfl rfl
theorem vcp_c27_163_27 (call : QC FA) (x1 : Int32) (x2 : Int32) (x3 : Int32) (z : Nat → Int32) (f : Nat → FA) (res : Option PV × QH FA) (H : ((I x1 ≤ I x3 → res = (some (vI x2), LW W z f)) ∧ (I x3 < I x1 → ((6 < I (x1 - x3) → (∃ (r1 : Int32) (z1 : Nat → Int32) (f1 : Nat → FA), call 98 [vR 8] (LW W z f) = some (some (vI r1), LW W z1 f1) ∧ XC call (mP 163) 27 [some (vR 0), some (vI x1), some (vI (x2 + r1)), some (vI (x3 + 1))] [] (LW W z1 f1) res)) ∧ (I (x1 - x3) ≤ 6 → (∃ (z2 : Nat → Int32) (f2 : Nat → FA), call 141 [vR 12, vR 2] (LW W z f) = some (none, LW W z2 f2) ∧ (∃ (r3 : Int32) (z3 : Nat → Int32) (f3 : Nat → FA), call 98 [vR 8] (LW W z2 f2) = some (some (vI r3), LW W z3 f3) ∧ XC call (mP 163) 27 [some (vR 0), some (vI x1), some (vI (x2 + r3)), some (vI (x3 + 1))] [] (LW W z3 f3) res))))))) : XC call (mP 163) 27 [some (vR 0), some (vI x1), some (vI x2), some (vI x3)] [] (LW W z f) res := by
  refine xc_b (i' := 29) (ls' := [some (vR 0), some (vI x1), some (vI x2), some (vI x3)]) (st' := [vI x1, vI x3]) (L' := LW W z f) 2 (bp_c27_163_1 call x1 x2 x3 _) ?_
  refine xc_if (it := 49) (ie := 30) (ls' := [some (vR 0), some (vI x1), some (vI x2), some (vI x3)]) (st' := []) (bp_c27_163_2 call x3 x1 _ _) (fun q1 => ?_) (fun q1 => ?_)
  · have H := H.1 (cI3t q1 rfl rfl)
    refine xc_b (i' := 50) (ls' := [some (vR 0), some (vI x1), some (vI x2), some (vI x3)]) (st' := [vI x2]) (L' := LW W z f) 1 (bp_c27_163_3 call x1 x2 x3 _) ?_
    subst H
    exact xc_ret (bp_c27_163_4 call _ _ _)
  · have H := H.2 (cI3f q1 rfl rfl)
    refine xc_b (i' := 34) (ls' := [some (vR 0), some (vI x1), some (vI x2), some (vI x3)]) (st' := [vI 6, vI (x1 - x3)]) (L' := LW W z f) 4 (bp_c27_163_5 call x1 x2 x3 _) ?_
    refine xc_if (it := 41) (ie := 35) (ls' := [some (vR 0), some (vI x1), some (vI x2), some (vI x3)]) (st' := []) (bp_c27_163_6 call (x1 - x3) 6 _ _) (fun q2 => ?_) (fun q2 => ?_)
    · have H := H.1 (cI4t q2 rfl rfl)
      refine xc_b (i' := 44) (ls' := [some (vR 0), some (vI x1), some (vI x2), some (vI x3)]) (st' := [vR 8, vI x2]) (L' := LW W z f) 3 (bp_c27_163_7 call x1 x2 x3 z f) ?_
      obtain ⟨r1, z1, f1, hc, H⟩ := H
      refine xc_call (t := 45) (ls' := [some (vR 0), some (vI x1), some (vI x2), some (vI x3)]) (st' := [vI x2]) (bp_c27_163_8 call x2 _ z f) hc ?_
      show XC call (mP 163) 45 [some (vR 0), some (vI x1), some (vI x2), some (vI x3)] [vI r1, vI x2] (LW W z1 f1) res
      refine xc_b (i' := 47) (ls' := [some (vR 0), some (vI x1), some (vI (x2 + r1)), some (vI x3)]) (st' := []) (L' := LW W z1 f1) 2 (bp_c27_163_9 call x1 x2 x3 r1 x2 _) ?_
      refine xc_b (i' := 48) (ls' := [some (vR 0), some (vI x1), some (vI (x2 + r1)), some (vI (x3 + 1))]) (st' := []) (L' := LW W z1 f1) 1 (bp_c27_163_10 call x1 (x2 + r1) x3 _) ?_
      refine xc_b (i' := 27) (ls' := [some (vR 0), some (vI x1), some (vI (x2 + r1)), some (vI (x3 + 1))]) (st' := []) (L' := LW W z1 f1) 1 (bp_c27_163_11 call x1 (x2 + r1) (x3 + 1) _) ?_
      exact H
    · have H := H.2 (cI4f q2 rfl rfl)
      refine xc_b (i' := 40) (ls' := [some (vR 0), some (vI x1), some (vI x2), some (vI x3)]) (st' := [vR 2, vR 12]) (L' := LW W z f) 5 (bp_c27_163_12 call x1 x2 x3 z f) ?_
      obtain ⟨z2, f2, hc, H⟩ := H
      refine xc_call (t := 41) (ls' := [some (vR 0), some (vI x1), some (vI x2), some (vI x3)]) (st' := []) (bp_c27_163_13 call _ z f) hc ?_
      show XC call (mP 163) 41 [some (vR 0), some (vI x1), some (vI x2), some (vI x3)] [] (LW W z2 f2) res
      refine xc_b (i' := 44) (ls' := [some (vR 0), some (vI x1), some (vI x2), some (vI x3)]) (st' := [vR 8, vI x2]) (L' := LW W z2 f2) 3 (bp_c27_163_7 call x1 x2 x3 z2 f2) ?_
      obtain ⟨r3, z3, f3, hc, H⟩ := H
      refine xc_call (t := 45) (ls' := [some (vR 0), some (vI x1), some (vI x2), some (vI x3)]) (st' := [vI x2]) (bp_c27_163_8 call x2 _ z2 f2) hc ?_
      show XC call (mP 163) 45 [some (vR 0), some (vI x1), some (vI x2), some (vI x3)] [vI r3, vI x2] (LW W z3 f3) res
      refine xc_b (i' := 47) (ls' := [some (vR 0), some (vI x1), some (vI (x2 + r3)), some (vI x3)]) (st' := []) (L' := LW W z3 f3) 2 (bp_c27_163_9 call x1 x2 x3 r3 x2 _) ?_
      refine xc_b (i' := 48) (ls' := [some (vR 0), some (vI x1), some (vI (x2 + r3)), some (vI (x3 + 1))]) (st' := []) (L' := LW W z3 f3) 1 (bp_c27_163_10 call x1 (x2 + r3) x3 _) ?_
      refine xc_b (i' := 27) (ls' := [some (vR 0), some (vI x1), some (vI (x2 + r3)), some (vI (x3 + 1))]) (st' := []) (L' := LW W z3 f3) 1 (bp_c27_163_11 call x1 (x2 + r3) (x3 + 1) _) ?_
      exact H
theorem wCellAt (d : Nat) {a b : Nat} (ha : a < 12) (hb : b < 12) {z : Nat → Int32} {f : Nat → FA} : xcall (d + 1) 28 [vI (nI a), vI (nI b)] (LW W z f) = some (some (vI (nI (12 * a + b))), LW W z f) := by
  have ia : I (nI a) = a := I_nI (by omega)
  have ib : I (nI b) = b := I_nI (by omega)
  have e : nI a * 12 + nI b = nI (12 * a + b) := by rw [show (12 : Int32) = nI 12 from rfl, mul_nI, nI_add, Nat.mul_comm]
  exact xcall_i (mq28 (cu := [])).2.2 rfl (vcp_28_0 (xcall d) (nI a) (nI b) none z f _ ⟨fun q => by omega, fun _ => ⟨fun q => by omega, fun _ => ⟨fun q => by omega, fun _ => ⟨fun q => by omega, fun _ => by rw [e]⟩⟩⟩⟩)
theorem wCellAtN (d : Nat) {x y : Int32} (h : ¬ ((0 ≤ I x ∧ I x ≤ 11) ∧ (0 ≤ I y ∧ I y ≤ 11))) {z : Nat → Int32} {f : Nat → FA} : xcall (d + 1) 28 [vI x, vI y] (LW W z f) = some (some (vI (-1)), LW W z f) :=
  xcall_i (mq28 (cu := [])).2.2 rfl (vcp_28_0 (xcall d) x y none z f _ ⟨fun _ => rfl, fun _ => ⟨fun _ => rfl, fun _ => ⟨fun _ => rfl, fun _ => ⟨fun _ => rfl, fun q => absurd ⟨⟨by omega, by omega⟩, ⟨by omega, by omega⟩⟩ h⟩⟩⟩⟩)
theorem wMayN (d : Nat) {x : Int32} {z : Nat → Int32} {f : Nat → FA} {nv : Nat} (hz : z 22 = nI nv) (hn : nv ≤ 20) (h : ¬ (0 ≤ I x ∧ I x < nv)) : xcall (d + 3) 84 [vR 2, vI x] (LW W z f) = some (some (vI 0), LW W z f) := by
  have h1 := wHasn (W := W) (d + 1) x (f := f) hz hn
  rw [mk1_f h] at h1
  exact xcall_i (mq84 (cu := [])).2.2 rfl (vcp_84_0 (xcall (d + 2)) x z f _ ⟨_, _, _, h1, fun _ => rfl, fun q => absurd rfl q⟩)
section PLAY
variable {L : LAW} {n nv nw ns : Nat}
/-- a thumb is left -/
theorem simPressU (d d' : Nat) {c : Nat} {z zr : Nat → Int32} {f r : Nat → FA} (x y : Int32) (hR : WR W L n nv nw ns z f zr r) (hG : RGA c c c nv z f zr r) : ∃ a z' f' zr' r' c', xcall (d + 5) 174 [vR 0, vI x, vI y] (LW W z f) = some (some (vI a), LW W z' f') ∧ mcall (d' + 5) 248 [vR 0, vI x, vI y] (LR zr r) = some (some (vI a), LR zr' r') ∧ WR W L n nv nw ns z' f' zr' r' ∧ RGA c' c' c' nv z' f' zr' r' ∧ HF z f zr r z' f' zr' r' := by
  have hn := hR.1.1.1
  have zv : z 22 = nI nv := hR.1.1.2.1.1
  have R0 := hR.z0
  have G0 := hG.z0
  have mv := mVoter (d' + 3) x hn (r := r) R0.2.2.2.2
  by_cases cv : 0 ≤ I x ∧ I x < nv
  · obtain ⟨v, rfl, v1, v2⟩ := nI_ofI cv.1
    have hv : v < nv := by omega
    rw [mk1_t cv] at mv
    obtain ⟨b1, b2, b3, b4, b5, b6, -⟩ := hR.1.1.2.2.1 v hv
    have t20 : f 3 (20 + v) = r 1 (7 + v) := b2
    have t80 : f 3 (80 + v) = r 1 (27 + v) := b5
    have may := wMayn (W := W) (d + 1) (f := f) zv hn hv
    rw [t20, t80] at may
    have can := mCan (d' + 3) (v := v) (by omega) (z := uZ zr 0 0) (r := r)
    by_cases cc : r 1 (27 + v) = 0 ∧ ¬ r 1 (7 + v) = 0
    · rw [mk1_t cc] at may can
      by_cases cy : 0 ≤ I y ∧ I y ≤ 11
      · obtain ⟨col, rfl, y1, y2⟩ := nI_ofI cy.1
        obtain ⟨z1, f1, zr1, r1, a1, a2, a3, a4, a5, a6, a7, a8⟩ := simKeep (W := W) (d + 2) (d' + 1) R0.1 G0
        obtain ⟨i, z2, f2, r2, hi, t1, t2, t3, t4⟩ := simPressn (W := W) d (d' + 2) hv (show col < 12 by omega) a3 (by rw [a8 1 (by decide)]; exact cc.2)
        have H1 := (HF.z0 z f zr r).trans ((HF.kp a5 a6 a7 a8).trans (t4.hf zr1))
        exact ⟨nI i, z2, f2, zr1, r2, _, xcall_i (mq174 (cu := [])).2.2 rfl (vcp_174_0 (xcall (d + 4)) _ _ z f _ ⟨_, _, _, may, fun q => absurd q (by decide), fun _ => ⟨fun q => by omega, fun _ => ⟨fun _ => ⟨_, _, a1, _, _, _, t1, rfl⟩, fun q => by omega⟩⟩⟩), mcall_i (mq248 (cu := [])).2.2 rfl (vc248_0 d' _ _ zr r _ ⟨_, _, _, mv, fun q => absurd q (by decide), fun _ => ⟨fun _ => ⟨_, _, _, can, fun _ => ⟨_, _, a2, _, _, _, t2, rfl⟩, fun q => absurd q (by decide)⟩, fun q => absurd cy q⟩⟩), hR.hf t3 H1, (a4.fr t4).eq rfl rfl rfl, H1⟩
      · exact ⟨-1, z, f, uZ zr 0 0, r, c, xcall_i (mq174 (cu := [])).2.2 rfl (vcp_174_0 (xcall (d + 4)) _ _ z f _ ⟨_, _, _, may, fun q => absurd q (by decide), fun _ => ⟨fun _ => rfl, fun q => ⟨fun q2 => absurd ⟨q, by omega⟩ cy, fun _ => rfl⟩⟩⟩), mcall_i (mq248 (cu := [])).2.2 rfl (vc248_0 d' _ _ zr r _ ⟨_, _, _, mv, fun q => absurd q (by decide), fun _ => ⟨fun q => absurd q cy, fun _ => rfl⟩⟩), R0, G0, HF.z0 z f zr r⟩
    · rw [mk1_f cc] at may can
      exact ⟨-1, z, f, uZ zr 0 0, r, c, xcall_i (mq174 (cu := [])).2.2 rfl (vcp_174_0 (xcall (d + 4)) _ _ z f _ ⟨_, _, _, may, fun _ => rfl, fun q => absurd rfl q⟩), mcall_i (mq248 (cu := [])).2.2 rfl (vc248_0 d' _ _ zr r _ ⟨_, _, _, mv, fun q => absurd q (by decide), fun _ => ⟨fun _ => ⟨_, _, _, can, fun q => absurd rfl q, fun _ => rfl⟩, fun _ => rfl⟩⟩), R0, G0, HF.z0 z f zr r⟩
  · rw [mk1_f cv] at mv
    exact ⟨-1, z, f, uZ zr 0 0, r, c, xcall_i (mq174 (cu := [])).2.2 rfl (vcp_174_0 (xcall (d + 4)) _ _ z f _ ⟨_, _, _, wMayN (d + 1) zv hn cv, fun _ => rfl, fun q => absurd rfl q⟩), mcall_i (mq248 (cu := [])).2.2 rfl (vc248_0 d' _ _ zr r _ ⟨_, _, _, mv, fun _ => rfl, fun q => absurd rfl q⟩), R0, G0, HF.z0 z f zr r⟩
/-- a mark is lifted by hand -/
theorem simLiftU (d d' : Nat) {c : Nat} {z zr : Nat → Int32} {f r : Nat → FA} (x y : Int32) (hR : WR W L n nv nw ns z f zr r) (hG : RGA c c c nv z f zr r) : ∃ a z' f' zr' r' c', xcall (d + 5) 167 [vR 0, vI x, vI y] (LW W z f) = some (some (vI a), LW W z' f') ∧ mcall (d' + 5) 235 [vR 0, vI x, vI y] (LR zr r) = some (some (vI a), LR zr' r') ∧ WR W L n nv nw ns z' f' zr' r' ∧ RGA c' c' c' nv z' f' zr' r' ∧ HF z f zr r z' f' zr' r' := by
  have hn := hR.1.1.1
  have R0 := hR.z0
  have G0 := hG.z0
  by_cases cx : (0 ≤ I x ∧ I x ≤ 11) ∧ (0 ≤ I y ∧ I y ≤ 11)
  · obtain ⟨cx, cy⟩ := cx
    obtain ⟨a, rfl, x1, x2⟩ := nI_ofI cx.1
    obtain ⟨b, rfl, y1, y2⟩ := nI_ofI cy.1
    have hi : 12 * a + b < 144 := by omega
    have e : (12 : Int32) * nI a + nI b = nI (12 * a + b) := by rw [show (12 : Int32) = nI 12 from rfl, mul_nI, nI_add]
    have c0 := wCellAt (W := W) (d + 3) (a := a) (b := b) (by omega) (by omega) (z := z) (f := f)
    have c1 := wMkdn (W := W) (d + 3) (z := z) (f := f) hi
    have c2 := mIs (d' + 3) hi (z := uZ zr 0 0) (f := r)
    have hmm := hR.1.1.2.2.2.1
    by_cases cm : f 4 (12 * a + b) = 0
    · have cm' : ¬ 0 < I (r 1 (67 + (12 * a + b))) := fun q => ((hmm _ hi).iff hn).mpr q cm
      rw [mk1_f (fun q => q cm)] at c1
      rw [mk1_f cm'] at c2
      exact ⟨0, z, f, uZ zr 0 0, r, c, xcall_i (mq167 (cu := [])).2.2 rfl (vcp_167_0 (xcall (d + 4)) _ _ none z f _ ⟨_, _, _, c0, _, _, _, c1, fun q => absurd rfl q, fun _ => rfl⟩), mcall_i (mq235 (cu := [])).2.2 rfl (vc235_0 d' _ _ zr r _ ⟨fun _ => ⟨fun _ => ⟨_, _, _, by rw [e]; exact c2, fun q => absurd rfl q, fun _ => rfl⟩, fun q => absurd cy q⟩, fun q => absurd cx q⟩), R0, G0, HF.z0 z f zr r⟩
    · have cm' : 0 < I (r 1 (67 + (12 * a + b))) := ((hmm _ hi).iff hn).mp cm
      rw [mk1_t cm] at c1
      rw [mk1_t cm', ← e] at c2
      obtain ⟨z1, f1, zr1, r1, a1, a2, a3, a4, a5, a6, a7, a8⟩ := simKeep (W := W) (d + 2) (d' + 1) R0.1 G0
      obtain ⟨z2, f2, r2, t1, t2, t3, t4⟩ := simLiftn (W := W) (d + 1) (d' + 2) hi a3
      rw [← e] at t2
      have H1 := (HF.z0 z f zr r).trans ((HF.kp a5 a6 a7 a8).trans (t4.hf zr1))
      exact ⟨1, z2, f2, zr1, r2, _, xcall_i (mq167 (cu := [])).2.2 rfl (vcp_167_0 (xcall (d + 4)) _ _ none z f _ ⟨_, _, _, c0, _, _, _, c1, fun _ => ⟨_, _, a1, _, _, t1, rfl⟩, fun q => absurd q (by decide)⟩), mcall_i (mq235 (cu := [])).2.2 rfl (vc235_0 d' _ _ zr r _ ⟨fun _ => ⟨fun _ => ⟨_, _, _, c2, fun _ => ⟨_, _, a2, _, _, t2, rfl⟩, fun q => absurd q (by decide)⟩, fun q => absurd cy q⟩, fun q => absurd cx q⟩), hR.hf t3 H1, (a4.fr t4).eq rfl rfl rfl, H1⟩
  · have c1 := wMkdXn (W := W) (d + 3) (-1) (z := z) (f := f)
    rw [mkB_f (fun q => absurd q.1 (by decide))] at c1
    exact ⟨0, z, f, uZ zr 0 0, r, c, xcall_i (mq167 (cu := [])).2.2 rfl (vcp_167_0 (xcall (d + 4)) _ _ none z f _ ⟨_, _, _, wCellAtN (d + 3) cx, _, _, _, c1, fun q => absurd rfl q, fun _ => rfl⟩), mcall_i (mq235 (cu := [])).2.2 rfl (vc235_0 d' _ _ zr r _ ⟨fun q1 => ⟨fun q2 => absurd ⟨q1, q2⟩ cx, fun _ => rfl⟩, fun _ => rfl⟩), R0, G0, HF.z0 z f zr r⟩
/-- a hand is held up -/
theorem simHandU (d d' : Nat) {c : Nat} {z zr : Nat → Int32} {f r : Nat → FA} (x y : Int32) (hR : WR W L n nv nw ns z f zr r) (hG : RGA c c c nv z f zr r) : ∃ a z' f' zr' r' c', xcall (d + 4) 162 [vR 0, vI x, vI y] (LW W z f) = some (some (vI a), LW W z' f') ∧ mcall (d' + 4) 215 [vR 0, vI x, vI y] (LR zr r) = some (some (vI a), LR zr' r') ∧ WR W L n nv nw ns z' f' zr' r' ∧ RGA c' c' c' nv z' f' zr' r' ∧ HF z f zr r z' f' zr' r' := by
  have hn := hR.1.1.1
  have zv : z 22 = nI nv := hR.1.1.2.1.1
  have R0 := hR.z0
  have G0 := hG.z0
  have mv := mVoter (d' + 2) x hn (r := r) R0.2.2.2.2
  have hv0 := wHasn (W := W) (d + 2) x (f := f) zv hn
  by_cases cv : 0 ≤ I x ∧ I x < nv
  · rw [mk1_t cv] at mv hv0
    obtain ⟨v, rfl, v1, v2⟩ := nI_ofI cv.1
    have hv : v < nv := by omega
    have e27 : (27 : Int32) + nI v = nI (27 + v) := nI_add 27 v
    have p27 : pin (27 + nI v) 499 = true := by rw [e27]; exact pin_nI (by omega) (by omega)
    have x27 : ix (27 + nI v) = 27 + v := by rw [e27]; exact ix_nI (by omega)
    obtain ⟨b1, b2, b3, b4, b5, b6, -⟩ := hR.1.1.2.2.1 v hv
    have t80 : f 3 (80 + v) = r 1 (27 + v) := b5
    have tr := wTraitn (W := W) (d + 1) (f := f) (w := 4) zv hn hv (by omega)
    rw [show 20 * 4 + v = 80 + v from rfl, t80] at tr
    by_cases cy : 0 ≤ I y ∧ I y ≤ 2
    · by_cases ce : r 1 (27 + v) = y
      · exact ⟨0, z, f, uZ zr 0 0, r, c, xcall_i (mq162 (cu := [])).2.2 rfl (vcp_162_0 (xcall (d + 3)) _ _ z f _ ⟨_, _, _, hv0, fun q => absurd q (by decide), fun _ => ⟨fun q => by omega, fun _ => ⟨fun q => by omega, fun _ => ⟨_, _, _, tr, fun q => absurd ce q, fun _ => rfl⟩⟩⟩⟩), mcall_i (mq215 (cu := [])).2.2 rfl (vc215_0 (d' + 1) _ _ zr r _ ⟨_, _, _, mv, fun q => absurd q (by decide), fun _ => ⟨fun _ => ⟨p27, fun q => absurd (by rw [x27]; exact ce) q, fun _ => rfl⟩, fun q => absurd cy q⟩⟩), R0, G0, HF.z0 z f zr r⟩
      · obtain ⟨z1, f1, zr1, r1, a1, a2, a3, a4, a5, a6, a7, a8⟩ := simKeep (W := W) (d + 1) (d' + 0) R0.1 G0
        have st := wSetTn (W := W) (d + 1) y (f := f1) (w := 4) (show z1 22 = nI nv from (a5 22 (by decide)).trans zv) hn hv (by omega)
        rw [show 20 * 4 + v = 80 + v from rfl] at st
        have hR1 : RLn nv z1 (uA f1 3 (upd (f1 3) (80 + v) y)) zr1 (uA r1 1 (upd (r1 1) (27 + v) y)) := ⟨cr_hand hv y a3.1, fun j hj => by rw [uA_ne (show (6 : Nat) ≠ 3 by decide), uA_ne (show (7 : Nat) ≠ 1 by decide)]; exact a3.2.1 j hj, a3.2.2⟩
        have hF : FRn z1 f1 r1 z1 (uA f1 3 (upd (f1 3) (80 + v) y)) (uA r1 1 (upd (r1 1) (27 + v) y)) := ⟨fun _ _ => rfl, fun k hk => uA_ne (fun q => hk (by rw [q]; decide)), fun k hk => uA_ne (fun q => hk (by rw [q]; decide))⟩
        have H1 := (HF.z0 z f zr r).trans ((HF.kp a5 a6 a7 a8).trans (hF.hf zr1))
        exact ⟨1, z1, _, zr1, _, _, xcall_i (mq162 (cu := [])).2.2 rfl (vcp_162_0 (xcall (d + 3)) _ _ z f _ ⟨_, _, _, hv0, fun q => absurd q (by decide), fun _ => ⟨fun q => by omega, fun _ => ⟨fun q => by omega, fun _ => ⟨_, _, _, tr, fun _ => ⟨_, _, a1, _, _, st, rfl⟩, fun q => absurd q ce⟩⟩⟩⟩), mcall_i (mq215 (cu := [])).2.2 rfl (vc215_0 (d' + 1) _ _ zr r _ ⟨_, _, _, mv, fun q => absurd q (by decide), fun _ => ⟨fun _ => ⟨p27, fun _ => ⟨_, _, a2, p27, by rw [x27]⟩, fun q => absurd (by rw [x27] at q; exact q) ce⟩, fun q => absurd cy q⟩⟩), hR.hf hR1 H1, (a4.fr hF).eq rfl rfl rfl, H1⟩
    · exact ⟨0, z, f, uZ zr 0 0, r, c, xcall_i (mq162 (cu := [])).2.2 rfl (vcp_162_0 (xcall (d + 3)) _ _ z f _ ⟨_, _, _, hv0, fun q => absurd q (by decide), fun _ => ⟨fun _ => rfl, fun q => ⟨fun _ => rfl, fun q2 => absurd ⟨q, q2⟩ cy⟩⟩⟩), mcall_i (mq215 (cu := [])).2.2 rfl (vc215_0 (d' + 1) _ _ zr r _ ⟨_, _, _, mv, fun q => absurd q (by decide), fun _ => ⟨fun q => absurd q cy, fun _ => rfl⟩⟩), R0, G0, HF.z0 z f zr r⟩
  · rw [mk1_f cv] at mv hv0
    exact ⟨0, z, f, uZ zr 0 0, r, c, xcall_i (mq162 (cu := [])).2.2 rfl (vcp_162_0 (xcall (d + 3)) _ _ z f _ ⟨_, _, _, hv0, fun _ => rfl, fun q => absurd rfl q⟩), mcall_i (mq215 (cu := [])).2.2 rfl (vc215_0 (d' + 1) _ _ zr r _ ⟨_, _, _, mv, fun _ => rfl, fun q => absurd rfl q⟩), R0, G0, HF.z0 z f zr r⟩
theorem bu_182_1 (call : QC FA) (z : Nat → Int32) (f : Nat → FA) (F : Nat) : xnG call 182 (F + 5) 0 [some (vR 0)] [] (LW W z f) = xnG call 182 F 5 [some (vR 0)] [vR 2, vR 12] (LW W z f) := rfl
theorem bu_182_2 (call : QC FA) (ls : List (Option PV)) (z : Nat → Int32) (f : Nat → FA) (F : Nat) : xnG call 182 (F + 1) 5 ls [vR 2, vR 12] (LW W z f) = cbd (call 140 [vR 12, vR 2] (LW W z f)) (fun r L' => xnG call 182 F 6 ls (r.toList ++ []) L') := pcY (ih := xnG call 182 F) (call := call) (a := 140) (b := 1) (v := 7) (t := 6) (x := 12) (ls := ls) (As := [vR 2]) (st' := []) (L := LW W z f) rfl rfl rfl
theorem bu_182_3 (call : QC FA) (ls : List (Option PV)) (L : QH FA) (F : Nat) : xnG call 182 (F + 1) 6 ls [vI 1] L = some (some (vI 1), L) := rfl
theorem bu_182_4 (call : QC FA) (ls : List (Option PV)) (L : QH FA) (F : Nat) : xnG call 182 (F + 1) 6 ls [vI 0] L = some (some (vI 0), L) := rfl
theorem vu_182 (call : QC FA) {a : Int32} (ha : a = 0 ∨ a = 1) {z z1 : Nat → Int32} {f f1 : Nat → FA} (hc : call 140 [vR 12, vR 2] (LW W z f) = some (some (vI a), LW W z1 f1)) : XC call (mP 182) 0 [some (vR 0)] [] (LW W z f) (some (vI a), LW W z1 f1) := by
  refine xc_b (i' := 5) (ls' := [some (vR 0)]) (st' := [vR 2, vR 12]) (L' := LW W z f) 5 (bu_182_1 call z f) ?_
  refine xc_call (t := 6) (ls' := [some (vR 0)]) (st' := []) (bu_182_2 call _ z f) hc ?_
  rcases ha with rfl | rfl
  · exact xc_ret (bu_182_4 call _ _)
  · exact xc_ret (bu_182_3 call _ _)
theorem simUndoU (d d' : Nat) {c : Nat} {z zr : Nat → Int32} {f r : Nat → FA} (hR : WR W L n nv nw ns z f zr r) (hG : RGA c c c nv z f zr r) : ∃ a z' f' zr' r' c', xcall (d + 3) 182 [vR 0] (LW W z f) = some (some (vI a), LW W z' f') ∧ mcall (d' + 2) 283 [vR 0] (LR zr r) = some (some (vI a), LR zr' r') ∧ WR W L n nv nw ns z' f' zr' r' ∧ RGA c' c' c' nv z' f' zr' r' ∧ HF z f zr r z' f' zr' r' := by
  obtain ⟨a, z', f', zr', r', ha, e1, e2, e3, e4, e5, e6, e7, e8⟩ := simBack (W := W) d d' hR.1 hG
  have H1 : HF z f zr r z' f' zr' r' := ⟨e5, fun k _ hk => e6 k (fun q => hk (by rw [q]; decide)) (fun q => hk (by rw [q]; decide)), e7, fun k hk => e8 k (fun q => hk (by rw [q]; decide))⟩
  exact ⟨a, z', f', zr', r', _, xcall_i (mq182 (cu := [])).2.2 rfl (vu_182 (xcall (d + 2)) ha e1), e2, hR.hf e3 H1, e4, H1⟩
/-- the last six hours, or fewer: each is kept on both sides -/
theorem hrs2 (hW : WTX W) (hC : LWC W 0 L n) (hL : LOK L n) (d d' : Nat) {N : Nat} (hN : N ≤ 60) : ∀ t, t ≤ 6 → ∀ i, i + t = N → ∀ (x : Int32) (c c2 k : Nat) (z : Nat → Int32) (f : Nat → FA) (zr : Nat → Int32) (r : Nat → FA), WR W L n nv nw ns z f zr r → RGA c c2 k nv z f zr r → ∃ y z' f' zr' r', XC (xcall (d + 7)) (mP 163) 27 [some (vR 0), some (vI (nI N)), some (vI x), some (vI (nI i))] [] (LW W z f) (some (vI y), LW W z' f') ∧ RC (mcall (d' + 8)) (mP 217) 30 [some (vR 0), some (vI (nI N)), some (vI x), some (vI (nI i))] [] (LR zr r) (some (vI y), LR zr' r') ∧ WR W L n nv nw ns z' f' zr' r' ∧ RGA (min (c + t) 6) (min (c2 + t) 6) (min (k + t) 6) nv z' f' zr' r' ∧ HF z f zr r z' f' zr' r' := by
  intro t
  induction t with
  | zero =>
    intro ht i hi x c c2 k z f zr r hR hG
    obtain rfl : i = N := by omega
    obtain ⟨l1, l2, l3⟩ := hG.le
    exact ⟨x, z, f, zr, r, vcp_c27_163_27 _ _ _ _ _ _ _ ⟨fun _ => rfl, fun q => absurd q (Int.lt_irrefl _)⟩, vcc30_217_30 (d' + 1) _ _ _ _ _ _ ⟨fun _ => rfl, fun q => absurd q (Int.lt_irrefl _)⟩, hR, hG.eq (by omega) (by omega) (by omega), HF.rfl⟩
  | succ t ih =>
    intro ht i hi x c c2 k z f zr r hR hG
    have iN : I (nI N) = N := I_nI (by omega)
    have ii : I (nI i) = i := I_nI (by omega)
    have e1 : nI i + 1 = nI (i + 1) := nI_add i 1
    have es : nI N - nI i = nI (N - i) := nI_sub (by omega)
    have is : I (nI (N - i)) = ((N - i : Nat) : Int) := I_nI (by omega)
    obtain ⟨z1, f1, zr1, r1, a1, a2, a3, a4, a5, a6, a7, a8⟩ := simKeep (W := W) (d + 5) (d' + 5) hR.1 hG
    have H1 := HF.kp a5 a6 a7 a8
    have R1 := hR.hf a3 H1
    obtain ⟨y, z2, f2, r2, b1, b2, b3, b4⟩ := simHourn hW hC hL d d' R1.1 R1.2.1 R1.2.2.1 R1.2.2.2.1
    have H2 := b4.hf zr1
    obtain ⟨u, z', f', zr', r', k1, k2, k3, k4, k5⟩ := ih (by omega) (i + 1) (by omega) (x + y) _ _ _ z2 f2 zr1 r2 (R1.hf b3 H2) (a4.fr b4)
    refine ⟨u, z', f', zr', r', vcp_c27_163_27 _ _ _ _ _ _ _ ⟨fun q => by omega, fun _ => ⟨fun q => ?_, fun _ => ⟨_, _, a1, _, _, _, b1, by rw [e1]; exact k1⟩⟩⟩, vcc30_217_30 (d' + 1) _ _ _ _ _ _ ⟨fun q => by omega, fun _ => ⟨_, _, a2, _, _, _, b2, by rw [e1]; exact k2⟩⟩, k3, k4.eq (by omega) (by omega) (by omega), H1.trans (H2.trans k5)⟩
    rw [es, is] at q
    omega
/-- more than six: the hours before the last six are kept by the reference alone, and fall out again -/
theorem hrs1 (hW : WTX W) (hC : LWC W 0 L n) (hL : LOK L n) (d d' : Nat) {N : Nat} (hN : N ≤ 60) : ∀ t i, i + t + 6 = N → ∀ (x : Int32) (c c2 : Nat) (z : Nat → Int32) (f : Nat → FA) (zr : Nat → Int32) (r : Nat → FA), WR W L n nv nw ns z f zr r → RGA c c2 0 nv z f zr r → ∃ y z' f' zr' r', XC (xcall (d + 7)) (mP 163) 27 [some (vR 0), some (vI (nI N)), some (vI x), some (vI (nI i))] [] (LW W z f) (some (vI y), LW W z' f') ∧ RC (mcall (d' + 8)) (mP 217) 30 [some (vR 0), some (vI (nI N)), some (vI x), some (vI (nI i))] [] (LR zr r) (some (vI y), LR zr' r') ∧ WR W L n nv nw ns z' f' zr' r' ∧ RGA 6 6 6 nv z' f' zr' r' ∧ HF z f zr r z' f' zr' r' := by
  intro t
  induction t with
  | zero =>
    intro i hi x c c2 z f zr r hR hG
    obtain ⟨y, z', f', zr', r', k1, k2, k3, k4, k5⟩ := hrs2 hW hC hL d d' hN 6 (by omega) i (by omega) x c c2 0 z f zr r hR hG
    exact ⟨y, z', f', zr', r', k1, k2, k3, k4.eq (by omega) (by omega) (by omega), k5⟩
  | succ t ih =>
    intro i hi x c c2 z f zr r hR hG
    have iN : I (nI N) = N := I_nI (by omega)
    have ii : I (nI i) = i := I_nI (by omega)
    have e1 : nI i + 1 = nI (i + 1) := nI_add i 1
    have es : nI N - nI i = nI (N - i) := nI_sub (by omega)
    have is : I (nI (N - i)) = ((N - i : Nat) : Int) := I_nI (by omega)
    obtain ⟨zr1, r1, a2, a3, a4, a7, a8⟩ := simKeepR (d' + 5) hR.1 hG
    have H1 : HF z f zr r z f zr1 r1 := HF.kp (fun _ _ => rfl) (fun _ _ => rfl) a7 a8
    have R1 := hR.hf a3 H1
    obtain ⟨y, z2, f2, r2, b1, b2, b3, b4⟩ := simHourn hW hC hL d d' R1.1 R1.2.1 R1.2.2.1 R1.2.2.2.1
    have H2 := b4.hf zr1
    obtain ⟨u, z', f', zr', r', k1, k2, k3, k4, k5⟩ := ih (i + 1) (by omega) (x + y) _ _ z2 f2 zr1 r2 (R1.hf b3 H2) (a4.fr b4)
    refine ⟨u, z', f', zr', r', vcp_c27_163_27 _ _ _ _ _ _ _ ⟨fun q => by omega, fun _ => ⟨fun _ => ⟨_, _, _, b1, by rw [e1]; exact k1⟩, fun q => ?_⟩⟩, vcc30_217_30 (d' + 1) _ _ _ _ _ _ ⟨fun q => by omega, fun _ => ⟨_, _, a2, _, _, _, b2, by rw [e1]; exact k2⟩⟩, k3, k4, H1.trans (H2.trans k5)⟩
    rw [es, is] at q
    omega
/-- hours -/
theorem simHoursU (hW : WTX W) (hC : LWC W 0 L n) (hL : LOK L n) (d d' : Nat) {c : Nat} {z zr : Nat → Int32} {f r : Nat → FA} (x : Int32) (hR : WR W L n nv nw ns z f zr r) (hG : RGA c c c nv z f zr r) : ∃ a z' f' zr' r' c', xcall (d + 8) 163 [vR 0, vI x] (LW W z f) = some (some (vI a), LW W z' f') ∧ mcall (d' + 9) 217 [vR 0, vI x] (LR zr r) = some (some (vI a), LR zr' r') ∧ WR W L n nv nw ns z' f' zr' r' ∧ RGA c' c' c' nv z' f' zr' r' ∧ HF z f zr r z' f' zr' r' := by
  have R0 := hR.z0
  have G0 := hG.z0
  have zh : z 24 = r 1 1 := hR.1.1.2.1.2.2.1
  have zd : z 25 = r 1 0 := hR.1.1.2.1.2.2.2.1
  have x0 : ix 0 = 0 := by decide
  have x1 : ix 1 = 1 := by decide
  by_cases cx : 1 ≤ I x ∧ I x ≤ 60
  · obtain ⟨N, rfl, n1, n2⟩ := nI_ofI (show 0 ≤ I x by omega)
    by_cases cd : I (r 1 0 + (r 1 1 + nI N) / 12) ≤ 9990
    · have go : ∃ y z' f' zr' r' c', XC (xcall (d + 7)) (mP 163) 27 [some (vR 0), some (vI (nI N)), some (vI 0), some (vI (nI 0))] [] (LW W z f) (some (vI y), LW W z' f') ∧ RC (mcall (d' + 8)) (mP 217) 30 [some (vR 0), some (vI (nI N)), some (vI 0), some (vI (nI 0))] [] (LR (uZ zr 0 0) r) (some (vI y), LR zr' r') ∧ WR W L n nv nw ns z' f' zr' r' ∧ RGA c' c' c' nv z' f' zr' r' ∧ HF z f (uZ zr 0 0) r z' f' zr' r' := by
        by_cases c6 : N ≤ 6
        · obtain ⟨y, z', f', zr', r', k1, k2, k3, k4, k5⟩ := hrs2 hW hC hL d d' (show N ≤ 60 by omega) N c6 0 (by omega) 0 c c c z f (uZ zr 0 0) r R0 G0
          exact ⟨y, z', f', zr', r', _, k1, k2, k3, k4, k5⟩
        · obtain ⟨y, z', f', zr', r', k1, k2, k3, k4, k5⟩ := hrs1 hW hC hL d d' (show N ≤ 60 by omega) (N - 6) 0 (by omega) 0 c c z f (uZ zr 0 0) r R0 G0.zero
          exact ⟨y, z', f', zr', r', 6, k1, k2, k3, k4, k5⟩
      obtain ⟨y, z', f', zr', r', c', k1, k2, k3, k4, k5⟩ := go
      refine ⟨y, z', f', zr', r', c', xcall_i (mq163 (cu := [])).2.2 rfl (vcp_163_0 (xcall (d + 7)) (nI N) none none z f _ ⟨fun q => by omega, fun _ => ⟨fun q => by omega, fun _ => ⟨by decide, fun _ => k1, fun q => ?_⟩⟩⟩), mcall_i (mq217 (cu := [])).2.2 rfl (vc217_0 (d' + 1) (nI N) none none zr r _ ⟨fun _ => ⟨by decide, by decide, by decide, fun _ => k2, fun q => ?_⟩, fun q => absurd cx q⟩), k3, k4, (HF.z0 z f zr r).trans k5⟩
      · rw [zh, zd] at q
        omega
      · rw [x0, x1] at q
        omega
    · refine ⟨-1, z, f, uZ zr 0 0, r, c, xcall_i (mq163 (cu := [])).2.2 rfl (vcp_163_0 (xcall (d + 7)) (nI N) none none z f _ ⟨fun _ => rfl, fun _ => ⟨fun _ => rfl, fun _ => ⟨by decide, fun q => ?_, fun _ => rfl⟩⟩⟩), mcall_i (mq217 (cu := [])).2.2 rfl (vc217_0 (d' + 1) (nI N) none none zr r _ ⟨fun _ => ⟨by decide, by decide, by decide, fun q => ?_, fun _ => rfl⟩, fun _ => rfl⟩), R0, G0, HF.z0 z f zr r⟩
      · rw [zh, zd] at q
        exact absurd q cd
      · rw [x0, x1] at q
        exact absurd q cd
  · exact ⟨-1, z, f, uZ zr 0 0, r, c, xcall_i (mq163 (cu := [])).2.2 rfl (vcp_163_0 (xcall (d + 7)) x none none z f _ ⟨fun _ => rfl, fun q => ⟨fun _ => rfl, fun q2 => absurd ⟨q, q2⟩ cx⟩⟩), mcall_i (mq217 (cu := [])).2.2 rfl (vc217_0 (d' + 1) x none none zr r _ ⟨fun q => absurd q cx, fun _ => rfl⟩), R0, G0, HF.z0 z f zr r⟩
end PLAY
end TWs
