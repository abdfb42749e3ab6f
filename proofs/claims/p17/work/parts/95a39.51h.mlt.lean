/-! what comes to what, in thought -/
section TWs
variable {W : TXW}
set_option maxRecDepth 100000 in
theorem bh_5_1 (call : QC FA) (o1 : Option PV) (o2 : Option PV) (L : QH FA) (F : Nat) : xnG call 5 (F + 4) 0 [some (vR 35), o1, o2] [] L = xnG call 5 F 4 [some (vR 35), some (vI 0), some (vI 0)] [] L := rfl
theorem vch_5_0 (call : QC FA) (o1 : Option PV) (o2 : Option PV) (z : Nat → Int32) (f : Nat → FA) (res : Option PV × QH FA) (H : XC call (mP 5) 4 [some (vR 35), some (vI 0), some (vI 0)] [] (LW W z f) res) : XC call (mP 5) 0 [some (vR 35), o1, o2] [] (LW W z f) res := by
  refine xc_b (i' := 4) (ls' := [some (vR 35), some (vI 0), some (vI 0)]) (st' := []) (L' := LW W z f) 4 (bh_5_1 call o1 o2 _) ?_
  exact H
set_option maxRecDepth 100000 in
theorem bh_c4_5_1 (call : QC FA) (x1 : Int32) (x2 : Int32) (L : QH FA) (F : Nat) : xnG call 5 (F + 2) 4 [some (vR 35), some (vI x1), some (vI x2)] [] L = xnG call 5 F 6 [some (vR 35), some (vI x1), some (vI x2)] [vI 144, vI x2] L := rfl
set_option maxRecDepth 100000 in
theorem bh_c4_5_2 (call : QC FA) (x y : Int32) (ls : List (Option PV)) (L : QH FA) (F : Nat) : xnG call 5 (F + 1) 6 ls [vI y, vI x] L = bif pcmp 3 x y then xnG call 5 F 25 ls [] L else xnG call 5 F 7 ls [] L := rfl
set_option maxRecDepth 100000 in
theorem bh_c4_5_3 (call : QC FA) (x1 : Int32) (x2 : Int32) (L : QH FA) (F : Nat) : xnG call 5 (F + 1) 25 [some (vR 35), some (vI x1), some (vI x2)] [] L = xnG call 5 F 26 [some (vR 35), some (vI x1), some (vI x2)] [vI x1] L := rfl
set_option maxRecDepth 100000 in
theorem bh_c4_5_4 (call : QC FA) (x : Int32) (ls : List (Option PV)) (L : QH FA) (F : Nat) : xnG call 5 (F + 1) 26 ls [vI x] L = some (some (vI x), L) := rfl
set_option maxRecDepth 100000 in
theorem bh_c4_5_5 (call : QC FA) (x1 : Int32) (x2 : Int32) (z : Nat → Int32) (f : Nat → FA) (F : Nat) : xnG call 5 (F + 3) 7 [some (vR 35), some (vI x1), some (vI x2)] [] (LW W z f) = xnG call 5 F 10 [some (vR 35), some (vI x1), some (vI x2)] [vI x2, vR 32] (LW W z f) := rfl
set_option maxRecDepth 100000 in
theorem bh_c4_5_6 (call : QC FA) (a0 : Int32) (ls : List (Option PV)) (z : Nat → Int32) (f : Nat → FA) (F : Nat) : xnG call 5 (F + 1) 10 ls [vI a0, vR 32] (LW W z f) = cbd (call 6 [vR 32, vI a0] (LW W z f)) (fun r L' => xnG call 5 F 11 ls (r.toList ++ []) L') := pcY (ih := xnG call 5 F) (call := call) (a := 6) (b := 1) (v := 0) (t := 11) (x := 32) (ls := ls) (As := [vI a0]) (st' := []) (L := LW W z f) rfl rfl rfl
set_option maxRecDepth 100000 in
theorem bh_c4_5_7 (call : QC FA) (x : Int32) (ls : List (Option PV)) (L : QH FA) (F : Nat) : xnG call 5 (F + 1) 11 ls [vI x] L = bif pcmp 0 x 0 then xnG call 5 F 23 ls [] L else xnG call 5 F 12 ls [] L := rfl
set_option maxRecDepth 100000 in
theorem bh_c4_5_8 (call : QC FA) (x1 : Int32) (x2 : Int32) (L : QH FA) (F : Nat) : xnG call 5 (F + 1) 23 [some (vR 35), some (vI x1), some (vI x2)] [] L = xnG call 5 F 24 [some (vR 35), some (vI x1), some (vI (x2 + 1))] [] L := rfl
set_option maxRecDepth 100000 in
theorem bh_c4_5_9 (call : QC FA) (x1 : Int32) (x2 : Int32) (L : QH FA) (F : Nat) : xnG call 5 (F + 1) 24 [some (vR 35), some (vI x1), some (vI x2)] [] L = xnG call 5 F 4 [some (vR 35), some (vI x1), some (vI x2)] [] L := rfl
set_option maxRecDepth 100000 in
theorem bh_c4_5_10 (call : QC FA) (x1 : Int32) (x2 : Int32) (z : Nat → Int32) (f : Nat → FA) (F : Nat) : xnG call 5 (F + 4) 12 [some (vR 35), some (vI x1), some (vI x2)] [] (LW W z f) = xnG call 5 F 16 [some (vR 35), some (vI x1), some (vI x2)] [vI x2, vR 32, vI x1] (LW W z f) := rfl
set_option maxRecDepth 100000 in
theorem bh_c4_5_11 (call : QC FA) (a0 : Int32) (s0 : Int32) (ls : List (Option PV)) (z : Nat → Int32) (f : Nat → FA) (F : Nat) : xnG call 5 (F + 1) 16 ls [vI a0, vR 32, vI s0] (LW W z f) = cbd (call 7 [vR 32, vI a0] (LW W z f)) (fun r L' => xnG call 5 F 17 ls (r.toList ++ [vI s0]) L') := pcY (ih := xnG call 5 F) (call := call) (a := 7) (b := 1) (v := 0) (t := 17) (x := 32) (ls := ls) (As := [vI a0]) (st' := [vI s0]) (L := LW W z f) rfl rfl rfl
set_option maxRecDepth 100000 in
theorem bh_c4_5_12 (call : QC FA) (x1 : Int32) (x2 : Int32) (s0 : Int32) (s1 : Int32) (L : QH FA) (F : Nat) : xnG call 5 (F + 2) 17 [some (vR 35), some (vI x1), some (vI x2)] [vI s0, vI s1] L = xnG call 5 F 19 [some (vR 35), some (vI x1), some (vI x2)] [vI x2, vR 35, vI s0, vI s1] L := rfl
set_option maxRecDepth 100000 in
theorem bh_c4_5_13 (call : QC FA) (a0 : Int32) (s0 : Int32) (s1 : Int32) (ls : List (Option PV)) (z : Nat → Int32) (f : Nat → FA) (F : Nat) : xnG call 5 (F + 1) 19 ls [vI a0, vR 35, vI s0, vI s1] (LW W z f) = cbd (call 10 [vR 35, vI a0] (LW W z f)) (fun r L' => xnG call 5 F 20 ls (r.toList ++ [vI s0, vI s1]) L') := pcY (ih := xnG call 5 F) (call := call) (a := 10) (b := 1) (v := 1) (t := 20) (x := 35) (ls := ls) (As := [vI a0]) (st' := [vI s0, vI s1]) (L := LW W z f) rfl rfl rfl
set_option maxRecDepth 100000 in
theorem bh_c4_5_14 (call : QC FA) (x1 : Int32) (x2 : Int32) (s0 : Int32) (s1 : Int32) (s2 : Int32) (L : QH FA) (F : Nat) : xnG call 5 (F + 3) 20 [some (vR 35), some (vI x1), some (vI x2)] [vI s0, vI s1, vI s2] L = xnG call 5 F 23 [some (vR 35), some (vI (s2 + (s1 * s0))), some (vI x2)] [] L := rfl
theorem vch_c4_5_4 (call : QC FA) (x1 : Int32) (x2 : Int32) (z : Nat → Int32) (f : Nat → FA) (res : Option PV × QH FA) (H : ((144 ≤ I x2 → res = (some (vI x1), LW W z f)) ∧ (I x2 < 144 → (∃ (r1 : Int32) (z1 : Nat → Int32) (f1 : Nat → FA), call 6 [vR 32, vI x2] (LW W z f) = some (some (vI r1), LW W z1 f1) ∧ ((r1 = 0 → XC call (mP 5) 4 [some (vR 35), some (vI x1), some (vI (x2 + 1))] [] (LW W z1 f1) res) ∧ (¬ r1 = 0 → (∃ (r2 : Int32) (z2 : Nat → Int32) (f2 : Nat → FA), call 7 [vR 32, vI x2] (LW W z1 f1) = some (some (vI r2), LW W z2 f2) ∧ (∃ (r3 : Int32) (z3 : Nat → Int32) (f3 : Nat → FA), call 10 [vR 35, vI x2] (LW W z2 f2) = some (some (vI r3), LW W z3 f3) ∧ XC call (mP 5) 4 [some (vR 35), some (vI (x1 + (r2 * r3))), some (vI (x2 + 1))] [] (LW W z3 f3) res)))))))) : XC call (mP 5) 4 [some (vR 35), some (vI x1), some (vI x2)] [] (LW W z f) res := by
  refine xc_b (i' := 6) (ls' := [some (vR 35), some (vI x1), some (vI x2)]) (st' := [vI 144, vI x2]) (L' := LW W z f) 2 (bh_c4_5_1 call x1 x2 _) ?_
  refine xc_if (it := 25) (ie := 7) (ls' := [some (vR 35), some (vI x1), some (vI x2)]) (st' := []) (bh_c4_5_2 call x2 144 _ _) (fun q1 => ?_) (fun q1 => ?_)
  · have H := H.1 (cI3t q1 rfl rfl)
    refine xc_b (i' := 26) (ls' := [some (vR 35), some (vI x1), some (vI x2)]) (st' := [vI x1]) (L' := LW W z f) 1 (bh_c4_5_3 call x1 x2 _) ?_
    subst H
    exact xc_ret (bh_c4_5_4 call _ _ _)
  · have H := H.2 (cI3f q1 rfl rfl)
    refine xc_b (i' := 10) (ls' := [some (vR 35), some (vI x1), some (vI x2)]) (st' := [vI x2, vR 32]) (L' := LW W z f) 3 (bh_c4_5_5 call x1 x2 z f) ?_
    obtain ⟨r1, z1, f1, hc, H⟩ := H
    refine xc_call (t := 11) (ls' := [some (vR 35), some (vI x1), some (vI x2)]) (st' := []) (bh_c4_5_6 call x2 _ z f) hc ?_
    show XC call (mP 5) 11 [some (vR 35), some (vI x1), some (vI x2)] [vI r1] (LW W z1 f1) res
    refine xc_if (it := 23) (ie := 12) (ls' := [some (vR 35), some (vI x1), some (vI x2)]) (st' := []) (bh_c4_5_7 call r1 _ _) (fun q2 => ?_) (fun q2 => ?_)
    · have H := H.1 (cI0t q2)
      refine xc_b (i' := 24) (ls' := [some (vR 35), some (vI x1), some (vI (x2 + 1))]) (st' := []) (L' := LW W z1 f1) 1 (bh_c4_5_8 call x1 x2 _) ?_
      refine xc_b (i' := 4) (ls' := [some (vR 35), some (vI x1), some (vI (x2 + 1))]) (st' := []) (L' := LW W z1 f1) 1 (bh_c4_5_9 call x1 (x2 + 1) _) ?_
      exact H
    · have H := H.2 (cI0f q2)
      refine xc_b (i' := 16) (ls' := [some (vR 35), some (vI x1), some (vI x2)]) (st' := [vI x2, vR 32, vI x1]) (L' := LW W z1 f1) 4 (bh_c4_5_10 call x1 x2 z1 f1) ?_
      obtain ⟨r2, z2, f2, hc, H⟩ := H
      refine xc_call (t := 17) (ls' := [some (vR 35), some (vI x1), some (vI x2)]) (st' := [vI x1]) (bh_c4_5_11 call x2 x1 _ z1 f1) hc ?_
      show XC call (mP 5) 17 [some (vR 35), some (vI x1), some (vI x2)] [vI r2, vI x1] (LW W z2 f2) res
      refine xc_b (i' := 19) (ls' := [some (vR 35), some (vI x1), some (vI x2)]) (st' := [vI x2, vR 35, vI r2, vI x1]) (L' := LW W z2 f2) 2 (bh_c4_5_12 call x1 x2 r2 x1 _) ?_
      obtain ⟨r3, z3, f3, hc, H⟩ := H
      refine xc_call (t := 20) (ls' := [some (vR 35), some (vI x1), some (vI x2)]) (st' := [vI r2, vI x1]) (bh_c4_5_13 call x2 r2 x1 _ z2 f2) hc ?_
      show XC call (mP 5) 20 [some (vR 35), some (vI x1), some (vI x2)] [vI r3, vI r2, vI x1] (LW W z3 f3) res
      refine xc_b (i' := 23) (ls' := [some (vR 35), some (vI (x1 + (r2 * r3))), some (vI x2)]) (st' := []) (L' := LW W z3 f3) 3 (bh_c4_5_14 call x1 x2 r3 r2 x1 _) ?_
      refine xc_b (i' := 24) (ls' := [some (vR 35), some (vI (x1 + (r2 * r3))), some (vI (x2 + 1))]) (st' := []) (L' := LW W z3 f3) 1 (bh_c4_5_8 call (x1 + (r2 * r3)) x2 _) ?_
      refine xc_b (i' := 4) (ls' := [some (vR 35), some (vI (x1 + (r2 * r3))), some (vI (x2 + 1))]) (st' := []) (L' := LW W z3 f3) 1 (bh_c4_5_9 call (x1 + (r2 * r3)) (x2 + 1) _) ?_
      exact H
set_option maxRecDepth 100000 in
theorem bh_95_1 (call : QC FA) (o1 : Option PV) (L : QH FA) (F : Nat) : xnG call 95 (F + 2) 0 [some (vR 35), o1] [] L = xnG call 95 F 2 [some (vR 35), some (vI 0)] [] L := rfl
theorem vch_95_0 (call : QC FA) (o1 : Option PV) (z : Nat → Int32) (f : Nat → FA) (res : Option PV × QH FA) (H : XC call (mP 95) 2 [some (vR 35), some (vI 0)] [] (LW W z f) res) : XC call (mP 95) 0 [some (vR 35), o1] [] (LW W z f) res := by
  refine xc_b (i' := 2) (ls' := [some (vR 35), some (vI 0)]) (st' := []) (L' := LW W z f) 2 (bh_95_1 call o1 _) ?_
  exact H
set_option maxRecDepth 100000 in
theorem bh_c2_95_1 (call : QC FA) (x1 : Int32) (L : QH FA) (F : Nat) : xnG call 95 (F + 2) 2 [some (vR 35), some (vI x1)] [] L = xnG call 95 F 4 [some (vR 35), some (vI x1)] [vI 144, vI x1] L := rfl
set_option maxRecDepth 100000 in
theorem bh_c2_95_2 (call : QC FA) (x y : Int32) (ls : List (Option PV)) (L : QH FA) (F : Nat) : xnG call 95 (F + 1) 4 ls [vI y, vI x] L = bif pcmp 3 x y then xnG call 95 F 33 ls [] L else xnG call 95 F 5 ls [] L := rfl
set_option maxRecDepth 100000 in
theorem bh_c2_95_3 (call : QC FA) (ls : List (Option PV)) (L : QH FA) (F : Nat) : xnG call 95 (F + 1) 33 ls [] L = some (none, L) := rfl
set_option maxRecDepth 100000 in
theorem bh_c2_95_4 (call : QC FA) (x1 : Int32) (z : Nat → Int32) (f : Nat → FA) (F : Nat) : xnG call 95 (F + 3) 5 [some (vR 35), some (vI x1)] [] (LW W z f) = xnG call 95 F 8 [some (vR 35), some (vI x1)] [vI x1, vR 32] (LW W z f) := rfl
set_option maxRecDepth 100000 in
theorem bh_c2_95_5 (call : QC FA) (a0 : Int32) (ls : List (Option PV)) (z : Nat → Int32) (f : Nat → FA) (F : Nat) : xnG call 95 (F + 1) 8 ls [vI a0, vR 32] (LW W z f) = cbd (call 6 [vR 32, vI a0] (LW W z f)) (fun r L' => xnG call 95 F 9 ls (r.toList ++ []) L') := pcY (ih := xnG call 95 F) (call := call) (a := 6) (b := 1) (v := 0) (t := 9) (x := 32) (ls := ls) (As := [vI a0]) (st' := []) (L := LW W z f) rfl rfl rfl
set_option maxRecDepth 100000 in
theorem bh_c2_95_6 (call : QC FA) (x : Int32) (ls : List (Option PV)) (L : QH FA) (F : Nat) : xnG call 95 (F + 1) 9 ls [vI x] L = bif pcmp 0 x 0 then xnG call 95 F 31 ls [] L else xnG call 95 F 10 ls [] L := rfl
set_option maxRecDepth 100000 in
theorem bh_c2_95_7 (call : QC FA) (x1 : Int32) (L : QH FA) (F : Nat) : xnG call 95 (F + 1) 31 [some (vR 35), some (vI x1)] [] L = xnG call 95 F 32 [some (vR 35), some (vI (x1 + 1))] [] L := rfl
set_option maxRecDepth 100000 in
theorem bh_c2_95_8 (call : QC FA) (x1 : Int32) (L : QH FA) (F : Nat) : xnG call 95 (F + 1) 32 [some (vR 35), some (vI x1)] [] L = xnG call 95 F 2 [some (vR 35), some (vI x1)] [] L := rfl
set_option maxRecDepth 100000 in
theorem bh_c2_95_9 (call : QC FA) (x1 : Int32) (L : QH FA) (F : Nat) : xnG call 95 (F + 3) 10 [some (vR 35), some (vI x1)] [] L = xnG call 95 F 13 [some (vR 35), some (vI x1)] [vI x1, vR 35, vR 35] L := rfl
set_option maxRecDepth 100000 in
theorem bh_c2_95_10 (call : QC FA) (a0 : Int32) (ls : List (Option PV)) (z : Nat → Int32) (f : Nat → FA) (F : Nat) : xnG call 95 (F + 1) 13 ls [vI a0, vR 35, vR 35] (LW W z f) = cbd (call 96 [vR 35, vI a0] (LW W z f)) (fun r L' => xnG call 95 F 14 ls (r.toList ++ [vR 35]) L') := pcY (ih := xnG call 95 F) (call := call) (a := 96) (b := 1) (v := 1) (t := 14) (x := 35) (ls := ls) (As := [vI a0]) (st' := [vR 35]) (L := LW W z f) rfl rfl rfl
set_option maxRecDepth 100000 in
theorem bh_c2_95_11 (call : QC FA) (a0 : Int32) (ls : List (Option PV)) (z : Nat → Int32) (f : Nat → FA) (F : Nat) : xnG call 95 (F + 1) 14 ls [vI a0, vR 35] (LW W z f) = cbd (call 93 [vR 35, vI a0] (LW W z f)) (fun r L' => xnG call 95 F 15 ls (r.toList ++ []) L') := pcY (ih := xnG call 95 F) (call := call) (a := 93) (b := 1) (v := 1) (t := 15) (x := 35) (ls := ls) (As := [vI a0]) (st' := []) (L := LW W z f) rfl rfl rfl
set_option maxRecDepth 100000 in
theorem bh_c2_95_12 (call : QC FA) (x : Int32) (ls : List (Option PV)) (L : QH FA) (F : Nat) : xnG call 95 (F + 1) 15 ls [vI x] L = bif pcmp 0 x 0 then xnG call 95 F 31 ls [] L else xnG call 95 F 16 ls [] L := rfl
set_option maxRecDepth 100000 in
theorem bh_c2_95_13 (call : QC FA) (x1 : Int32) (z : Nat → Int32) (f : Nat → FA) (F : Nat) : xnG call 95 (F + 3) 16 [some (vR 35), some (vI x1)] [] (LW W z f) = xnG call 95 F 19 [some (vR 35), some (vI x1)] [vI x1, vR 32] (LW W z f) := rfl
set_option maxRecDepth 100000 in
theorem bh_c2_95_14 (call : QC FA) (a0 : Int32) (ls : List (Option PV)) (z : Nat → Int32) (f : Nat → FA) (F : Nat) : xnG call 95 (F + 1) 19 ls [vI a0, vR 32] (LW W z f) = cbd (call 15 [vR 32, vI a0] (LW W z f)) (fun r L' => xnG call 95 F 20 ls (r.toList ++ []) L') := pcY (ih := xnG call 95 F) (call := call) (a := 15) (b := 1) (v := 0) (t := 20) (x := 32) (ls := ls) (As := [vI a0]) (st' := []) (L := LW W z f) rfl rfl rfl
set_option maxRecDepth 100000 in
theorem bh_c2_95_15 (call : QC FA) (x1 : Int32) (s0 : Int32) (L : QH FA) (F : Nat) : xnG call 95 (F + 1) 20 [some (vR 35), some (vI x1)] [vI s0] L = xnG call 95 F 21 [some (vR 35), some (vI x1)] [vI 1, vI s0] L := rfl
set_option maxRecDepth 100000 in
theorem bh_c2_95_16 (call : QC FA) (x y : Int32) (ls : List (Option PV)) (L : QH FA) (F : Nat) : xnG call 95 (F + 1) 21 ls [vI y, vI x] L = bif pcmp 5 x y then xnG call 95 F 27 ls [] L else xnG call 95 F 22 ls [] L := rfl
set_option maxRecDepth 100000 in
theorem bh_c2_95_17 (call : QC FA) (x1 : Int32) (L : QH FA) (F : Nat) : xnG call 95 (F + 3) 27 [some (vR 35), some (vI x1)] [] L = xnG call 95 F 30 [some (vR 35), some (vI x1)] [vI 2, vI x1, vR 35] L := rfl
set_option maxRecDepth 100000 in
theorem bh_c2_95_18 (call : QC FA) (a0 : Int32) (a1 : Int32) (ls : List (Option PV)) (z : Nat → Int32) (f : Nat → FA) (F : Nat) : xnG call 95 (F + 1) 30 ls [vI a1, vI a0, vR 35] (LW W z f) = cbd (call 101 [vR 35, vI a0, vI a1] (LW W z f)) (fun r L' => xnG call 95 F 31 ls (r.toList ++ []) L') := pcY (ih := xnG call 95 F) (call := call) (a := 101) (b := 2) (v := 1) (t := 31) (x := 35) (ls := ls) (As := [vI a0, vI a1]) (st' := []) (L := LW W z f) rfl rfl rfl
set_option maxRecDepth 100000 in
theorem bh_c2_95_19 (call : QC FA) (x1 : Int32) (z : Nat → Int32) (f : Nat → FA) (F : Nat) : xnG call 95 (F + 3) 22 [some (vR 35), some (vI x1)] [] (LW W z f) = xnG call 95 F 25 [some (vR 35), some (vI x1)] [vI x1, vR 32] (LW W z f) := rfl
set_option maxRecDepth 100000 in
theorem bh_c2_95_20 (call : QC FA) (a0 : Int32) (ls : List (Option PV)) (z : Nat → Int32) (f : Nat → FA) (F : Nat) : xnG call 95 (F + 1) 25 ls [vI a0, vR 32] (LW W z f) = cbd (call 91 [vR 32, vI a0] (LW W z f)) (fun r L' => xnG call 95 F 26 ls (r.toList ++ []) L') := pcY (ih := xnG call 95 F) (call := call) (a := 91) (b := 1) (v := 0) (t := 26) (x := 32) (ls := ls) (As := [vI a0]) (st' := []) (L := LW W z f) rfl rfl rfl
set_option maxRecDepth 100000 in
theorem bh_c2_95_21 (call : QC FA) (x1 : Int32) (L : QH FA) (F : Nat) : xnG call 95 (F + 1) 26 [some (vR 35), some (vI x1)] [] L = xnG call 95 F 31 [some (vR 35), some (vI x1)] [] L := rfl
theorem vch_c2_95_2 (call : QC FA) (x1 : Int32) (z : Nat → Int32) (f : Nat → FA) (res : Option PV × QH FA) (H : ((144 ≤ I x1 → res = (none, LW W z f)) ∧ (I x1 < 144 → (∃ (r1 : Int32) (z1 : Nat → Int32) (f1 : Nat → FA), call 6 [vR 32, vI x1] (LW W z f) = some (some (vI r1), LW W z1 f1) ∧ ((r1 = 0 → XC call (mP 95) 2 [some (vR 35), some (vI (x1 + 1))] [] (LW W z1 f1) res) ∧ (¬ r1 = 0 → (∃ (r2 : Int32) (z2 : Nat → Int32) (f2 : Nat → FA), call 96 [vR 35, vI x1] (LW W z1 f1) = some (some (vI r2), LW W z2 f2) ∧ (∃ (r3 : Int32) (z3 : Nat → Int32) (f3 : Nat → FA), call 93 [vR 35, vI r2] (LW W z2 f2) = some (some (vI r3), LW W z3 f3) ∧ ((r3 = 0 → XC call (mP 95) 2 [some (vR 35), some (vI (x1 + 1))] [] (LW W z3 f3) res) ∧ (¬ r3 = 0 → (∃ (r4 : Int32) (z4 : Nat → Int32) (f4 : Nat → FA), call 15 [vR 32, vI x1] (LW W z3 f3) = some (some (vI r4), LW W z4 f4) ∧ ((I r4 ≤ 1 → (∃ (z5 : Nat → Int32) (f5 : Nat → FA), call 101 [vR 35, vI x1, vI 2] (LW W z4 f4) = some (none, LW W z5 f5) ∧ XC call (mP 95) 2 [some (vR 35), some (vI (x1 + 1))] [] (LW W z5 f5) res)) ∧ (1 < I r4 → (∃ (z6 : Nat → Int32) (f6 : Nat → FA), call 91 [vR 32, vI x1] (LW W z4 f4) = some (none, LW W z6 f6) ∧ XC call (mP 95) 2 [some (vR 35), some (vI (x1 + 1))] [] (LW W z6 f6) res)))))))))))))) : XC call (mP 95) 2 [some (vR 35), some (vI x1)] [] (LW W z f) res := by
  refine xc_b (i' := 4) (ls' := [some (vR 35), some (vI x1)]) (st' := [vI 144, vI x1]) (L' := LW W z f) 2 (bh_c2_95_1 call x1 _) ?_
  refine xc_if (it := 33) (ie := 5) (ls' := [some (vR 35), some (vI x1)]) (st' := []) (bh_c2_95_2 call x1 144 _ _) (fun q1 => ?_) (fun q1 => ?_)
  · have H := H.1 (cI3t q1 rfl rfl)
    subst H
    exact xc_ret (bh_c2_95_3 call _ _)
  · have H := H.2 (cI3f q1 rfl rfl)
    refine xc_b (i' := 8) (ls' := [some (vR 35), some (vI x1)]) (st' := [vI x1, vR 32]) (L' := LW W z f) 3 (bh_c2_95_4 call x1 z f) ?_
    obtain ⟨r1, z1, f1, hc, H⟩ := H
    refine xc_call (t := 9) (ls' := [some (vR 35), some (vI x1)]) (st' := []) (bh_c2_95_5 call x1 _ z f) hc ?_
    show XC call (mP 95) 9 [some (vR 35), some (vI x1)] [vI r1] (LW W z1 f1) res
    refine xc_if (it := 31) (ie := 10) (ls' := [some (vR 35), some (vI x1)]) (st' := []) (bh_c2_95_6 call r1 _ _) (fun q2 => ?_) (fun q2 => ?_)
    · have H := H.1 (cI0t q2)
      refine xc_b (i' := 32) (ls' := [some (vR 35), some (vI (x1 + 1))]) (st' := []) (L' := LW W z1 f1) 1 (bh_c2_95_7 call x1 _) ?_
      refine xc_b (i' := 2) (ls' := [some (vR 35), some (vI (x1 + 1))]) (st' := []) (L' := LW W z1 f1) 1 (bh_c2_95_8 call (x1 + 1) _) ?_
      exact H
    · have H := H.2 (cI0f q2)
      refine xc_b (i' := 13) (ls' := [some (vR 35), some (vI x1)]) (st' := [vI x1, vR 35, vR 35]) (L' := LW W z1 f1) 3 (bh_c2_95_9 call x1 _) ?_
      obtain ⟨r2, z2, f2, hc, H⟩ := H
      refine xc_call (t := 14) (ls' := [some (vR 35), some (vI x1)]) (st' := [vR 35]) (bh_c2_95_10 call x1 _ z1 f1) hc ?_
      show XC call (mP 95) 14 [some (vR 35), some (vI x1)] [vI r2, vR 35] (LW W z2 f2) res
      obtain ⟨r3, z3, f3, hc, H⟩ := H
      refine xc_call (t := 15) (ls' := [some (vR 35), some (vI x1)]) (st' := []) (bh_c2_95_11 call r2 _ z2 f2) hc ?_
      show XC call (mP 95) 15 [some (vR 35), some (vI x1)] [vI r3] (LW W z3 f3) res
      refine xc_if (it := 31) (ie := 16) (ls' := [some (vR 35), some (vI x1)]) (st' := []) (bh_c2_95_12 call r3 _ _) (fun q3 => ?_) (fun q3 => ?_)
      · have H := H.1 (cI0t q3)
        refine xc_b (i' := 32) (ls' := [some (vR 35), some (vI (x1 + 1))]) (st' := []) (L' := LW W z3 f3) 1 (bh_c2_95_7 call x1 _) ?_
        refine xc_b (i' := 2) (ls' := [some (vR 35), some (vI (x1 + 1))]) (st' := []) (L' := LW W z3 f3) 1 (bh_c2_95_8 call (x1 + 1) _) ?_
        exact H
      · have H := H.2 (cI0f q3)
        refine xc_b (i' := 19) (ls' := [some (vR 35), some (vI x1)]) (st' := [vI x1, vR 32]) (L' := LW W z3 f3) 3 (bh_c2_95_13 call x1 z3 f3) ?_
        obtain ⟨r4, z4, f4, hc, H⟩ := H
        refine xc_call (t := 20) (ls' := [some (vR 35), some (vI x1)]) (st' := []) (bh_c2_95_14 call x1 _ z3 f3) hc ?_
        show XC call (mP 95) 20 [some (vR 35), some (vI x1)] [vI r4] (LW W z4 f4) res
        refine xc_b (i' := 21) (ls' := [some (vR 35), some (vI x1)]) (st' := [vI 1, vI r4]) (L' := LW W z4 f4) 1 (bh_c2_95_15 call x1 r4 _) ?_
        refine xc_if (it := 27) (ie := 22) (ls' := [some (vR 35), some (vI x1)]) (st' := []) (bh_c2_95_16 call r4 1 _ _) (fun q4 => ?_) (fun q4 => ?_)
        · have H := H.1 (cI5t q4 rfl rfl)
          refine xc_b (i' := 30) (ls' := [some (vR 35), some (vI x1)]) (st' := [vI 2, vI x1, vR 35]) (L' := LW W z4 f4) 3 (bh_c2_95_17 call x1 _) ?_
          obtain ⟨z5, f5, hc, H⟩ := H
          refine xc_call (t := 31) (ls' := [some (vR 35), some (vI x1)]) (st' := []) (bh_c2_95_18 call x1 2 _ z4 f4) hc ?_
          show XC call (mP 95) 31 [some (vR 35), some (vI x1)] [] (LW W z5 f5) res
          refine xc_b (i' := 32) (ls' := [some (vR 35), some (vI (x1 + 1))]) (st' := []) (L' := LW W z5 f5) 1 (bh_c2_95_7 call x1 _) ?_
          refine xc_b (i' := 2) (ls' := [some (vR 35), some (vI (x1 + 1))]) (st' := []) (L' := LW W z5 f5) 1 (bh_c2_95_8 call (x1 + 1) _) ?_
          exact H
        · have H := H.2 (cI5f q4 rfl rfl)
          refine xc_b (i' := 25) (ls' := [some (vR 35), some (vI x1)]) (st' := [vI x1, vR 32]) (L' := LW W z4 f4) 3 (bh_c2_95_19 call x1 z4 f4) ?_
          obtain ⟨z6, f6, hc, H⟩ := H
          refine xc_call (t := 26) (ls' := [some (vR 35), some (vI x1)]) (st' := []) (bh_c2_95_20 call x1 _ z4 f4) hc ?_
          show XC call (mP 95) 26 [some (vR 35), some (vI x1)] [] (LW W z6 f6) res
          refine xc_b (i' := 31) (ls' := [some (vR 35), some (vI x1)]) (st' := []) (L' := LW W z6 f6) 1 (bh_c2_95_21 call x1 _) ?_
          refine xc_b (i' := 32) (ls' := [some (vR 35), some (vI (x1 + 1))]) (st' := []) (L' := LW W z6 f6) 1 (bh_c2_95_7 call x1 _) ?_
          refine xc_b (i' := 2) (ls' := [some (vR 35), some (vI (x1 + 1))]) (st' := []) (L' := LW W z6 f6) 1 (bh_c2_95_8 call (x1 + 1) _) ?_
          exact H
/-- only what is worked with is changed -/
def SCh (f r f' r' : Nat → FA) : Prop := (∀ k, k ≠ 36 → k ≠ 37 → f' k = f k) ∧ ∀ k, k ≠ 21 → k ≠ 22 → r' k = r k
theorem SCh.rl {nv : Nat} {z zr : Nat → Int32} {f r f' r' : Nat → FA} (h : RLh nv z f zr r) (g : SCh f r f' r') : RLh nv z f' zr r' := ⟨cr_scrh h.1 (g.1 _ (by decide) (by decide)) (g.1 _ (by decide) (by decide)) (g.2 _ (by decide) (by decide)) (g.2 _ (by decide) (by decide)) (g.2 _ (by decide) (by decide)) (g.2 _ (by decide) (by decide)), h.2⟩
theorem SCh.fr {z : Nat → Int32} {f r f' r' : Nat → FA} (g : SCh f r f' r') : FRh z f r z f' r' := ⟨fun _ _ => rfl, fun k hk => g.1 k (fun q => hk (by rw [q]; decide)) (fun q => hk (by rw [q]; decide)), fun k hk => g.2 k (fun q => hk (by rw [q]; decide)) (fun q => hk (by rw [q]; decide))⟩
theorem SCh.trans {f r f' r' f2 r2 : Nat → FA} (g : SCh f r f' r') (h : SCh f' r' f2 r2) : SCh f r f2 r2 := ⟨fun k h1 h2 => (h.1 k h1 h2).trans (g.1 k h1 h2), fun k h1 h2 => (h.2 k h1 h2).trans (g.2 k h1 h2)⟩
theorem LRM.frh {z z' : Nat → Int32} {f r f' r' : Nat → FA} {L : LAW} {n : Nat} (hM : LRM r L n) (g : FRh z f r z' f' r') : LRM r' L n := by
  have e : ∀ k, k ∉ [1, 21, 22] → r' k = r k := g.2.2
  unfold LRM
  rw [e 10 (by decide), e 11 (by decide), e 12 (by decide), e 13 (by decide), e 14 (by decide), e 15 (by decide), e 16 (by decide)]
  exact hM
section LAWSh
variable {L : LAW} {n : Nat}
/-- how likely voter v comes: the same on both sides -/
theorem simComeh (hW : WTX W) (hC : LWC W 0 L n) (hL : LOK L n) (d d' : Nat) {nv v : Nat} (hv : v < nv) {z zr : Nat → Int32} {f r : Nat → FA} (h : RLh nv z f zr r) (hM : LRM r L n) : ∃ y f' r', (0 ≤ I y ∧ I y ≤ 1000) ∧ xcall (d + 4) 92 [vR 35, vI (nI v)] (LW W z f) = some (some (vI y), LW W z f') ∧ mcall (d' + 5) 198 [vR 0, vI (nI v)] (LR zr r) = some (some (vI y), LR zr r') ∧ SCh f r f' r' := by
  obtain ⟨⟨hn, hs, ht, hm, hr⟩, -⟩ := h
  obtain ⟨a1, a2, a3, a4, a5, a6, a7, a8⟩ := hs
  obtain ⟨b1, b2, b3, b4, b5, b6, -⟩ := ht v hv
  obtain ⟨g, k, h1⟩ := wComesh hW hC hL d (z := z) (f := f) a1 hn hv
  obtain ⟨g', k', h2⟩ := mComes hM hL d' (v := v) (by omega) (z := zr)
  have c1 : f 33 (20 + v) = r 1 (7 + v) := b2
  have c2 : f 33 (60 + v) = r 6 v := b4
  have c3 : f 33 (40 + v) = r 5 v := b3
  have c4 : f 33 (100 + v) = r 1 (47 + v) := b6
  have c5 : z 323 = r 1 4 := a2
  have c6 : z 324 = r 1 1 := a3
  have c7 : z 325 = r 1 0 := a4
  rw [c1, c2, c3, c4, c5, c6, c7] at h1
  refine ⟨_, _, _, ?_, h1, h2, fun k h3 h4 => by rw [uA_ne h4, uA_ne h3], fun k h3 h4 => by rw [uA_ne h4, uA_ne h3]⟩
  exact hld_b _ (by decide)
theorem simMlth (hW : WTX W) (hC : LWC W 0 L n) (hL : LOK L n) (d d' : Nat) {nv i : Nat} (hi : i < 144) {z zr : Nat → Int32} {f r : Nat → FA} (h : RLh nv z f zr r) (hM : LRM r L n) (hmk : ¬ f 34 i = 0) : ∃ y f' r', (0 ≤ I y ∧ I y ≤ 1000) ∧ xcall (d + 4) 96 [vR 35, vI (nI i)] (LW W z f) = some (some (vI y), LW W z f') ∧ mcall (d' + 5) 238 [vR 0, vI (nI i)] (LR zr r) = some (some (vI y), LR zr r') ∧ SCh f r f' r' := by
  obtain ⟨⟨hn, hs, ht, hm, hr⟩, -⟩ := h
  obtain ⟨a1, a2, a3, a4, a5, a6, a7, a8⟩ := hs
  obtain ⟨q1, q2, q3⟩ := (hm i hi).val hn
  rcases q3 with ⟨q, -, -⟩ | ⟨-, v, hv, ho, hwu, -⟩
  · exact absurd q hmk
  obtain ⟨b1, b2, b3, b4, b5, b6, -⟩ := ht v hv
  obtain ⟨g, k, h1⟩ := wMeltsh hW hC hL d (z := z) (f := f) a1 hn hv hi ho
  obtain ⟨g', k', h2⟩ := mMelts hM hL d' hn hv hi (z := zr) hm hwu
  have c2 : f 33 (60 + v) = r 6 v := b4
  have c3 : f 33 (40 + v) = r 5 v := b3
  have c4 : f 33 (100 + v) = r 1 (47 + v) := b6
  have c5 : z 323 = r 1 4 := a2
  have c6 : z 324 = r 1 1 := a3
  have c7 : z 325 = r 1 0 := a4
  have c8 : mkW (f 34 i) = r 1 (211 + i) := q1
  have c9 : mkD (f 34 i) = r 1 (355 + i) := q2
  rw [c2, c3, c4, c5, c6, c7, c8, c9] at h1
  refine ⟨_, _, _, ?_, h1, h2, fun k h3 h4 => by rw [uA_ne h4, uA_ne h3], fun k h3 h4 => by rw [uA_ne h4, uA_ne h3]⟩
  exact hld_b _ (by decide)
theorem simWghh (hW : WTX W) (hC : LWC W 0 L n) (hL : LOK L n) (d d' : Nat) {nv i : Nat} (hi : i < 144) {z zr : Nat → Int32} {f r : Nat → FA} (h : RLh nv z f zr r) (hM : LRM r L n) (hmk : ¬ f 34 i = 0) : ∃ y f' r', (0 ≤ I y ∧ I y ≤ 99) ∧ xcall (d + 4) 10 [vR 35, vI (nI i)] (LW W z f) = some (some (vI y), LW W z f') ∧ mcall (d' + 5) 50 [vR 0, vI (nI i)] (LR zr r) = some (some (vI y), LR zr r') ∧ SCh f r f' r' := by
  obtain ⟨⟨hn, hs, ht, hm, hr⟩, -⟩ := h
  obtain ⟨a1, a2, a3, a4, a5, a6, a7, a8⟩ := hs
  obtain ⟨q1, q2, q3⟩ := (hm i hi).val hn
  rcases q3 with ⟨q, -, -⟩ | ⟨-, v, hv, ho, hwu, -⟩
  · exact absurd q hmk
  obtain ⟨b1, b2, b3, b4, b5, b6, -⟩ := ht v hv
  obtain ⟨g, k, h1⟩ := wWeighsh hW hC hL d (z := z) (f := f) a1 hn hv hi ho
  obtain ⟨g', k', h2⟩ := mWeighs hM hL d' hn hv hi (z := zr) hm hwu
  have c2 : f 33 (60 + v) = r 6 v := b4
  have c3 : f 33 (40 + v) = r 5 v := b3
  have c4 : f 33 (100 + v) = r 1 (47 + v) := b6
  have c5 : z 323 = r 1 4 := a2
  have c6 : z 324 = r 1 1 := a3
  have c7 : z 325 = r 1 0 := a4
  have c8 : mkW (f 34 i) = r 1 (211 + i) := q1
  have c9 : mkD (f 34 i) = r 1 (355 + i) := q2
  rw [c2, c3, c4, c5, c6, c7, c8, c9] at h1
  refine ⟨_, _, _, ?_, h1, h2, fun k h3 h4 => by rw [uA_ne h4, uA_ne h3], fun k h3 h4 => by rw [uA_ne h4, uA_ne h3]⟩
  exact hld_b _ (by decide)
/-- the sum of all -/
theorem simSumh (hW : WTX W) (hC : LWC W 0 L n) (hL : LOK L n) (d d' : Nat) {nv : Nat} {z zr : Nat → Int32} : ∀ {f r : Nat → FA}, RLh nv z f zr r → LRM r L n → ∃ y f' r', xcall (d + 5) 5 [vR 35] (LW W z f) = some (some (vI y), LW W z f') ∧ mcall (d' + 6) 48 [vR 0] (LR zr r) = some (some (vI y), LR zr r') ∧ SCh f r f' r' := by
  have lp : ∀ t i, i + t = 144 → ∀ (f r : Nat → FA) (y : Int32), RLh nv z f zr r → LRM r L n → ∃ y' f' r', XC (xcall (d + 4)) (mP 5) 4 [some (vR 35), some (vI y), some (vI (nI i))] [] (LW W z f) (some (vI y'), LW W z f') ∧ RC (mcall (d' + 5)) (mP 48) 4 [some (vR 0), some (vI y), some (vI (nI i))] [] (LR zr r) (some (vI y'), LR zr r') ∧ SCh f r f' r' := by
    intro t
    induction t with
    | zero =>
      intro i hi f r y h hM
      obtain rfl : i = 144 := by omega
      exact ⟨y, f, r, vch_c4_5_4 _ _ _ _ _ _ ⟨fun _ => rfl, fun q => absurd q (by decide)⟩, vcc4_48_4 d' _ _ _ _ _ ⟨fun _ => rfl, fun q => absurd q (by decide)⟩, fun _ _ _ => rfl, fun _ _ _ => rfl⟩
    | succ t ih =>
      intro i hi f r y h hM
      have i144 : i < 144 := by omega
      have ii : I (nI i) = i := I_nI (by omega)
      have e1 : nI i + 1 = nI (i + 1) := nI_add i 1
      have e211 : (211 : Int32) + nI i = nI (211 + i) := nI_add 211 i
      have hmm := h.1.2.2.2.1
      have hn := h.1.1
      have c1 := wMkdh (W := W) (d + 3) (z := z) (f := f) i144
      have c2 := mIs (d' + 4) i144 (z := zr) (f := r)
      by_cases cm : f 34 i = 0
      · have cm' : ¬ 0 < I (r 1 (67 + i)) := fun q => ((hmm i i144).iff hn).mpr q cm
        rw [mk1_f (fun q => q cm)] at c1
        rw [mk1_f cm'] at c2
        obtain ⟨y', f', r', k1, k2, k3⟩ := ih (i + 1) (by omega) f r y h hM
        exact ⟨y', f', r', vch_c4_5_4 _ _ _ _ _ _ ⟨fun q => by omega, fun _ => ⟨_, _, _, c1, fun _ => by rw [e1]; exact k1, fun q => absurd rfl q⟩⟩, vcc4_48_4 d' _ _ _ _ _ ⟨fun q => by omega, fun _ => ⟨_, _, _, c2, fun _ => by rw [e1]; exact k2, fun q => absurd rfl q⟩⟩, k3⟩
      · have cm' : 0 < I (r 1 (67 + i)) := ((hmm i i144).iff hn).mp cm
        rw [mk1_t cm] at c1
        rw [mk1_t cm'] at c2
        obtain ⟨x, f1, r1, -, w1, w2, w3⟩ := simWghh hW hC hL d d' i144 h hM cm
        have wy := wWayh (W := W) (d + 2) (z := z) (f := f) i144
        rw [show mkW (f 34 i) = r 1 (211 + i) from ((hmm i i144).val hn).1] at wy
        obtain ⟨y', f', r', k1, k2, k3⟩ := ih (i + 1) (by omega) f1 r1 (y + r 1 (211 + i) * x) (w3.rl h) (LRM.frh hM (w3.fr (z := z)))
        exact ⟨y', f', r', vch_c4_5_4 _ _ _ _ _ _ ⟨fun q => by omega, fun _ => ⟨_, _, _, c1, fun q => absurd q (by decide), fun _ => ⟨_, _, _, wy, _, _, _, w1, by rw [e1]; exact k1⟩⟩⟩, vcc4_48_4 d' _ _ _ _ _ ⟨fun q => by omega, fun _ => ⟨_, _, _, c2, fun q => absurd q (by decide), fun _ => ⟨by rw [e211]; exact pin_nI (by omega) (by omega), _, _, _, w2, by rw [e1, e211, ix_nI (j := 211 + i) (by omega)]; exact k2⟩⟩⟩, w3.trans k3⟩
  intro f r h hM
  obtain ⟨y', f', r', k1, k2, k3⟩ := lp 144 0 rfl f r 0 h hM
  exact ⟨y', f', r', xcall_i (mq5 (cu := [])).2.2 rfl (vch_5_0 (xcall (d + 4)) none none z f _ k1), mcall_i (mq48 (cu := [])).2.2 rfl (vc48_0 d' none none zr r _ k2), k3⟩
theorem cr_thinh {nv i : Nat} (hi : i < 144) {z : Nat → Int32} {f r : Nat → FA} (h : CRL 32 nv z f r) (hmk : ¬ f 34 i = 0) (hd : 1 < I (r 1 (355 + i))) : CRL 32 nv z (uA f 34 (upd (f 34) i (f 34 i - mkW (f 34 i)))) (uA r 1 (upd (r 1) (355 + i) (r 1 (355 + i) - 1))) := by
  obtain ⟨hn, hs, ht, hm, hr⟩ := h
  have g : ∀ j, j ≠ 355 + i → upd (r 1) (355 + i) (r 1 (355 + i) - 1) j = r 1 j := fun j hj => pk_un hj
  refine ⟨hn, ?_, ?_, ?_, ?_⟩
  · rw [uA_self]
    unfold CRs
    rw [g 4 (by omega), g 1 (by omega), g 0 (by omega), g 5 (by omega), g 6 (by omega), g 2 (by omega), g 3 (by omega)]
    exact hs
  · rw [uA_self]
    exact ht.cong (fun j hj => by rw [uA_ne (show (33 : Nat) ≠ 34 by decide)]) (fun j h1 h2 => g j (by omega)) (fun v hv => rfl) (fun v hv => rfl) (fun v hv => rfl) hn
  · show MRS nv (uA f 34 (upd (f 34) i (f 34 i - mkW (f 34 i))) 34) (uA r 1 (upd (r 1) (355 + i) (r 1 (355 + i) - 1)) 1)
    rw [uA_self, uA_self]
    intro j hj
    by_cases c : j = i
    · subst c
      rw [pk_us, pk_us, pk_un (show 67 + j ≠ 355 + j by omega), pk_un (show 211 + j ≠ 355 + j by omega)]
      exact (hm j hj).thin hn hmk hd
    · rw [pk_un c, g _ (by omega), g _ (by omega), g _ (by omega)]
      exact hm j hj
  · rw [uA_self]
    unfold CRr
    rw [g 1 (by omega), g 3 (by omega)]
    exact hr
/-- the hour of the melting: cell by cell -/
theorem simMelth (hW : WTX W) (hC : LWC W 0 L n) (hL : LOK L n) (d d' : Nat) {nv : Nat} {zr : Nat → Int32} : ∀ {z : Nat → Int32} {f r : Nat → FA}, RLh nv z f zr r → LRM r L n → ∃ z' f' r', xcall (d + 5) 95 [vR 35] (LW W z f) = some (none, LW W z' f') ∧ (∀ x res, RC (mcall (d' + 6)) (mP 214) 98 [some (vR 0), some (vI x), some (vI (nI 144))] [] (LR zr r') res → RC (mcall (d' + 6)) (mP 214) 98 [some (vR 0), some (vI x), some (vI (nI 0))] [] (LR zr r) res) ∧ RLh nv z' f' zr r' ∧ FRh z f r z' f' r' ∧ r' 1 1 = r 1 1 := by
  have lp : ∀ t i, i + t = 144 → ∀ (z : Nat → Int32) (f r : Nat → FA), RLh nv z f zr r → LRM r L n → ∃ z' f' r', XC (xcall (d + 4)) (mP 95) 2 [some (vR 35), some (vI (nI i))] [] (LW W z f) (none, LW W z' f') ∧ (∀ x res, RC (mcall (d' + 6)) (mP 214) 98 [some (vR 0), some (vI x), some (vI (nI 144))] [] (LR zr r') res → RC (mcall (d' + 6)) (mP 214) 98 [some (vR 0), some (vI x), some (vI (nI i))] [] (LR zr r) res) ∧ RLh nv z' f' zr r' ∧ FRh z f r z' f' r' ∧ r' 1 1 = r 1 1 := by
    intro t
    induction t with
    | zero =>
      intro i hi z f r h hM
      obtain rfl : i = 144 := by omega
      exact ⟨z, f, r, vch_c2_95_2 _ _ _ _ _ ⟨fun _ => rfl, fun q => absurd q (by decide)⟩, fun x res q => q, h, FRh.rfl, rfl⟩
    | succ t ih =>
      intro i hi z f r h hM
      have i144 : i < 144 := by omega
      have ii : I (nI i) = i := I_nI (by omega)
      have e1 : nI i + 1 = nI (i + 1) := nI_add i 1
      have e355 : (355 : Int32) + nI i = nI (355 + i) := nI_add 355 i
      have e67 : (67 : Int32) + nI i = nI (67 + i) := nI_add 67 i
      have p355 : pin (nI (355 + i)) 499 = true := pin_nI (by omega) (by omega)
      have p67 : pin (nI (67 + i)) 499 = true := pin_nI (by omega) (by omega)
      have x355 : ix (nI (355 + i)) = 355 + i := ix_nI (by omega)
      have x67 : ix (nI (67 + i)) = 67 + i := ix_nI (by omega)
      have hmm := h.1.2.2.2.1
      have hn := h.1.1
      have c1 := wMkdh (W := W) (d + 3) (z := z) (f := f) i144
      have c2 := mIs (d' + 5) i144 (z := zr) (f := r)
      by_cases cm : f 34 i = 0
      · have cm' : ¬ 0 < I (r 1 (67 + i)) := fun q => ((hmm i i144).iff hn).mpr q cm
        rw [mk1_f (fun q => q cm)] at c1
        rw [mk1_f cm'] at c2
        obtain ⟨z', f', r', k1, k2, k3⟩ := ih (i + 1) (by omega) z f r h hM
        exact ⟨z', f', r', vch_c2_95_2 _ _ _ _ _ ⟨fun q => by omega, fun _ => ⟨_, _, _, c1, fun _ => by rw [e1]; exact k1, fun q => absurd rfl q⟩⟩, fun x res q => vcc98_214_98 d' _ _ _ _ _ ⟨fun q => by omega, fun _ => ⟨_, _, _, c2, fun _ => by rw [e1]; exact k2 x res q, fun q => absurd rfl q⟩⟩, k3⟩
      · have cm' : 0 < I (r 1 (67 + i)) := ((hmm i i144).iff hn).mp cm
        rw [mk1_t cm] at c1
        rw [mk1_t cm'] at c2
        obtain ⟨y, f1, r1, hy, w1, w2, w3⟩ := simMlth hW hC hL d d' i144 h hM cm
        obtain ⟨b, z2, r2, hb, h1, h2, h3, h4, h5⟩ := simHaph (W := W) (d + 2) (d' + 3) y hy.1 hy.2 (w3.rl h)
        have hF2 := FRh.trans (w3.fr (z := z)) h4
        have hM2 := LRM.frh hM hF2
        have r11 : r1 1 = r 1 := w3.2 1 (by decide) (by decide)
        have f14 : f1 34 = f 34 := w3.1 34 (by decide) (by decide)
        have hr2 : ∀ j, j ≠ 2 → r2 1 j = r 1 j := fun j hj => (h5 j hj).trans (by rw [r11])
        have hm2 : ¬ f1 34 i = 0 := by rw [f14]; exact cm
        rcases hb with rfl | rfl
        · -- nothing melts
          obtain ⟨z', f', r', k1, k2, k3, k4, k5⟩ := ih (i + 1) (by omega) z2 f1 r2 h3 hM2
          have hmt : mcall (d' + 6) 241 [vR 0, vI (nI i)] (LR zr r) = some (none, LR zr r2) := mcall_i (mq241 (cu := [])).2.2 rfl (vc241_0 d' (nI i) zr r _ ⟨_, _, _, w2, _, _, _, h2, fun q => absurd rfl q, fun _ => rfl⟩)
          exact ⟨z', f', r', vch_c2_95_2 _ _ _ _ _ ⟨fun q => by omega, fun _ => ⟨_, _, _, c1, fun q => absurd q (by decide), fun _ => ⟨_, _, _, w1, _, _, _, h1, fun _ => by rw [e1]; exact k1, fun q => absurd rfl q⟩⟩⟩, fun x res q => vcc98_214_98 d' _ _ _ _ _ ⟨fun q => by omega, fun _ => ⟨_, _, _, c2, fun q => absurd q (by decide), fun _ => ⟨_, _, hmt, by rw [e1]; exact k2 x res q⟩⟩⟩, k3, FRh.trans hF2 k4, k5.trans (hr2 1 (by decide))⟩
        · have hmm2 := h3.1.2.2.2.1
          obtain ⟨q1, q2, q3⟩ := (hmm2 i i144).val hn
          have q2 : mkD (f1 34 i) = r2 1 (355 + i) := q2
          rcases q3 with ⟨q, -, -⟩ | ⟨-, v, hv, ho, hwu, hwy, e, e1', e9, hde⟩
          · exact absurd q hm2
          have dep := wDeph (W := W) (d + 2) (z := z2) (f := f1) i144
          rw [q2, hde] at dep
          have ie : I (nI e) = e := I_nI (by omega)
          have em : nI e - 1 = nI (e - 1) := nI_sub (b := 1) e1'
          have iem : I (nI (e - 1)) = ((e - 1 : Nat) : Int) := I_nI (by omega)
          by_cases ce : e = 1
          · -- the mark is gone
            obtain ⟨z3, f3, r3, t1, t2, t3, t4, t5, t6⟩ := simTakeh (W := W) (d + 1) (d' + 4) 2 i144 h3 hm2
            obtain ⟨ra, t7, t8⟩ := t2 (uA r2 1 (upd (r2 1) (355 + i) (nI (e - 1)))) (fun k hk => uA_ne hk) (fun j hj => by rw [uA_self, pk_un hj])
            have hmt : mcall (d' + 6) 241 [vR 0, vI (nI i)] (LR zr r) = some (none, LR zr r3) := by
              refine mcall_i (mq241 (cu := [])).2.2 rfl (vc241_0 d' (nI i) zr r _ ⟨_, _, _, w2, _, _, _, h2, fun _ => ?_, fun q => absurd q (by decide)⟩)
              rw [e355, e67, x355, x67, hde, em, pk_us, pk_un (show 67 + i ≠ 355 + i by omega)]
              exact ⟨p355, p355, p355, fun _ => ⟨p67, _, _, t7, _, _, t8, rfl⟩, fun q => by omega⟩
            have hF3 := FRh.trans hF2 t4
            obtain ⟨z', f', r', k1, k2, k3, k4, k5⟩ := ih (i + 1) (by omega) z3 f3 r3 t3 (LRM.frh hM hF3)
            exact ⟨z', f', r', vch_c2_95_2 _ _ _ _ _ ⟨fun q => by omega, fun _ => ⟨_, _, _, c1, fun q => absurd q (by decide), fun _ => ⟨_, _, _, w1, _, _, _, h1, fun q => absurd q (by decide), fun _ => ⟨_, _, _, dep, fun _ => ⟨_, _, t1, by rw [e1]; exact k1⟩, fun q => by omega⟩⟩⟩⟩, fun x res q => vcc98_214_98 d' _ _ _ _ _ ⟨fun q => by omega, fun _ => ⟨_, _, _, c2, fun q => absurd q (by decide), fun _ => ⟨_, _, hmt, by rw [e1]; exact k2 x res q⟩⟩⟩, k3, FRh.trans hF3 k4, (k5.trans t6).trans (hr2 1 (by decide))⟩
          · -- one less deep
            have hth := wThinh (W := W) (d + 1) (z := z2) (f := f1) i144 hm2 (by rw [q2, hde, ie]; omega)
            have h6 : RLh nv z2 (uA f1 34 (upd (f1 34) i (f1 34 i - mkW (f1 34 i)))) zr (uA r2 1 (upd (r2 1) (355 + i) (nI (e - 1)))) := by
              have q := cr_thinh i144 h3.1 hm2 (by rw [hde, ie]; omega)
              rw [hde, em] at q
              exact ⟨q, h3.2⟩
            have hmt : mcall (d' + 6) 241 [vR 0, vI (nI i)] (LR zr r) = some (none, LR zr (uA r2 1 (upd (r2 1) (355 + i) (nI (e - 1))))) := by
              refine mcall_i (mq241 (cu := [])).2.2 rfl (vc241_0 d' (nI i) zr r _ ⟨_, _, _, w2, _, _, _, h2, fun _ => ?_, fun q => absurd q (by decide)⟩)
              rw [e355, e67, x355, x67, hde, em, pk_us]
              exact ⟨p355, p355, p355, fun q => by omega, fun _ => rfl⟩
            have hF3 : FRh z f r z2 (uA f1 34 (upd (f1 34) i (f1 34 i - mkW (f1 34 i)))) (uA r2 1 (upd (r2 1) (355 + i) (nI (e - 1)))) := FRh.trans hF2 ⟨fun _ _ => rfl, fun k hk => uA_ne (fun q => hk (by rw [q]; decide)), fun k hk => uA_ne (fun q => hk (by rw [q]; decide))⟩
            obtain ⟨z', f', r', k1, k2, k3, k4, k5⟩ := ih (i + 1) (by omega) z2 _ _ h6 (LRM.frh hM hF3)
            exact ⟨z', f', r', vch_c2_95_2 _ _ _ _ _ ⟨fun q => by omega, fun _ => ⟨_, _, _, c1, fun q => absurd q (by decide), fun _ => ⟨_, _, _, w1, _, _, _, h1, fun q => absurd q (by decide), fun _ => ⟨_, _, _, dep, fun q => by omega, fun _ => ⟨_, _, hth, by rw [e1]; exact k1⟩⟩⟩⟩⟩, fun x res q => vcc98_214_98 d' _ _ _ _ _ ⟨fun q => by omega, fun _ => ⟨_, _, _, c2, fun q => absurd q (by decide), fun _ => ⟨_, _, hmt, by rw [e1]; exact k2 x res q⟩⟩⟩, k3, FRh.trans hF3 k4, k5.trans ((by rw [uA_self, pk_un (by omega)]; exact hr2 1 (by decide)))⟩
  intro z f r h hM
  obtain ⟨z', f', r', k1, k2⟩ := lp 144 0 rfl z f r h hM
  exact ⟨z', f', r', xcall_i (mq95 (cu := [])).2.2 rfl (vch_95_0 (xcall (d + 4)) none z f _ k1), k2⟩
end LAWSh
end TWs
