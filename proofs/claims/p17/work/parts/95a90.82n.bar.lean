/-! a face, bare squares: both sides -/
section TWs
variable {W : TXW}
set_option maxRecDepth 100000 in
theorem bt_31_1 (call : QC FA) (o2 : Option PV) (o3 : Option PV) (o4 : Option PV) (o5 : Option PV) (o6 : Option PV) (L : QH FA) (F : Nat) : xnG call 31 (F + 4) 0 [some (vR 39), some (vR 2), o2, o3, o4, o5, o6] [] L = xnG call 31 F 4 [some (vR 39), some (vR 2), some (vI 0), some (vI 0), o4, o5, o6] [] L := rfl
theorem vct_31_0 (call : QC FA) (o2 : Option PV) (o3 : Option PV) (o4 : Option PV) (o5 : Option PV) (o6 : Option PV) (z : Nat → Int32) (f : Nat → FA) (res : Option PV × QH FA) (H : XC call (mP 31) 4 [some (vR 39), some (vR 2), some (vI 0), some (vI 0), o4, o5, o6] [] (LW W z f) res) : XC call (mP 31) 0 [some (vR 39), some (vR 2), o2, o3, o4, o5, o6] [] (LW W z f) res := by
  refine xc_b (i' := 4) (ls' := [some (vR 39), some (vR 2), some (vI 0), some (vI 0), o4, o5, o6]) (st' := []) (L' := LW W z f) 4 (bt_31_1 call o2 o3 o4 o5 o6 _) ?_
  exact H
set_option maxRecDepth 100000 in
theorem bt_c4_31_1 (call : QC FA) (x2 : Int32) (x3 : Int32) (o4 : Option PV) (o5 : Option PV) (o6 : Option PV) (L : QH FA) (F : Nat) : xnG call 31 (F + 2) 4 [some (vR 39), some (vR 2), some (vI x2), some (vI x3), o4, o5, o6] [] L = xnG call 31 F 6 [some (vR 39), some (vR 2), some (vI x2), some (vI x3), o4, o5, o6] [vI 12, vI x3] L := rfl
set_option maxRecDepth 100000 in
theorem bt_c4_31_2 (call : QC FA) (x y : Int32) (ls : List (Option PV)) (L : QH FA) (F : Nat) : xnG call 31 (F + 1) 6 ls [vI y, vI x] L = bif pcmp 3 x y then xnG call 31 F 45 ls [] L else xnG call 31 F 7 ls [] L := rfl
set_option maxRecDepth 100000 in
theorem bt_c4_31_3 (call : QC FA) (x2 : Int32) (x3 : Int32) (o4 : Option PV) (o5 : Option PV) (o6 : Option PV) (L : QH FA) (F : Nat) : xnG call 31 (F + 1) 45 [some (vR 39), some (vR 2), some (vI x2), some (vI x3), o4, o5, o6] [] L = xnG call 31 F 46 [some (vR 39), some (vR 2), some (vI x2), some (vI x3), o4, o5, o6] [vI x2] L := rfl
set_option maxRecDepth 100000 in
theorem bt_c4_31_4 (call : QC FA) (x : Int32) (ls : List (Option PV)) (L : QH FA) (F : Nat) : xnG call 31 (F + 1) 46 ls [vI x] L = some (some (vI x), L) := rfl
set_option maxRecDepth 100000 in
theorem bt_c4_31_5 (call : QC FA) (x2 : Int32) (x3 : Int32) (o4 : Option PV) (o5 : Option PV) (o6 : Option PV) (L : QH FA) (F : Nat) : xnG call 31 (F + 2) 7 [some (vR 39), some (vR 2), some (vI x2), some (vI x3), o4, o5, o6] [] L = xnG call 31 F 9 [some (vR 39), some (vR 2), some (vI x2), some (vI x3), some (vI 0), o5, o6] [] L := rfl
theorem vct_c4_31_4 (call : QC FA) (x2 : Int32) (x3 : Int32) (o4 : Option PV) (o5 : Option PV) (o6 : Option PV) (z : Nat → Int32) (f : Nat → FA) (res : Option PV × QH FA) (H : ((12 ≤ I x3 → res = (some (vI x2), LW W z f)) ∧ (I x3 < 12 → XC call (mP 31) 9 [some (vR 39), some (vR 2), some (vI x2), some (vI x3), some (vI 0), o5, o6] [] (LW W z f) res))) : XC call (mP 31) 4 [some (vR 39), some (vR 2), some (vI x2), some (vI x3), o4, o5, o6] [] (LW W z f) res := by
  refine xc_b (i' := 6) (ls' := [some (vR 39), some (vR 2), some (vI x2), some (vI x3), o4, o5, o6]) (st' := [vI 12, vI x3]) (L' := LW W z f) 2 (bt_c4_31_1 call x2 x3 o4 o5 o6 _) ?_
  refine xc_if (it := 45) (ie := 7) (ls' := [some (vR 39), some (vR 2), some (vI x2), some (vI x3), o4, o5, o6]) (st' := []) (bt_c4_31_2 call x3 12 _ _) (fun q1 => ?_) (fun q1 => ?_)
  · have H := H.1 (cI3t q1 rfl rfl)
    refine xc_b (i' := 46) (ls' := [some (vR 39), some (vR 2), some (vI x2), some (vI x3), o4, o5, o6]) (st' := [vI x2]) (L' := LW W z f) 1 (bt_c4_31_3 call x2 x3 o4 o5 o6 _) ?_
    subst H
    exact xc_ret (bt_c4_31_4 call _ _ _)
  · have H := H.2 (cI3f q1 rfl rfl)
    refine xc_b (i' := 9) (ls' := [some (vR 39), some (vR 2), some (vI x2), some (vI x3), some (vI 0), o5, o6]) (st' := []) (L' := LW W z f) 2 (bt_c4_31_5 call x2 x3 o4 o5 o6 _) ?_
    exact H
set_option maxRecDepth 100000 in
theorem bt_c9_31_1 (call : QC FA) (x2 : Int32) (x3 : Int32) (x4 : Int32) (o5 : Option PV) (o6 : Option PV) (L : QH FA) (F : Nat) : xnG call 31 (F + 2) 9 [some (vR 39), some (vR 2), some (vI x2), some (vI x3), some (vI x4), o5, o6] [] L = xnG call 31 F 11 [some (vR 39), some (vR 2), some (vI x2), some (vI x3), some (vI x4), o5, o6] [vI 6, vI x4] L := rfl
set_option maxRecDepth 100000 in
theorem bt_c9_31_2 (call : QC FA) (x y : Int32) (ls : List (Option PV)) (L : QH FA) (F : Nat) : xnG call 31 (F + 1) 11 ls [vI y, vI x] L = bif pcmp 3 x y then xnG call 31 F 43 ls [] L else xnG call 31 F 12 ls [] L := rfl
set_option maxRecDepth 100000 in
theorem bt_c9_31_3 (call : QC FA) (x2 : Int32) (x3 : Int32) (x4 : Int32) (o5 : Option PV) (o6 : Option PV) (L : QH FA) (F : Nat) : xnG call 31 (F + 1) 43 [some (vR 39), some (vR 2), some (vI x2), some (vI x3), some (vI x4), o5, o6] [] L = xnG call 31 F 44 [some (vR 39), some (vR 2), some (vI x2), some (vI (x3 + 1)), some (vI x4), o5, o6] [] L := rfl
set_option maxRecDepth 100000 in
theorem bt_c9_31_4 (call : QC FA) (x2 : Int32) (x3 : Int32) (x4 : Int32) (o5 : Option PV) (o6 : Option PV) (L : QH FA) (F : Nat) : xnG call 31 (F + 1) 44 [some (vR 39), some (vR 2), some (vI x2), some (vI x3), some (vI x4), o5, o6] [] L = xnG call 31 F 4 [some (vR 39), some (vR 2), some (vI x2), some (vI x3), some (vI x4), o5, o6] [] L := rfl
set_option maxRecDepth 100000 in
theorem bt_c9_31_5 (call : QC FA) (x2 : Int32) (x3 : Int32) (x4 : Int32) (o5 : Option PV) (o6 : Option PV) (L : QH FA) (F : Nat) : xnG call 31 (F + 6) 12 [some (vR 39), some (vR 2), some (vI x2), some (vI x3), some (vI x4), o5, o6] [] L = xnG call 31 F 18 [some (vR 39), some (vR 2), some (vI x2), some (vI x3), some (vI x4), o5, o6] [vI ((x3 * 12) + x4), vR 2] L := rfl
set_option maxRecDepth 100000 in
theorem bt_c9_31_6 (call : QC FA) (a0 : Int32) (ls : List (Option PV)) (z : Nat → Int32) (f : Nat → FA) (F : Nat) : xnG call 31 (F + 1) 18 ls [vI a0, vR 2] (LW W z f) = cbd (call 7 [vR 2, vI a0] (LW W z f)) (fun r L' => xnG call 31 F 19 ls (r.toList ++ []) L') := pcY (ih := xnG call 31 F) (call := call) (a := 7) (b := 1) (v := 0) (t := 19) (x := 2) (ls := ls) (As := [vI a0]) (st' := []) (L := LW W z f) rfl rfl rfl
set_option maxRecDepth 100000 in
theorem bt_c9_31_7 (call : QC FA) (x2 : Int32) (x3 : Int32) (x4 : Int32) (o5 : Option PV) (o6 : Option PV) (s0 : Int32) (L : QH FA) (F : Nat) : xnG call 31 (F + 11) 19 [some (vR 39), some (vR 2), some (vI x2), some (vI x3), some (vI x4), o5, o6] [vI s0] L = xnG call 31 F 30 [some (vR 39), some (vR 2), some (vI x2), some (vI x3), some (vI x4), some (vI s0), o6] [vI ((((x3 * 12) + 12) - 1) - x4), vR 2] L := rfl
set_option maxRecDepth 100000 in
theorem bt_c9_31_8 (call : QC FA) (a0 : Int32) (ls : List (Option PV)) (z : Nat → Int32) (f : Nat → FA) (F : Nat) : xnG call 31 (F + 1) 30 ls [vI a0, vR 2] (LW W z f) = cbd (call 7 [vR 2, vI a0] (LW W z f)) (fun r L' => xnG call 31 F 31 ls (r.toList ++ []) L') := pcY (ih := xnG call 31 F) (call := call) (a := 7) (b := 1) (v := 0) (t := 31) (x := 2) (ls := ls) (As := [vI a0]) (st' := []) (L := LW W z f) rfl rfl rfl
set_option maxRecDepth 100000 in
theorem bt_c9_31_9 (call : QC FA) (x2 : Int32) (x3 : Int32) (x4 : Int32) (x5 : Int32) (o6 : Option PV) (s0 : Int32) (L : QH FA) (F : Nat) : xnG call 31 (F + 4) 31 [some (vR 39), some (vR 2), some (vI x2), some (vI x3), some (vI x4), some (vI x5), o6] [vI s0] L = xnG call 31 F 35 [some (vR 39), some (vR 2), some (vI x2), some (vI x3), some (vI x4), some (vI x5), some (vI s0)] [vI s0, vI x5, vI x2] L := rfl
set_option maxRecDepth 100000 in
theorem bt_c9_31_10 (call : QC FA) (x y : Int32) (s0 : Int32) (ls : List (Option PV)) (L : QH FA) (F : Nat) : xnG call 31 (F + 1) 35 ls [vI y, vI x, vI s0] L = bif pcmp 1 x y then xnG call 31 F 38 ls [vI s0] L else xnG call 31 F 36 ls [vI s0] L := rfl
set_option maxRecDepth 100000 in
theorem bt_c9_31_11 (call : QC FA) (x2 : Int32) (x3 : Int32) (x4 : Int32) (x5 : Int32) (x6 : Int32) (s0 : Int32) (L : QH FA) (F : Nat) : xnG call 31 (F + 3) 38 [some (vR 39), some (vR 2), some (vI x2), some (vI x3), some (vI x4), some (vI x5), some (vI x6)] [vI s0] L = xnG call 31 F 41 [some (vR 39), some (vR 2), some (vI (s0 + 1)), some (vI x3), some (vI x4), some (vI x5), some (vI x6)] [] L := rfl
set_option maxRecDepth 100000 in
theorem bt_c9_31_12 (call : QC FA) (x2 : Int32) (x3 : Int32) (x4 : Int32) (x5 : Int32) (x6 : Int32) (L : QH FA) (F : Nat) : xnG call 31 (F + 1) 41 [some (vR 39), some (vR 2), some (vI x2), some (vI x3), some (vI x4), some (vI x5), some (vI x6)] [] L = xnG call 31 F 42 [some (vR 39), some (vR 2), some (vI x2), some (vI x3), some (vI (x4 + 1)), some (vI x5), some (vI x6)] [] L := rfl
set_option maxRecDepth 100000 in
theorem bt_c9_31_13 (call : QC FA) (x2 : Int32) (x3 : Int32) (x4 : Int32) (x5 : Int32) (x6 : Int32) (L : QH FA) (F : Nat) : xnG call 31 (F + 1) 42 [some (vR 39), some (vR 2), some (vI x2), some (vI x3), some (vI x4), some (vI x5), some (vI x6)] [] L = xnG call 31 F 9 [some (vR 39), some (vR 2), some (vI x2), some (vI x3), some (vI x4), some (vI x5), some (vI x6)] [] L := rfl
set_option maxRecDepth 100000 in
theorem bt_c9_31_14 (call : QC FA) (x2 : Int32) (x3 : Int32) (x4 : Int32) (x5 : Int32) (x6 : Int32) (s0 : Int32) (L : QH FA) (F : Nat) : xnG call 31 (F + 4) 36 [some (vR 39), some (vR 2), some (vI x2), some (vI x3), some (vI x4), some (vI x5), some (vI x6)] [vI s0] L = xnG call 31 F 41 [some (vR 39), some (vR 2), some (vI (s0 + 0)), some (vI x3), some (vI x4), some (vI x5), some (vI x6)] [] L := rfl
theorem vct_c9_31_9 (call : QC FA) (x2 : Int32) (x3 : Int32) (x4 : Int32) (o5 : Option PV) (o6 : Option PV) (z : Nat → Int32) (f : Nat → FA) (res : Option PV × QH FA) (H : ((6 ≤ I x4 → XC call (mP 31) 4 [some (vR 39), some (vR 2), some (vI x2), some (vI (x3 + 1)), some (vI x4), o5, o6] [] (LW W z f) res) ∧ (I x4 < 6 → (∃ (r1 : Int32) (z1 : Nat → Int32) (f1 : Nat → FA), call 7 [vR 2, vI ((x3 * 12) + x4)] (LW W z f) = some (some (vI r1), LW W z1 f1) ∧ (∃ (r2 : Int32) (z2 : Nat → Int32) (f2 : Nat → FA), call 7 [vR 2, vI ((((x3 * 12) + 12) - 1) - x4)] (LW W z1 f1) = some (some (vI r2), LW W z2 f2) ∧ ((¬ r1 = r2 → XC call (mP 31) 9 [some (vR 39), some (vR 2), some (vI (x2 + 1)), some (vI x3), some (vI (x4 + 1)), some (vI r1), some (vI r2)] [] (LW W z2 f2) res) ∧ (r1 = r2 → XC call (mP 31) 9 [some (vR 39), some (vR 2), some (vI (x2 + 0)), some (vI x3), some (vI (x4 + 1)), some (vI r1), some (vI r2)] [] (LW W z2 f2) res))))))) : XC call (mP 31) 9 [some (vR 39), some (vR 2), some (vI x2), some (vI x3), some (vI x4), o5, o6] [] (LW W z f) res := by
  refine xc_b (i' := 11) (ls' := [some (vR 39), some (vR 2), some (vI x2), some (vI x3), some (vI x4), o5, o6]) (st' := [vI 6, vI x4]) (L' := LW W z f) 2 (bt_c9_31_1 call x2 x3 x4 o5 o6 _) ?_
  refine xc_if (it := 43) (ie := 12) (ls' := [some (vR 39), some (vR 2), some (vI x2), some (vI x3), some (vI x4), o5, o6]) (st' := []) (bt_c9_31_2 call x4 6 _ _) (fun q1 => ?_) (fun q1 => ?_)
  · have H := H.1 (cI3t q1 rfl rfl)
    refine xc_b (i' := 44) (ls' := [some (vR 39), some (vR 2), some (vI x2), some (vI (x3 + 1)), some (vI x4), o5, o6]) (st' := []) (L' := LW W z f) 1 (bt_c9_31_3 call x2 x3 x4 o5 o6 _) ?_
    refine xc_b (i' := 4) (ls' := [some (vR 39), some (vR 2), some (vI x2), some (vI (x3 + 1)), some (vI x4), o5, o6]) (st' := []) (L' := LW W z f) 1 (bt_c9_31_4 call x2 (x3 + 1) x4 o5 o6 _) ?_
    exact H
  · have H := H.2 (cI3f q1 rfl rfl)
    refine xc_b (i' := 18) (ls' := [some (vR 39), some (vR 2), some (vI x2), some (vI x3), some (vI x4), o5, o6]) (st' := [vI ((x3 * 12) + x4), vR 2]) (L' := LW W z f) 6 (bt_c9_31_5 call x2 x3 x4 o5 o6 _) ?_
    obtain ⟨r1, z1, f1, hc, H⟩ := H
    refine xc_call (t := 19) (ls' := [some (vR 39), some (vR 2), some (vI x2), some (vI x3), some (vI x4), o5, o6]) (st' := []) (bt_c9_31_6 call ((x3 * 12) + x4) _ z f) hc ?_
    show XC call (mP 31) 19 [some (vR 39), some (vR 2), some (vI x2), some (vI x3), some (vI x4), o5, o6] [vI r1] (LW W z1 f1) res
    refine xc_b (i' := 30) (ls' := [some (vR 39), some (vR 2), some (vI x2), some (vI x3), some (vI x4), some (vI r1), o6]) (st' := [vI ((((x3 * 12) + 12) - 1) - x4), vR 2]) (L' := LW W z1 f1) 11 (bt_c9_31_7 call x2 x3 x4 o5 o6 r1 _) ?_
    obtain ⟨r2, z2, f2, hc, H⟩ := H
    refine xc_call (t := 31) (ls' := [some (vR 39), some (vR 2), some (vI x2), some (vI x3), some (vI x4), some (vI r1), o6]) (st' := []) (bt_c9_31_8 call ((((x3 * 12) + 12) - 1) - x4) _ z1 f1) hc ?_
    show XC call (mP 31) 31 [some (vR 39), some (vR 2), some (vI x2), some (vI x3), some (vI x4), some (vI r1), o6] [vI r2] (LW W z2 f2) res
    refine xc_b (i' := 35) (ls' := [some (vR 39), some (vR 2), some (vI x2), some (vI x3), some (vI x4), some (vI r1), some (vI r2)]) (st' := [vI r2, vI r1, vI x2]) (L' := LW W z2 f2) 4 (bt_c9_31_9 call x2 x3 x4 r1 o6 r2 _) ?_
    refine xc_if (it := 38) (ie := 36) (ls' := [some (vR 39), some (vR 2), some (vI x2), some (vI x3), some (vI x4), some (vI r1), some (vI r2)]) (st' := [vI x2]) (bt_c9_31_10 call r1 r2 x2 _ _) (fun q2 => ?_) (fun q2 => ?_)
    · have H := H.1 (cI1t q2)
      refine xc_b (i' := 41) (ls' := [some (vR 39), some (vR 2), some (vI (x2 + 1)), some (vI x3), some (vI x4), some (vI r1), some (vI r2)]) (st' := []) (L' := LW W z2 f2) 3 (bt_c9_31_11 call x2 x3 x4 r1 r2 x2 _) ?_
      refine xc_b (i' := 42) (ls' := [some (vR 39), some (vR 2), some (vI (x2 + 1)), some (vI x3), some (vI (x4 + 1)), some (vI r1), some (vI r2)]) (st' := []) (L' := LW W z2 f2) 1 (bt_c9_31_12 call (x2 + 1) x3 x4 r1 r2 _) ?_
      refine xc_b (i' := 9) (ls' := [some (vR 39), some (vR 2), some (vI (x2 + 1)), some (vI x3), some (vI (x4 + 1)), some (vI r1), some (vI r2)]) (st' := []) (L' := LW W z2 f2) 1 (bt_c9_31_13 call (x2 + 1) x3 (x4 + 1) r1 r2 _) ?_
      exact H
    · have H := H.2 (cI1f q2)
      refine xc_b (i' := 41) (ls' := [some (vR 39), some (vR 2), some (vI (x2 + 0)), some (vI x3), some (vI x4), some (vI r1), some (vI r2)]) (st' := []) (L' := LW W z2 f2) 4 (bt_c9_31_14 call x2 x3 x4 r1 r2 x2 _) ?_
      refine xc_b (i' := 42) (ls' := [some (vR 39), some (vR 2), some (vI (x2 + 0)), some (vI x3), some (vI (x4 + 1)), some (vI r1), some (vI r2)]) (st' := []) (L' := LW W z2 f2) 1 (bt_c9_31_12 call (x2 + 0) x3 x4 r1 r2 _) ?_
      refine xc_b (i' := 9) (ls' := [some (vR 39), some (vR 2), some (vI (x2 + 0)), some (vI x3), some (vI (x4 + 1)), some (vI r1), some (vI r2)]) (st' := []) (L' := LW W z2 f2) 1 (bt_c9_31_13 call (x2 + 0) x3 (x4 + 1) r1 r2 _) ?_
      exact H
set_option maxRecDepth 100000 in
theorem bt_33_1 (call : QC FA) (x1 : Int32) (L : QH FA) (F : Nat) : xnG call 33 (F + 1) 0 [some (vR 39), some (vI x1)] [] L = xnG call 33 F 1 [some (vR 39), some (vI x1)] [vI x1] L := rfl
set_option maxRecDepth 100000 in
theorem bt_33_2 (call : QC FA) (x : Int32) (ls : List (Option PV)) (L : QH FA) (F : Nat) : xnG call 33 (F + 1) 1 ls [vI x] L = bif pcmp 2 x 0 then xnG call 33 F 14 ls [] L else xnG call 33 F 2 ls [] L := rfl
set_option maxRecDepth 100000 in
theorem bt_33_3 (call : QC FA) (x1 : Int32) (L : QH FA) (F : Nat) : xnG call 33 (F + 1) 14 [some (vR 39), some (vI x1)] [] L = xnG call 33 F 15 [some (vR 39), some (vI x1)] [vI 0] L := rfl
set_option maxRecDepth 100000 in
theorem bt_33_4 (call : QC FA) (x : Int32) (ls : List (Option PV)) (L : QH FA) (F : Nat) : xnG call 33 (F + 1) 15 ls [vI x] L = some (some (vI x), L) := rfl
set_option maxRecDepth 100000 in
theorem bt_33_5 (call : QC FA) (x1 : Int32) (L : QH FA) (F : Nat) : xnG call 33 (F + 6) 2 [some (vR 39), some (vI x1)] [] L = xnG call 33 F 8 [some (vR 39), some (vI x1)] [vI 144, vI ((x1 + 12) + 1)] L := rfl
set_option maxRecDepth 100000 in
theorem bt_33_6 (call : QC FA) (x y : Int32) (ls : List (Option PV)) (L : QH FA) (F : Nat) : xnG call 33 (F + 1) 8 ls [vI y, vI x] L = bif pcmp 3 x y then xnG call 33 F 14 ls [] L else xnG call 33 F 9 ls [] L := rfl
set_option maxRecDepth 100000 in
theorem bt_33_7 (call : QC FA) (x1 : Int32) (L : QH FA) (F : Nat) : xnG call 33 (F + 2) 9 [some (vR 39), some (vI x1)] [] L = xnG call 33 F 11 [some (vR 39), some (vI x1)] [vI 12, vI x1] L := rfl
set_option maxRecDepth 100000 in
theorem bt_33_8 (call : QC FA) (x y : Int32) (ls : List (Option PV)) (L : QH FA) (F : Nat) : xnG call 33 (F + 1) 11 ls [vI y, vI x] L = bif pcmp 1 y 0 then xnG call 33 F 12 ls [vI (x - x / y * y)] L else none := rfl
set_option maxRecDepth 100000 in
theorem bt_33_9 (call : QC FA) (x1 : Int32) (s0 : Int32) (L : QH FA) (F : Nat) : xnG call 33 (F + 1) 12 [some (vR 39), some (vI x1)] [vI s0] L = xnG call 33 F 13 [some (vR 39), some (vI x1)] [vI 11, vI s0] L := rfl
set_option maxRecDepth 100000 in
theorem bt_33_10 (call : QC FA) (x y : Int32) (ls : List (Option PV)) (L : QH FA) (F : Nat) : xnG call 33 (F + 1) 13 ls [vI y, vI x] L = bif pcmp 1 x y then xnG call 33 F 16 ls [] L else xnG call 33 F 14 ls [] L := rfl
set_option maxRecDepth 100000 in
theorem bt_33_11 (call : QC FA) (x1 : Int32) (z : Nat → Int32) (f : Nat → FA) (F : Nat) : xnG call 33 (F + 5) 16 [some (vR 39), some (vI x1)] [] (LW W z f) = xnG call 33 F 21 [some (vR 39), some (vI x1)] [vI (x1 + 1), vR 40] (LW W z f) := rfl
set_option maxRecDepth 100000 in
theorem bt_33_12 (call : QC FA) (x : Int32) (ls : List (Option PV)) (z : Nat → Int32) (f : Nat → FA) (F : Nat) : xnG call 33 (F + 1) 21 ls [vI x, vR 40] (LW W z f) = bif (Nat.beq 0 0 && pin x 144) then xnG call 33 F 22 ls [vI (f 40 (ix x))] (LW W z f) else none := rfl
set_option maxRecDepth 100000 in
theorem bt_33_13 (call : QC FA) (x1 : Int32) (s0 : Int32) (z : Nat → Int32) (f : Nat → FA) (F : Nat) : xnG call 33 (F + 5) 22 [some (vR 39), some (vI x1)] [vI s0] (LW W z f) = xnG call 33 F 27 [some (vR 39), some (vI x1)] [vI (x1 + 12), vR 40, vI s0] (LW W z f) := rfl
set_option maxRecDepth 100000 in
theorem bt_33_14 (call : QC FA) (x : Int32) (s0 : Int32) (ls : List (Option PV)) (z : Nat → Int32) (f : Nat → FA) (F : Nat) : xnG call 33 (F + 1) 27 ls [vI x, vR 40, vI s0] (LW W z f) = bif (Nat.beq 0 0 && pin x 144) then xnG call 33 F 28 ls [vI (f 40 (ix x)), vI s0] (LW W z f) else none := rfl
set_option maxRecDepth 100000 in
theorem bt_33_15 (call : QC FA) (x1 : Int32) (s0 : Int32) (s1 : Int32) (z : Nat → Int32) (f : Nat → FA) (F : Nat) : xnG call 33 (F + 7) 28 [some (vR 39), some (vI x1)] [vI s0, vI s1] (LW W z f) = xnG call 33 F 35 [some (vR 39), some (vI x1)] [vI ((x1 + 12) + 1), vR 40, vI s0, vI s1] (LW W z f) := rfl
set_option maxRecDepth 100000 in
theorem bt_33_16 (call : QC FA) (x : Int32) (s0 : Int32) (s1 : Int32) (ls : List (Option PV)) (z : Nat → Int32) (f : Nat → FA) (F : Nat) : xnG call 33 (F + 1) 35 ls [vI x, vR 40, vI s0, vI s1] (LW W z f) = bif (Nat.beq 0 0 && pin x 144) then xnG call 33 F 36 ls [vI (f 40 (ix x)), vI s0, vI s1] (LW W z f) else none := rfl
set_option maxRecDepth 100000 in
theorem bt_33_17 (call : QC FA) (x y : Int32) (s0 : Int32) (ls : List (Option PV)) (L : QH FA) (F : Nat) : xnG call 33 (F + 1) 36 ls [vI y, vI x, vI s0] L = bif pcmp 2 y x then xnG call 33 F 37 ls [vI y, vI s0] L else xnG call 33 F 37 ls [vI x, vI s0] L := pmn (xnG call 33 F) 37 x y ls [vI s0] L rfl
set_option maxRecDepth 100000 in
theorem bt_33_18 (call : QC FA) (x y : Int32) (ls : List (Option PV)) (L : QH FA) (F : Nat) : xnG call 33 (F + 1) 37 ls [vI y, vI x] L = bif pcmp 2 y x then xnG call 33 F 38 ls [vI y] L else xnG call 33 F 38 ls [vI x] L := pmn (xnG call 33 F) 38 x y ls [] L rfl
set_option maxRecDepth 100000 in
theorem bt_33_19 (call : QC FA) (x : Int32) (ls : List (Option PV)) (L : QH FA) (F : Nat) : xnG call 33 (F + 1) 38 ls [vI x] L = some (some (vI x), L) := rfl
theorem vct_33_0 (call : QC FA) (x1 : Int32) (z : Nat → Int32) (f : Nat → FA) (res : Option PV × QH FA) (H : ((I x1 < 0 → res = (some (vI 0), LW W z f)) ∧ (0 ≤ I x1 → ((144 ≤ I ((x1 + 12) + 1) → res = (some (vI 0), LW W z f)) ∧ (I ((x1 + 12) + 1) < 144 → (¬ (12 : Int32) = 0 ∧ ((¬ x1 - x1 / 12 * 12 = 11 → (pin (x1 + 1) 144 = true ∧ (pin (x1 + 12) 144 = true ∧ (pin ((x1 + 12) + 1) 144 = true ∧ ((I (f 40 (ix ((x1 + 12) + 1))) < I (f 40 (ix (x1 + 12))) → ((I (f 40 (ix ((x1 + 12) + 1))) < I (f 40 (ix (x1 + 1))) → res = (some (vI (f 40 (ix ((x1 + 12) + 1)))), LW W z f)) ∧ (I (f 40 (ix (x1 + 1))) ≤ I (f 40 (ix ((x1 + 12) + 1))) → res = (some (vI (f 40 (ix (x1 + 1)))), LW W z f)))) ∧ (I (f 40 (ix (x1 + 12))) ≤ I (f 40 (ix ((x1 + 12) + 1))) → ((I (f 40 (ix (x1 + 12))) < I (f 40 (ix (x1 + 1))) → res = (some (vI (f 40 (ix (x1 + 12)))), LW W z f)) ∧ (I (f 40 (ix (x1 + 1))) ≤ I (f 40 (ix (x1 + 12))) → res = (some (vI (f 40 (ix (x1 + 1)))), LW W z f))))))))) ∧ (x1 - x1 / 12 * 12 = 11 → res = (some (vI 0), LW W z f))))))))) : XC call (mP 33) 0 [some (vR 39), some (vI x1)] [] (LW W z f) res := by
  refine xc_b (i' := 1) (ls' := [some (vR 39), some (vI x1)]) (st' := [vI x1]) (L' := LW W z f) 1 (bt_33_1 call x1 _) ?_
  refine xc_if (it := 14) (ie := 2) (ls' := [some (vR 39), some (vI x1)]) (st' := []) (bt_33_2 call x1 _ _) (fun q1 => ?_) (fun q1 => ?_)
  · have H := H.1 (cI2t q1 rfl rfl)
    refine xc_b (i' := 15) (ls' := [some (vR 39), some (vI x1)]) (st' := [vI 0]) (L' := LW W z f) 1 (bt_33_3 call x1 _) ?_
    subst H
    exact xc_ret (bt_33_4 call _ _ _)
  · have H := H.2 (cI2f q1 rfl rfl)
    refine xc_b (i' := 8) (ls' := [some (vR 39), some (vI x1)]) (st' := [vI 144, vI ((x1 + 12) + 1)]) (L' := LW W z f) 6 (bt_33_5 call x1 _) ?_
    refine xc_if (it := 14) (ie := 9) (ls' := [some (vR 39), some (vI x1)]) (st' := []) (bt_33_6 call ((x1 + 12) + 1) 144 _ _) (fun q2 => ?_) (fun q2 => ?_)
    · have H := H.1 (cI3t q2 rfl rfl)
      refine xc_b (i' := 15) (ls' := [some (vR 39), some (vI x1)]) (st' := [vI 0]) (L' := LW W z f) 1 (bt_33_3 call x1 _) ?_
      subst H
      exact xc_ret (bt_33_4 call _ _ _)
    · have H := H.2 (cI3f q2 rfl rfl)
      refine xc_b (i' := 11) (ls' := [some (vR 39), some (vI x1)]) (st' := [vI 12, vI x1]) (L' := LW W z f) 2 (bt_33_7 call x1 _) ?_
      obtain ⟨g1, H⟩ := H
      refine xc_g (i' := 12) (ls' := [some (vR 39), some (vI x1)]) (st' := [vI (x1 - x1 / 12 * 12)]) (L' := LW W z f) (bt_33_8 call x1 12 _ _) (cmp_ne.trans (decide_eq_true g1)) ?_
      refine xc_b (i' := 13) (ls' := [some (vR 39), some (vI x1)]) (st' := [vI 11, vI (x1 - x1 / 12 * 12)]) (L' := LW W z f) 1 (bt_33_9 call x1 (x1 - x1 / 12 * 12) _) ?_
      refine xc_if (it := 16) (ie := 14) (ls' := [some (vR 39), some (vI x1)]) (st' := []) (bt_33_10 call (x1 - x1 / 12 * 12) 11 _ _) (fun q3 => ?_) (fun q3 => ?_)
      · have H := H.1 (cI1t q3)
        refine xc_b (i' := 21) (ls' := [some (vR 39), some (vI x1)]) (st' := [vI (x1 + 1), vR 40]) (L' := LW W z f) 5 (bt_33_11 call x1 z f) ?_
        obtain ⟨g1, H⟩ := H
        refine xc_g (i' := 22) (ls' := [some (vR 39), some (vI x1)]) (st' := [vI (f 40 (ix (x1 + 1)))]) (L' := LW W z f) (bt_33_12 call (x1 + 1) _ z f) (pinG g1) ?_
        refine xc_b (i' := 27) (ls' := [some (vR 39), some (vI x1)]) (st' := [vI (x1 + 12), vR 40, vI (f 40 (ix (x1 + 1)))]) (L' := LW W z f) 5 (bt_33_13 call x1 (f 40 (ix (x1 + 1))) z f) ?_
        obtain ⟨g1, H⟩ := H
        refine xc_g (i' := 28) (ls' := [some (vR 39), some (vI x1)]) (st' := [vI (f 40 (ix (x1 + 12))), vI (f 40 (ix (x1 + 1)))]) (L' := LW W z f) (bt_33_14 call (x1 + 12) (f 40 (ix (x1 + 1))) _ z f) (pinG g1) ?_
        refine xc_b (i' := 35) (ls' := [some (vR 39), some (vI x1)]) (st' := [vI ((x1 + 12) + 1), vR 40, vI (f 40 (ix (x1 + 12))), vI (f 40 (ix (x1 + 1)))]) (L' := LW W z f) 7 (bt_33_15 call x1 (f 40 (ix (x1 + 12))) (f 40 (ix (x1 + 1))) z f) ?_
        obtain ⟨g1, H⟩ := H
        refine xc_g (i' := 36) (ls' := [some (vR 39), some (vI x1)]) (st' := [vI (f 40 (ix ((x1 + 12) + 1))), vI (f 40 (ix (x1 + 12))), vI (f 40 (ix (x1 + 1)))]) (L' := LW W z f) (bt_33_16 call ((x1 + 12) + 1) (f 40 (ix (x1 + 12))) (f 40 (ix (x1 + 1))) _ z f) (pinG g1) ?_
        refine xc_if2 (it := 37) (ie := 37) (ls' := [some (vR 39), some (vI x1)]) (st1 := [vI (f 40 (ix ((x1 + 12) + 1))), vI (f 40 (ix (x1 + 1)))]) (st2 := [vI (f 40 (ix (x1 + 12))), vI (f 40 (ix (x1 + 1)))]) (bt_33_17 call (f 40 (ix (x1 + 12))) (f 40 (ix ((x1 + 12) + 1))) (f 40 (ix (x1 + 1))) _ _) (fun q4 => ?_) (fun q4 => ?_)
        · have H := H.1 (cI2t q4 rfl rfl)
          refine xc_if2 (it := 38) (ie := 38) (ls' := [some (vR 39), some (vI x1)]) (st1 := [vI (f 40 (ix ((x1 + 12) + 1)))]) (st2 := [vI (f 40 (ix (x1 + 1)))]) (bt_33_18 call (f 40 (ix (x1 + 1))) (f 40 (ix ((x1 + 12) + 1))) _ _) (fun q5 => ?_) (fun q5 => ?_)
          · have H := H.1 (cI2t q5 rfl rfl)
            subst H
            exact xc_ret (bt_33_19 call _ _ _)
          · have H := H.2 (cI2f q5 rfl rfl)
            subst H
            exact xc_ret (bt_33_19 call _ _ _)
        · have H := H.2 (cI2f q4 rfl rfl)
          refine xc_if2 (it := 38) (ie := 38) (ls' := [some (vR 39), some (vI x1)]) (st1 := [vI (f 40 (ix (x1 + 12)))]) (st2 := [vI (f 40 (ix (x1 + 1)))]) (bt_33_18 call (f 40 (ix (x1 + 1))) (f 40 (ix (x1 + 12))) _ _) (fun q6 => ?_) (fun q6 => ?_)
          · have H := H.1 (cI2t q6 rfl rfl)
            subst H
            exact xc_ret (bt_33_19 call _ _ _)
          · have H := H.2 (cI2f q6 rfl rfl)
            subst H
            exact xc_ret (bt_33_19 call _ _ _)
      · have H := H.2 (cI1f q3)
        refine xc_b (i' := 15) (ls' := [some (vR 39), some (vI x1)]) (st' := [vI 0]) (L' := LW W z f) 1 (bt_33_3 call x1 _) ?_
        subst H
        exact xc_ret (bt_33_4 call _ _ _)
set_option maxRecDepth 100000 in
theorem bt_32_1 (call : QC FA) (x2 : Int32) (o3 : Option PV) (o4 : Option PV) (o5 : Option PV) (L : QH FA) (F : Nat) : xnG call 32 (F + 6) 0 [some (vR 39), some (vR 2), some (vI x2), o3, o4, o5] [] L = xnG call 32 F 6 [some (vR 39), some (vR 2), some (vI x2), some (vI 0), some (vI ((-1))), some (vI 143)] [] L := rfl
theorem vct_32_0 (call : QC FA) (x2 : Int32) (o3 : Option PV) (o4 : Option PV) (o5 : Option PV) (z : Nat → Int32) (f : Nat → FA) (res : Option PV × QH FA) (H : XC call (mP 32) 6 [some (vR 39), some (vR 2), some (vI x2), some (vI 0), some (vI ((-1))), some (vI 143)] [] (LW W z f) res) : XC call (mP 32) 0 [some (vR 39), some (vR 2), some (vI x2), o3, o4, o5] [] (LW W z f) res := by
  refine xc_b (i' := 6) (ls' := [some (vR 39), some (vR 2), some (vI x2), some (vI 0), some (vI ((-1))), some (vI 143)]) (st' := []) (L' := LW W z f) 6 (bt_32_1 call x2 o3 o4 o5 _) ?_
  exact H
set_option maxRecDepth 100000 in
theorem bt_c6_32_1 (call : QC FA) (x2 : Int32) (x3 : Int32) (x4 : Int32) (x5 : Int32) (L : QH FA) (F : Nat) : xnG call 32 (F + 1) 6 [some (vR 39), some (vR 2), some (vI x2), some (vI x3), some (vI x4), some (vI x5)] [] L = xnG call 32 F 7 [some (vR 39), some (vR 2), some (vI x2), some (vI x3), some (vI x4), some (vI x5)] [vI x5] L := rfl
set_option maxRecDepth 100000 in
theorem bt_c6_32_2 (call : QC FA) (x : Int32) (ls : List (Option PV)) (L : QH FA) (F : Nat) : xnG call 32 (F + 1) 7 ls [vI x] L = bif pcmp 2 x 0 then xnG call 32 F 43 ls [] L else xnG call 32 F 8 ls [] L := rfl
set_option maxRecDepth 100000 in
theorem bt_c6_32_3 (call : QC FA) (x2 : Int32) (x3 : Int32) (x4 : Int32) (x5 : Int32) (L : QH FA) (F : Nat) : xnG call 32 (F + 1) 43 [some (vR 39), some (vR 2), some (vI x2), some (vI x3), some (vI x4), some (vI x5)] [] L = xnG call 32 F 44 [some (vR 39), some (vR 2), some (vI x2), some (vI x3), some (vI x4), some (vI x5)] [vI x2] L := rfl
set_option maxRecDepth 100000 in
theorem bt_c6_32_4 (call : QC FA) (x : Int32) (ls : List (Option PV)) (L : QH FA) (F : Nat) : xnG call 32 (F + 1) 44 ls [vI x] L = bif pcmp 1 x 0 then xnG call 32 F 47 ls [] L else xnG call 32 F 45 ls [] L := rfl
set_option maxRecDepth 100000 in
theorem bt_c6_32_5 (call : QC FA) (x2 : Int32) (x3 : Int32) (x4 : Int32) (x5 : Int32) (L : QH FA) (F : Nat) : xnG call 32 (F + 2) 47 [some (vR 39), some (vR 2), some (vI x2), some (vI x3), some (vI x4), some (vI x5)] [] L = xnG call 32 F 49 [some (vR 39), some (vR 2), some (vI x2), some (vI x3), some (vI x4), some (vI x5)] [vI ((-1)), vI x4] L := rfl
set_option maxRecDepth 100000 in
theorem bt_c6_32_6 (call : QC FA) (x y : Int32) (ls : List (Option PV)) (L : QH FA) (F : Nat) : xnG call 32 (F + 1) 49 ls [vI y, vI x] L = bif pcmp 1 x y then xnG call 32 F 52 ls [] L else xnG call 32 F 50 ls [] L := rfl
set_option maxRecDepth 100000 in
theorem bt_c6_32_7 (call : QC FA) (x2 : Int32) (x3 : Int32) (x4 : Int32) (x5 : Int32) (L : QH FA) (F : Nat) : xnG call 32 (F + 2) 52 [some (vR 39), some (vR 2), some (vI x2), some (vI x3), some (vI x4), some (vI x5)] [] L = xnG call 32 F 54 [some (vR 39), some (vR 2), some (vI x2), some (vI x3), some (vI x4), some (vI x5)] [vI 1, vI x2] L := rfl
set_option maxRecDepth 100000 in
theorem bt_c6_32_8 (call : QC FA) (x y : Int32) (ls : List (Option PV)) (L : QH FA) (F : Nat) : xnG call 32 (F + 1) 54 ls [vI y, vI x] L = bif pcmp 1 x y then xnG call 32 F 59 ls [] L else xnG call 32 F 55 ls [] L := rfl
set_option maxRecDepth 100000 in
theorem bt_c6_32_9 (call : QC FA) (x2 : Int32) (x3 : Int32) (x4 : Int32) (x5 : Int32) (L : QH FA) (F : Nat) : xnG call 32 (F + 2) 59 [some (vR 39), some (vR 2), some (vI x2), some (vI x3), some (vI x4), some (vI x5)] [] L = xnG call 32 F 61 [some (vR 39), some (vR 2), some (vI x2), some (vI x3), some (vI x4), some (vI x5)] [vI 12, vI x4] L := rfl
set_option maxRecDepth 100000 in
theorem bt_c6_32_10 (call : QC FA) (x y : Int32) (ls : List (Option PV)) (L : QH FA) (F : Nat) : xnG call 32 (F + 1) 61 ls [vI y, vI x] L = bif pcmp 1 y 0 then xnG call 32 F 62 ls [vI (x - x / y * y)] L else none := rfl
set_option maxRecDepth 100000 in
theorem bt_c6_32_11 (call : QC FA) (x : Int32) (ls : List (Option PV)) (L : QH FA) (F : Nat) : xnG call 32 (F + 1) 62 ls [vI x] L = some (some (vI x), L) := rfl
set_option maxRecDepth 100000 in
theorem bt_c6_32_12 (call : QC FA) (x2 : Int32) (x3 : Int32) (x4 : Int32) (x5 : Int32) (L : QH FA) (F : Nat) : xnG call 32 (F + 2) 55 [some (vR 39), some (vR 2), some (vI x2), some (vI x3), some (vI x4), some (vI x5)] [] L = xnG call 32 F 57 [some (vR 39), some (vR 2), some (vI x2), some (vI x3), some (vI x4), some (vI x5)] [vI 12, vI x4] L := rfl
set_option maxRecDepth 100000 in
theorem bt_c6_32_13 (call : QC FA) (x y : Int32) (ls : List (Option PV)) (L : QH FA) (F : Nat) : xnG call 32 (F + 1) 57 ls [vI y, vI x] L = bif pcmp 1 y 0 then xnG call 32 F 58 ls [vI (x / y)] L else none := rfl
set_option maxRecDepth 100000 in
theorem bt_c6_32_14 (call : QC FA) (x2 : Int32) (x3 : Int32) (x4 : Int32) (x5 : Int32) (s0 : Int32) (L : QH FA) (F : Nat) : xnG call 32 (F + 1) 58 [some (vR 39), some (vR 2), some (vI x2), some (vI x3), some (vI x4), some (vI x5)] [vI s0] L = xnG call 32 F 62 [some (vR 39), some (vR 2), some (vI x2), some (vI x3), some (vI x4), some (vI x5)] [vI s0] L := rfl
set_option maxRecDepth 100000 in
theorem bt_c6_32_15 (call : QC FA) (x2 : Int32) (x3 : Int32) (x4 : Int32) (x5 : Int32) (L : QH FA) (F : Nat) : xnG call 32 (F + 1) 50 [some (vR 39), some (vR 2), some (vI x2), some (vI x3), some (vI x4), some (vI x5)] [] L = xnG call 32 F 51 [some (vR 39), some (vR 2), some (vI x2), some (vI x3), some (vI x4), some (vI x5)] [vI ((-1))] L := rfl
set_option maxRecDepth 100000 in
theorem bt_c6_32_16 (call : QC FA) (x : Int32) (ls : List (Option PV)) (L : QH FA) (F : Nat) : xnG call 32 (F + 1) 51 ls [vI x] L = some (some (vI x), L) := rfl
set_option maxRecDepth 100000 in
theorem bt_c6_32_17 (call : QC FA) (x2 : Int32) (x3 : Int32) (x4 : Int32) (x5 : Int32) (L : QH FA) (F : Nat) : xnG call 32 (F + 1) 45 [some (vR 39), some (vR 2), some (vI x2), some (vI x3), some (vI x4), some (vI x5)] [] L = xnG call 32 F 46 [some (vR 39), some (vR 2), some (vI x2), some (vI x3), some (vI x4), some (vI x5)] [vI x3] L := rfl
set_option maxRecDepth 100000 in
theorem bt_c6_32_18 (call : QC FA) (x : Int32) (ls : List (Option PV)) (L : QH FA) (F : Nat) : xnG call 32 (F + 1) 46 ls [vI x] L = some (some (vI x), L) := rfl
set_option maxRecDepth 100000 in
theorem bt_c6_32_19 (call : QC FA) (x2 : Int32) (x3 : Int32) (x4 : Int32) (x5 : Int32) (z : Nat → Int32) (f : Nat → FA) (F : Nat) : xnG call 32 (F + 5) 8 [some (vR 39), some (vR 2), some (vI x2), some (vI x3), some (vI x4), some (vI x5)] [] (LW W z f) = xnG call 32 F 13 [some (vR 39), some (vR 2), some (vI x2), some (vI x3), some (vI x4), some (vI x5)] [vI x5, vR 2, vI x5, vR 40] (LW W z f) := rfl
set_option maxRecDepth 100000 in
theorem bt_c6_32_20 (call : QC FA) (a0 : Int32) (s0 : Int32) (ls : List (Option PV)) (z : Nat → Int32) (f : Nat → FA) (F : Nat) : xnG call 32 (F + 1) 13 ls [vI a0, vR 2, vI s0, vR 40] (LW W z f) = cbd (call 6 [vR 2, vI a0] (LW W z f)) (fun r L' => xnG call 32 F 14 ls (r.toList ++ [vI s0, vR 40]) L') := pcY (ih := xnG call 32 F) (call := call) (a := 6) (b := 1) (v := 0) (t := 14) (x := 2) (ls := ls) (As := [vI a0]) (st' := [vI s0, vR 40]) (L := LW W z f) rfl rfl rfl
set_option maxRecDepth 100000 in
theorem bt_c6_32_21 (call : QC FA) (x : Int32) (s0 : Int32) (ls : List (Option PV)) (L : QH FA) (F : Nat) : xnG call 32 (F + 1) 14 ls [vI x, vI s0, vR 40] L = bif pcmp 0 x 0 then xnG call 32 F 17 ls [vI s0, vR 40] L else xnG call 32 F 15 ls [vI s0, vR 40] L := rfl
set_option maxRecDepth 100000 in
theorem bt_c6_32_22 (call : QC FA) (x2 : Int32) (x3 : Int32) (x4 : Int32) (x5 : Int32) (s0 : Int32) (L : QH FA) (F : Nat) : xnG call 32 (F + 3) 17 [some (vR 39), some (vR 2), some (vI x2), some (vI x3), some (vI x4), some (vI x5)] [vI s0, vR 40] L = xnG call 32 F 20 [some (vR 39), some (vR 2), some (vI x2), some (vI x3), some (vI x4), some (vI x5)] [vI x5, vR 39, vI 1, vI s0, vR 40] L := rfl
set_option maxRecDepth 100000 in
theorem bt_c6_32_23 (call : QC FA) (a0 : Int32) (s0 : Int32) (s1 : Int32) (ls : List (Option PV)) (z : Nat → Int32) (f : Nat → FA) (F : Nat) : xnG call 32 (F + 1) 20 ls [vI a0, vR 39, vI s0, vI s1, vR 40] (LW W z f) = cbd (call 33 [vR 39, vI a0] (LW W z f)) (fun r L' => xnG call 32 F 21 ls (r.toList ++ [vI s0, vI s1, vR 40]) L') := pcY (ih := xnG call 32 F) (call := call) (a := 33) (b := 1) (v := 6) (t := 21) (x := 39) (ls := ls) (As := [vI a0]) (st' := [vI s0, vI s1, vR 40]) (L := LW W z f) rfl rfl rfl
set_option maxRecDepth 100000 in
theorem bt_c6_32_24 (call : QC FA) (x2 : Int32) (x3 : Int32) (x4 : Int32) (x5 : Int32) (s0 : Int32) (s1 : Int32) (s2 : Int32) (L : QH FA) (F : Nat) : xnG call 32 (F + 1) 21 [some (vR 39), some (vR 2), some (vI x2), some (vI x3), some (vI x4), some (vI x5)] [vI s0, vI s1, vI s2, vR 40] L = xnG call 32 F 22 [some (vR 39), some (vR 2), some (vI x2), some (vI x3), some (vI x4), some (vI x5)] [vI (s1 + s0), vI s2, vR 40] L := rfl
set_option maxRecDepth 100000 in
theorem bt_c6_32_25 (call : QC FA) (x y : Int32) (ls : List (Option PV)) (z : Nat → Int32) (f : Nat → FA) (F : Nat) : xnG call 32 (F + 1) 22 ls [vI y, vI x, vR 40] (LW W z f) = bif (Nat.beq 0 0 && pin x 144) then xnG call 32 F 23 ls [] (LW W z (uA f 40 (upd (f 40) (ix x) y))) else none := rfl
set_option maxRecDepth 100000 in
theorem bt_c6_32_26 (call : QC FA) (x2 : Int32) (x3 : Int32) (x4 : Int32) (x5 : Int32) (z : Nat → Int32) (f : Nat → FA) (F : Nat) : xnG call 32 (F + 3) 23 [some (vR 39), some (vR 2), some (vI x2), some (vI x3), some (vI x4), some (vI x5)] [] (LW W z f) = xnG call 32 F 26 [some (vR 39), some (vR 2), some (vI x2), some (vI x3), some (vI x4), some (vI x5)] [vI x5, vR 40] (LW W z f) := rfl
set_option maxRecDepth 100000 in
theorem bt_c6_32_27 (call : QC FA) (x : Int32) (ls : List (Option PV)) (z : Nat → Int32) (f : Nat → FA) (F : Nat) : xnG call 32 (F + 1) 26 ls [vI x, vR 40] (LW W z f) = bif (Nat.beq 0 0 && pin x 144) then xnG call 32 F 27 ls [vI (f 40 (ix x))] (LW W z f) else none := rfl
set_option maxRecDepth 100000 in
theorem bt_c6_32_28 (call : QC FA) (x : Int32) (ls : List (Option PV)) (L : QH FA) (F : Nat) : xnG call 32 (F + 1) 27 ls [vI x] L = bif pcmp 5 x 0 then xnG call 32 F 41 ls [] L else xnG call 32 F 28 ls [] L := rfl
theorem bt_c6_32_29i (ih : QK FA) (t : Nat) (v x : Int32) (l0 l1 l2 l3 l4 : Option PV) (st : List PV) (L : QH FA) : p_iinc ih fzF 5 v t [l0, l1, l2, l3, l4, some (vI x)] st L = ih t [l0, l1, l2, l3, l4, some (vI (x + v))] st L := rfl
set_option maxRecDepth 100000 in
theorem bt_c6_32_29 (call : QC FA) (x2 : Int32) (x3 : Int32) (x4 : Int32) (x5 : Int32) (L : QH FA) (F : Nat) : xnG call 32 (F + 1) 41 [some (vR 39), some (vR 2), some (vI x2), some (vI x3), some (vI x4), some (vI x5)] [] L = xnG call 32 F 42 [some (vR 39), some (vR 2), some (vI x2), some (vI x3), some (vI x4), some (vI (x5 + (-1)))] [] L := bt_c6_32_29i (xnG call 32 F) 42 (-1) x5 _ _ _ _ _ _ _
set_option maxRecDepth 100000 in
theorem bt_c6_32_30 (call : QC FA) (x2 : Int32) (x3 : Int32) (x4 : Int32) (x5 : Int32) (L : QH FA) (F : Nat) : xnG call 32 (F + 1) 42 [some (vR 39), some (vR 2), some (vI x2), some (vI x3), some (vI x4), some (vI x5)] [] L = xnG call 32 F 6 [some (vR 39), some (vR 2), some (vI x2), some (vI x3), some (vI x4), some (vI x5)] [] L := rfl
set_option maxRecDepth 100000 in
theorem bt_c6_32_31 (call : QC FA) (x2 : Int32) (x3 : Int32) (x4 : Int32) (x5 : Int32) (z : Nat → Int32) (f : Nat → FA) (F : Nat) : xnG call 32 (F + 3) 28 [some (vR 39), some (vR 2), some (vI x2), some (vI x3), some (vI x4), some (vI x5)] [] (LW W z f) = xnG call 32 F 31 [some (vR 39), some (vR 2), some (vI x2), some (vI x3), some (vI x4), some (vI x5)] [vI x5, vR 40] (LW W z f) := rfl
set_option maxRecDepth 100000 in
theorem bt_c6_32_32 (call : QC FA) (x : Int32) (ls : List (Option PV)) (z : Nat → Int32) (f : Nat → FA) (F : Nat) : xnG call 32 (F + 1) 31 ls [vI x, vR 40] (LW W z f) = bif (Nat.beq 0 0 && pin x 144) then xnG call 32 F 32 ls [vI (f 40 (ix x))] (LW W z f) else none := rfl
set_option maxRecDepth 100000 in
theorem bt_c6_32_33 (call : QC FA) (x2 : Int32) (x3 : Int32) (x4 : Int32) (x5 : Int32) (s0 : Int32) (L : QH FA) (F : Nat) : xnG call 32 (F + 1) 32 [some (vR 39), some (vR 2), some (vI x2), some (vI x3), some (vI x4), some (vI x5)] [vI s0] L = xnG call 32 F 33 [some (vR 39), some (vR 2), some (vI x2), some (vI x3), some (vI x4), some (vI x5)] [vI x3, vI s0] L := rfl
set_option maxRecDepth 100000 in
theorem bt_c6_32_34 (call : QC FA) (x y : Int32) (ls : List (Option PV)) (L : QH FA) (F : Nat) : xnG call 32 (F + 1) 33 ls [vI y, vI x] L = bif pcmp 2 x y then xnG call 32 F 41 ls [] L else xnG call 32 F 34 ls [] L := rfl
set_option maxRecDepth 100000 in
theorem bt_c6_32_35 (call : QC FA) (x2 : Int32) (x3 : Int32) (x4 : Int32) (x5 : Int32) (z : Nat → Int32) (f : Nat → FA) (F : Nat) : xnG call 32 (F + 3) 34 [some (vR 39), some (vR 2), some (vI x2), some (vI x3), some (vI x4), some (vI x5)] [] (LW W z f) = xnG call 32 F 37 [some (vR 39), some (vR 2), some (vI x2), some (vI x3), some (vI x4), some (vI x5)] [vI x5, vR 40] (LW W z f) := rfl
set_option maxRecDepth 100000 in
theorem bt_c6_32_36 (call : QC FA) (x : Int32) (ls : List (Option PV)) (z : Nat → Int32) (f : Nat → FA) (F : Nat) : xnG call 32 (F + 1) 37 ls [vI x, vR 40] (LW W z f) = bif (Nat.beq 0 0 && pin x 144) then xnG call 32 F 38 ls [vI (f 40 (ix x))] (LW W z f) else none := rfl
set_option maxRecDepth 100000 in
theorem bt_c6_32_37 (call : QC FA) (x2 : Int32) (x3 : Int32) (x4 : Int32) (x5 : Int32) (s0 : Int32) (L : QH FA) (F : Nat) : xnG call 32 (F + 3) 38 [some (vR 39), some (vR 2), some (vI x2), some (vI x3), some (vI x4), some (vI x5)] [vI s0] L = xnG call 32 F 41 [some (vR 39), some (vR 2), some (vI x2), some (vI s0), some (vI x5), some (vI x5)] [] L := rfl
set_option maxRecDepth 100000 in
theorem bt_c6_32_38 (call : QC FA) (x2 : Int32) (x3 : Int32) (x4 : Int32) (x5 : Int32) (s0 : Int32) (L : QH FA) (F : Nat) : xnG call 32 (F + 2) 15 [some (vR 39), some (vR 2), some (vI x2), some (vI x3), some (vI x4), some (vI x5)] [vI s0, vR 40] L = xnG call 32 F 22 [some (vR 39), some (vR 2), some (vI x2), some (vI x3), some (vI x4), some (vI x5)] [vI 0, vI s0, vR 40] L := rfl
theorem vct_c6_32_6 (call : QC FA) (x2 : Int32) (x3 : Int32) (x4 : Int32) (x5 : Int32) (z : Nat → Int32) (f : Nat → FA) (res : Option PV × QH FA) (H : ((I x5 < 0 → ((¬ x2 = 0 → ((¬ x4 = (-1) → ((¬ x2 = 1 → (¬ (12 : Int32) = 0 ∧ res = (some (vI (x4 - x4 / 12 * 12)), LW W z f))) ∧ (x2 = 1 → (¬ (12 : Int32) = 0 ∧ res = (some (vI (x4 / 12)), LW W z f))))) ∧ (x4 = (-1) → res = (some (vI ((-1))), LW W z f)))) ∧ (x2 = 0 → res = (some (vI x3), LW W z f)))) ∧ (0 ≤ I x5 → (∃ (r1 : Int32) (z1 : Nat → Int32) (f1 : Nat → FA), call 6 [vR 2, vI x5] (LW W z f) = some (some (vI r1), LW W z1 f1) ∧ ((r1 = 0 → (∃ (r2 : Int32) (z2 : Nat → Int32) (f2 : Nat → FA), call 33 [vR 39, vI x5] (LW W z1 f1) = some (some (vI r2), LW W z2 f2) ∧ (pin x5 144 = true ∧ (pin x5 144 = true ∧ ((I ((upd (f2 40) (ix x5) (1 + r2)) (ix x5)) ≤ 0 → XC call (mP 32) 6 [some (vR 39), some (vR 2), some (vI x2), some (vI x3), some (vI x4), some (vI (x5 + (-1)))] [] (LW W z2 (uA f2 40 (upd (f2 40) (ix x5) (1 + r2)))) res) ∧ (0 < I ((upd (f2 40) (ix x5) (1 + r2)) (ix x5)) → (pin x5 144 = true ∧ ((I ((upd (f2 40) (ix x5) (1 + r2)) (ix x5)) < I x3 → XC call (mP 32) 6 [some (vR 39), some (vR 2), some (vI x2), some (vI x3), some (vI x4), some (vI (x5 + (-1)))] [] (LW W z2 (uA f2 40 (upd (f2 40) (ix x5) (1 + r2)))) res) ∧ (I x3 ≤ I ((upd (f2 40) (ix x5) (1 + r2)) (ix x5)) → (pin x5 144 = true ∧ XC call (mP 32) 6 [some (vR 39), some (vR 2), some (vI x2), some (vI ((upd (f2 40) (ix x5) (1 + r2)) (ix x5))), some (vI x5), some (vI (x5 + (-1)))] [] (LW W z2 (uA f2 40 (upd (f2 40) (ix x5) (1 + r2)))) res)))))))))) ∧ (¬ r1 = 0 → (pin x5 144 = true ∧ (pin x5 144 = true ∧ ((I ((upd (f1 40) (ix x5) 0) (ix x5)) ≤ 0 → XC call (mP 32) 6 [some (vR 39), some (vR 2), some (vI x2), some (vI x3), some (vI x4), some (vI (x5 + (-1)))] [] (LW W z1 (uA f1 40 (upd (f1 40) (ix x5) 0))) res) ∧ (0 < I ((upd (f1 40) (ix x5) 0) (ix x5)) → (pin x5 144 = true ∧ ((I ((upd (f1 40) (ix x5) 0) (ix x5)) < I x3 → XC call (mP 32) 6 [some (vR 39), some (vR 2), some (vI x2), some (vI x3), some (vI x4), some (vI (x5 + (-1)))] [] (LW W z1 (uA f1 40 (upd (f1 40) (ix x5) 0))) res) ∧ (I x3 ≤ I ((upd (f1 40) (ix x5) 0) (ix x5)) → (pin x5 144 = true ∧ XC call (mP 32) 6 [some (vR 39), some (vR 2), some (vI x2), some (vI ((upd (f1 40) (ix x5) 0) (ix x5))), some (vI x5), some (vI (x5 + (-1)))] [] (LW W z1 (uA f1 40 (upd (f1 40) (ix x5) 0))) res)))))))))))))) : XC call (mP 32) 6 [some (vR 39), some (vR 2), some (vI x2), some (vI x3), some (vI x4), some (vI x5)] [] (LW W z f) res := by
  refine xc_b (i' := 7) (ls' := [some (vR 39), some (vR 2), some (vI x2), some (vI x3), some (vI x4), some (vI x5)]) (st' := [vI x5]) (L' := LW W z f) 1 (bt_c6_32_1 call x2 x3 x4 x5 _) ?_
  refine xc_if (it := 43) (ie := 8) (ls' := [some (vR 39), some (vR 2), some (vI x2), some (vI x3), some (vI x4), some (vI x5)]) (st' := []) (bt_c6_32_2 call x5 _ _) (fun q1 => ?_) (fun q1 => ?_)
  · have H := H.1 (cI2t q1 rfl rfl)
    refine xc_b (i' := 44) (ls' := [some (vR 39), some (vR 2), some (vI x2), some (vI x3), some (vI x4), some (vI x5)]) (st' := [vI x2]) (L' := LW W z f) 1 (bt_c6_32_3 call x2 x3 x4 x5 _) ?_
    refine xc_if (it := 47) (ie := 45) (ls' := [some (vR 39), some (vR 2), some (vI x2), some (vI x3), some (vI x4), some (vI x5)]) (st' := []) (bt_c6_32_4 call x2 _ _) (fun q2 => ?_) (fun q2 => ?_)
    · have H := H.1 (cI1t q2)
      refine xc_b (i' := 49) (ls' := [some (vR 39), some (vR 2), some (vI x2), some (vI x3), some (vI x4), some (vI x5)]) (st' := [vI ((-1)), vI x4]) (L' := LW W z f) 2 (bt_c6_32_5 call x2 x3 x4 x5 _) ?_
      refine xc_if (it := 52) (ie := 50) (ls' := [some (vR 39), some (vR 2), some (vI x2), some (vI x3), some (vI x4), some (vI x5)]) (st' := []) (bt_c6_32_6 call x4 ((-1)) _ _) (fun q3 => ?_) (fun q3 => ?_)
      · have H := H.1 (cI1t q3)
        refine xc_b (i' := 54) (ls' := [some (vR 39), some (vR 2), some (vI x2), some (vI x3), some (vI x4), some (vI x5)]) (st' := [vI 1, vI x2]) (L' := LW W z f) 2 (bt_c6_32_7 call x2 x3 x4 x5 _) ?_
        refine xc_if (it := 59) (ie := 55) (ls' := [some (vR 39), some (vR 2), some (vI x2), some (vI x3), some (vI x4), some (vI x5)]) (st' := []) (bt_c6_32_8 call x2 1 _ _) (fun q4 => ?_) (fun q4 => ?_)
        · have H := H.1 (cI1t q4)
          refine xc_b (i' := 61) (ls' := [some (vR 39), some (vR 2), some (vI x2), some (vI x3), some (vI x4), some (vI x5)]) (st' := [vI 12, vI x4]) (L' := LW W z f) 2 (bt_c6_32_9 call x2 x3 x4 x5 _) ?_
          obtain ⟨g1, H⟩ := H
          refine xc_g (i' := 62) (ls' := [some (vR 39), some (vR 2), some (vI x2), some (vI x3), some (vI x4), some (vI x5)]) (st' := [vI (x4 - x4 / 12 * 12)]) (L' := LW W z f) (bt_c6_32_10 call x4 12 _ _) (cmp_ne.trans (decide_eq_true g1)) ?_
          subst H
          exact xc_ret (bt_c6_32_11 call _ _ _)
        · have H := H.2 (cI1f q4)
          refine xc_b (i' := 57) (ls' := [some (vR 39), some (vR 2), some (vI x2), some (vI x3), some (vI x4), some (vI x5)]) (st' := [vI 12, vI x4]) (L' := LW W z f) 2 (bt_c6_32_12 call x2 x3 x4 x5 _) ?_
          obtain ⟨g1, H⟩ := H
          refine xc_g (i' := 58) (ls' := [some (vR 39), some (vR 2), some (vI x2), some (vI x3), some (vI x4), some (vI x5)]) (st' := [vI (x4 / 12)]) (L' := LW W z f) (bt_c6_32_13 call x4 12 _ _) (cmp_ne.trans (decide_eq_true g1)) ?_
          refine xc_b (i' := 62) (ls' := [some (vR 39), some (vR 2), some (vI x2), some (vI x3), some (vI x4), some (vI x5)]) (st' := [vI (x4 / 12)]) (L' := LW W z f) 1 (bt_c6_32_14 call x2 x3 x4 x5 (x4 / 12) _) ?_
          subst H
          exact xc_ret (bt_c6_32_11 call _ _ _)
      · have H := H.2 (cI1f q3)
        refine xc_b (i' := 51) (ls' := [some (vR 39), some (vR 2), some (vI x2), some (vI x3), some (vI x4), some (vI x5)]) (st' := [vI ((-1))]) (L' := LW W z f) 1 (bt_c6_32_15 call x2 x3 x4 x5 _) ?_
        subst H
        exact xc_ret (bt_c6_32_16 call _ _ _)
    · have H := H.2 (cI1f q2)
      refine xc_b (i' := 46) (ls' := [some (vR 39), some (vR 2), some (vI x2), some (vI x3), some (vI x4), some (vI x5)]) (st' := [vI x3]) (L' := LW W z f) 1 (bt_c6_32_17 call x2 x3 x4 x5 _) ?_
      subst H
      exact xc_ret (bt_c6_32_18 call _ _ _)
  · have H := H.2 (cI2f q1 rfl rfl)
    refine xc_b (i' := 13) (ls' := [some (vR 39), some (vR 2), some (vI x2), some (vI x3), some (vI x4), some (vI x5)]) (st' := [vI x5, vR 2, vI x5, vR 40]) (L' := LW W z f) 5 (bt_c6_32_19 call x2 x3 x4 x5 z f) ?_
    obtain ⟨r1, z1, f1, hc, H⟩ := H
    refine xc_call (t := 14) (ls' := [some (vR 39), some (vR 2), some (vI x2), some (vI x3), some (vI x4), some (vI x5)]) (st' := [vI x5, vR 40]) (bt_c6_32_20 call x5 x5 _ z f) hc ?_
    show XC call (mP 32) 14 [some (vR 39), some (vR 2), some (vI x2), some (vI x3), some (vI x4), some (vI x5)] [vI r1, vI x5, vR 40] (LW W z1 f1) res
    refine xc_if (it := 17) (ie := 15) (ls' := [some (vR 39), some (vR 2), some (vI x2), some (vI x3), some (vI x4), some (vI x5)]) (st' := [vI x5, vR 40]) (bt_c6_32_21 call r1 x5 _ _) (fun q5 => ?_) (fun q5 => ?_)
    · have H := H.1 (cI0t q5)
      refine xc_b (i' := 20) (ls' := [some (vR 39), some (vR 2), some (vI x2), some (vI x3), some (vI x4), some (vI x5)]) (st' := [vI x5, vR 39, vI 1, vI x5, vR 40]) (L' := LW W z1 f1) 3 (bt_c6_32_22 call x2 x3 x4 x5 x5 _) ?_
      obtain ⟨r2, z2, f2, hc, H⟩ := H
      refine xc_call (t := 21) (ls' := [some (vR 39), some (vR 2), some (vI x2), some (vI x3), some (vI x4), some (vI x5)]) (st' := [vI 1, vI x5, vR 40]) (bt_c6_32_23 call x5 1 x5 _ z1 f1) hc ?_
      show XC call (mP 32) 21 [some (vR 39), some (vR 2), some (vI x2), some (vI x3), some (vI x4), some (vI x5)] [vI r2, vI 1, vI x5, vR 40] (LW W z2 f2) res
      refine xc_b (i' := 22) (ls' := [some (vR 39), some (vR 2), some (vI x2), some (vI x3), some (vI x4), some (vI x5)]) (st' := [vI (1 + r2), vI x5, vR 40]) (L' := LW W z2 f2) 1 (bt_c6_32_24 call x2 x3 x4 x5 r2 1 x5 _) ?_
      obtain ⟨g1, H⟩ := H
      refine xc_g (i' := 23) (ls' := [some (vR 39), some (vR 2), some (vI x2), some (vI x3), some (vI x4), some (vI x5)]) (st' := []) (L' := LW W z2 (uA f2 40 (upd (f2 40) (ix x5) (1 + r2)))) (bt_c6_32_25 call x5 (1 + r2) _ z2 f2) (pinG g1) ?_
      refine xc_b (i' := 26) (ls' := [some (vR 39), some (vR 2), some (vI x2), some (vI x3), some (vI x4), some (vI x5)]) (st' := [vI x5, vR 40]) (L' := LW W z2 (uA f2 40 (upd (f2 40) (ix x5) (1 + r2)))) 3 (bt_c6_32_26 call x2 x3 x4 x5 z2 (uA f2 40 (upd (f2 40) (ix x5) (1 + r2)))) ?_
      obtain ⟨g1, H⟩ := H
      refine xc_g (i' := 27) (ls' := [some (vR 39), some (vR 2), some (vI x2), some (vI x3), some (vI x4), some (vI x5)]) (st' := [vI ((upd (f2 40) (ix x5) (1 + r2)) (ix x5))]) (L' := LW W z2 (uA f2 40 (upd (f2 40) (ix x5) (1 + r2)))) (bt_c6_32_27 call x5 _ z2 (uA f2 40 (upd (f2 40) (ix x5) (1 + r2)))) (pinG g1) ?_
      refine xc_if (it := 41) (ie := 28) (ls' := [some (vR 39), some (vR 2), some (vI x2), some (vI x3), some (vI x4), some (vI x5)]) (st' := []) (bt_c6_32_28 call ((upd (f2 40) (ix x5) (1 + r2)) (ix x5)) _ _) (fun q6 => ?_) (fun q6 => ?_)
      · have H := H.1 (cI5t q6 rfl rfl)
        refine xc_b (i' := 42) (ls' := [some (vR 39), some (vR 2), some (vI x2), some (vI x3), some (vI x4), some (vI (x5 + (-1)))]) (st' := []) (L' := LW W z2 (uA f2 40 (upd (f2 40) (ix x5) (1 + r2)))) 1 (bt_c6_32_29 call x2 x3 x4 x5 _) ?_
        refine xc_b (i' := 6) (ls' := [some (vR 39), some (vR 2), some (vI x2), some (vI x3), some (vI x4), some (vI (x5 + (-1)))]) (st' := []) (L' := LW W z2 (uA f2 40 (upd (f2 40) (ix x5) (1 + r2)))) 1 (bt_c6_32_30 call x2 x3 x4 (x5 + (-1)) _) ?_
        exact H
      · have H := H.2 (cI5f q6 rfl rfl)
        refine xc_b (i' := 31) (ls' := [some (vR 39), some (vR 2), some (vI x2), some (vI x3), some (vI x4), some (vI x5)]) (st' := [vI x5, vR 40]) (L' := LW W z2 (uA f2 40 (upd (f2 40) (ix x5) (1 + r2)))) 3 (bt_c6_32_31 call x2 x3 x4 x5 z2 (uA f2 40 (upd (f2 40) (ix x5) (1 + r2)))) ?_
        obtain ⟨g1, H⟩ := H
        refine xc_g (i' := 32) (ls' := [some (vR 39), some (vR 2), some (vI x2), some (vI x3), some (vI x4), some (vI x5)]) (st' := [vI ((upd (f2 40) (ix x5) (1 + r2)) (ix x5))]) (L' := LW W z2 (uA f2 40 (upd (f2 40) (ix x5) (1 + r2)))) (bt_c6_32_32 call x5 _ z2 (uA f2 40 (upd (f2 40) (ix x5) (1 + r2)))) (pinG g1) ?_
        refine xc_b (i' := 33) (ls' := [some (vR 39), some (vR 2), some (vI x2), some (vI x3), some (vI x4), some (vI x5)]) (st' := [vI x3, vI ((upd (f2 40) (ix x5) (1 + r2)) (ix x5))]) (L' := LW W z2 (uA f2 40 (upd (f2 40) (ix x5) (1 + r2)))) 1 (bt_c6_32_33 call x2 x3 x4 x5 ((upd (f2 40) (ix x5) (1 + r2)) (ix x5)) _) ?_
        refine xc_if (it := 41) (ie := 34) (ls' := [some (vR 39), some (vR 2), some (vI x2), some (vI x3), some (vI x4), some (vI x5)]) (st' := []) (bt_c6_32_34 call ((upd (f2 40) (ix x5) (1 + r2)) (ix x5)) x3 _ _) (fun q7 => ?_) (fun q7 => ?_)
        · have H := H.1 (cI2t q7 rfl rfl)
          refine xc_b (i' := 42) (ls' := [some (vR 39), some (vR 2), some (vI x2), some (vI x3), some (vI x4), some (vI (x5 + (-1)))]) (st' := []) (L' := LW W z2 (uA f2 40 (upd (f2 40) (ix x5) (1 + r2)))) 1 (bt_c6_32_29 call x2 x3 x4 x5 _) ?_
          refine xc_b (i' := 6) (ls' := [some (vR 39), some (vR 2), some (vI x2), some (vI x3), some (vI x4), some (vI (x5 + (-1)))]) (st' := []) (L' := LW W z2 (uA f2 40 (upd (f2 40) (ix x5) (1 + r2)))) 1 (bt_c6_32_30 call x2 x3 x4 (x5 + (-1)) _) ?_
          exact H
        · have H := H.2 (cI2f q7 rfl rfl)
          refine xc_b (i' := 37) (ls' := [some (vR 39), some (vR 2), some (vI x2), some (vI x3), some (vI x4), some (vI x5)]) (st' := [vI x5, vR 40]) (L' := LW W z2 (uA f2 40 (upd (f2 40) (ix x5) (1 + r2)))) 3 (bt_c6_32_35 call x2 x3 x4 x5 z2 (uA f2 40 (upd (f2 40) (ix x5) (1 + r2)))) ?_
          obtain ⟨g1, H⟩ := H
          refine xc_g (i' := 38) (ls' := [some (vR 39), some (vR 2), some (vI x2), some (vI x3), some (vI x4), some (vI x5)]) (st' := [vI ((upd (f2 40) (ix x5) (1 + r2)) (ix x5))]) (L' := LW W z2 (uA f2 40 (upd (f2 40) (ix x5) (1 + r2)))) (bt_c6_32_36 call x5 _ z2 (uA f2 40 (upd (f2 40) (ix x5) (1 + r2)))) (pinG g1) ?_
          refine xc_b (i' := 41) (ls' := [some (vR 39), some (vR 2), some (vI x2), some (vI ((upd (f2 40) (ix x5) (1 + r2)) (ix x5))), some (vI x5), some (vI x5)]) (st' := []) (L' := LW W z2 (uA f2 40 (upd (f2 40) (ix x5) (1 + r2)))) 3 (bt_c6_32_37 call x2 x3 x4 x5 ((upd (f2 40) (ix x5) (1 + r2)) (ix x5)) _) ?_
          refine xc_b (i' := 42) (ls' := [some (vR 39), some (vR 2), some (vI x2), some (vI ((upd (f2 40) (ix x5) (1 + r2)) (ix x5))), some (vI x5), some (vI (x5 + (-1)))]) (st' := []) (L' := LW W z2 (uA f2 40 (upd (f2 40) (ix x5) (1 + r2)))) 1 (bt_c6_32_29 call x2 ((upd (f2 40) (ix x5) (1 + r2)) (ix x5)) x5 x5 _) ?_
          refine xc_b (i' := 6) (ls' := [some (vR 39), some (vR 2), some (vI x2), some (vI ((upd (f2 40) (ix x5) (1 + r2)) (ix x5))), some (vI x5), some (vI (x5 + (-1)))]) (st' := []) (L' := LW W z2 (uA f2 40 (upd (f2 40) (ix x5) (1 + r2)))) 1 (bt_c6_32_30 call x2 ((upd (f2 40) (ix x5) (1 + r2)) (ix x5)) x5 (x5 + (-1)) _) ?_
          exact H
    · have H := H.2 (cI0f q5)
      refine xc_b (i' := 22) (ls' := [some (vR 39), some (vR 2), some (vI x2), some (vI x3), some (vI x4), some (vI x5)]) (st' := [vI 0, vI x5, vR 40]) (L' := LW W z1 f1) 2 (bt_c6_32_38 call x2 x3 x4 x5 x5 _) ?_
      obtain ⟨g1, H⟩ := H
      refine xc_g (i' := 23) (ls' := [some (vR 39), some (vR 2), some (vI x2), some (vI x3), some (vI x4), some (vI x5)]) (st' := []) (L' := LW W z1 (uA f1 40 (upd (f1 40) (ix x5) 0))) (bt_c6_32_25 call x5 0 _ z1 f1) (pinG g1) ?_
      refine xc_b (i' := 26) (ls' := [some (vR 39), some (vR 2), some (vI x2), some (vI x3), some (vI x4), some (vI x5)]) (st' := [vI x5, vR 40]) (L' := LW W z1 (uA f1 40 (upd (f1 40) (ix x5) 0))) 3 (bt_c6_32_26 call x2 x3 x4 x5 z1 (uA f1 40 (upd (f1 40) (ix x5) 0))) ?_
      obtain ⟨g1, H⟩ := H
      refine xc_g (i' := 27) (ls' := [some (vR 39), some (vR 2), some (vI x2), some (vI x3), some (vI x4), some (vI x5)]) (st' := [vI ((upd (f1 40) (ix x5) 0) (ix x5))]) (L' := LW W z1 (uA f1 40 (upd (f1 40) (ix x5) 0))) (bt_c6_32_27 call x5 _ z1 (uA f1 40 (upd (f1 40) (ix x5) 0))) (pinG g1) ?_
      refine xc_if (it := 41) (ie := 28) (ls' := [some (vR 39), some (vR 2), some (vI x2), some (vI x3), some (vI x4), some (vI x5)]) (st' := []) (bt_c6_32_28 call ((upd (f1 40) (ix x5) 0) (ix x5)) _ _) (fun q8 => ?_) (fun q8 => ?_)
      · have H := H.1 (cI5t q8 rfl rfl)
        refine xc_b (i' := 42) (ls' := [some (vR 39), some (vR 2), some (vI x2), some (vI x3), some (vI x4), some (vI (x5 + (-1)))]) (st' := []) (L' := LW W z1 (uA f1 40 (upd (f1 40) (ix x5) 0))) 1 (bt_c6_32_29 call x2 x3 x4 x5 _) ?_
        refine xc_b (i' := 6) (ls' := [some (vR 39), some (vR 2), some (vI x2), some (vI x3), some (vI x4), some (vI (x5 + (-1)))]) (st' := []) (L' := LW W z1 (uA f1 40 (upd (f1 40) (ix x5) 0))) 1 (bt_c6_32_30 call x2 x3 x4 (x5 + (-1)) _) ?_
        exact H
      · have H := H.2 (cI5f q8 rfl rfl)
        refine xc_b (i' := 31) (ls' := [some (vR 39), some (vR 2), some (vI x2), some (vI x3), some (vI x4), some (vI x5)]) (st' := [vI x5, vR 40]) (L' := LW W z1 (uA f1 40 (upd (f1 40) (ix x5) 0))) 3 (bt_c6_32_31 call x2 x3 x4 x5 z1 (uA f1 40 (upd (f1 40) (ix x5) 0))) ?_
        obtain ⟨g1, H⟩ := H
        refine xc_g (i' := 32) (ls' := [some (vR 39), some (vR 2), some (vI x2), some (vI x3), some (vI x4), some (vI x5)]) (st' := [vI ((upd (f1 40) (ix x5) 0) (ix x5))]) (L' := LW W z1 (uA f1 40 (upd (f1 40) (ix x5) 0))) (bt_c6_32_32 call x5 _ z1 (uA f1 40 (upd (f1 40) (ix x5) 0))) (pinG g1) ?_
        refine xc_b (i' := 33) (ls' := [some (vR 39), some (vR 2), some (vI x2), some (vI x3), some (vI x4), some (vI x5)]) (st' := [vI x3, vI ((upd (f1 40) (ix x5) 0) (ix x5))]) (L' := LW W z1 (uA f1 40 (upd (f1 40) (ix x5) 0))) 1 (bt_c6_32_33 call x2 x3 x4 x5 ((upd (f1 40) (ix x5) 0) (ix x5)) _) ?_
        refine xc_if (it := 41) (ie := 34) (ls' := [some (vR 39), some (vR 2), some (vI x2), some (vI x3), some (vI x4), some (vI x5)]) (st' := []) (bt_c6_32_34 call ((upd (f1 40) (ix x5) 0) (ix x5)) x3 _ _) (fun q9 => ?_) (fun q9 => ?_)
        · have H := H.1 (cI2t q9 rfl rfl)
          refine xc_b (i' := 42) (ls' := [some (vR 39), some (vR 2), some (vI x2), some (vI x3), some (vI x4), some (vI (x5 + (-1)))]) (st' := []) (L' := LW W z1 (uA f1 40 (upd (f1 40) (ix x5) 0))) 1 (bt_c6_32_29 call x2 x3 x4 x5 _) ?_
          refine xc_b (i' := 6) (ls' := [some (vR 39), some (vR 2), some (vI x2), some (vI x3), some (vI x4), some (vI (x5 + (-1)))]) (st' := []) (L' := LW W z1 (uA f1 40 (upd (f1 40) (ix x5) 0))) 1 (bt_c6_32_30 call x2 x3 x4 (x5 + (-1)) _) ?_
          exact H
        · have H := H.2 (cI2f q9 rfl rfl)
          refine xc_b (i' := 37) (ls' := [some (vR 39), some (vR 2), some (vI x2), some (vI x3), some (vI x4), some (vI x5)]) (st' := [vI x5, vR 40]) (L' := LW W z1 (uA f1 40 (upd (f1 40) (ix x5) 0))) 3 (bt_c6_32_35 call x2 x3 x4 x5 z1 (uA f1 40 (upd (f1 40) (ix x5) 0))) ?_
          obtain ⟨g1, H⟩ := H
          refine xc_g (i' := 38) (ls' := [some (vR 39), some (vR 2), some (vI x2), some (vI x3), some (vI x4), some (vI x5)]) (st' := [vI ((upd (f1 40) (ix x5) 0) (ix x5))]) (L' := LW W z1 (uA f1 40 (upd (f1 40) (ix x5) 0))) (bt_c6_32_36 call x5 _ z1 (uA f1 40 (upd (f1 40) (ix x5) 0))) (pinG g1) ?_
          refine xc_b (i' := 41) (ls' := [some (vR 39), some (vR 2), some (vI x2), some (vI ((upd (f1 40) (ix x5) 0) (ix x5))), some (vI x5), some (vI x5)]) (st' := []) (L' := LW W z1 (uA f1 40 (upd (f1 40) (ix x5) 0))) 3 (bt_c6_32_37 call x2 x3 x4 x5 ((upd (f1 40) (ix x5) 0) (ix x5)) _) ?_
          refine xc_b (i' := 42) (ls' := [some (vR 39), some (vR 2), some (vI x2), some (vI ((upd (f1 40) (ix x5) 0) (ix x5))), some (vI x5), some (vI (x5 + (-1)))]) (st' := []) (L' := LW W z1 (uA f1 40 (upd (f1 40) (ix x5) 0))) 1 (bt_c6_32_29 call x2 ((upd (f1 40) (ix x5) 0) (ix x5)) x5 x5 _) ?_
          refine xc_b (i' := 6) (ls' := [some (vR 39), some (vR 2), some (vI x2), some (vI ((upd (f1 40) (ix x5) 0) (ix x5))), some (vI x5), some (vI (x5 + (-1)))]) (st' := []) (L' := LW W z1 (uA f1 40 (upd (f1 40) (ix x5) 0))) 1 (bt_c6_32_30 call x2 ((upd (f1 40) (ix x5) 0) (ix x5)) x5 (x5 + (-1)) _) ?_
          exact H
theorem wUnlike (d : Nat) {z : Nat → Int32} {f : Nat → FA} {g : FA} (hg : ∀ i, i < 144 → mkW (f 4 i) = g (211 + i)) : xcall (d + 3) 31 [vR 39, vR 2] (LW W z f) = some (some (vI (nfO g 12)), LW W z f) := by
  have inner : ∀ R, R < 12 → ∀ x res, (∀ o4 o5 o6, XC (xcall (d + 2)) (mP 31) 4 [some (vR 39), some (vR 2), some (vI (nfI g R x 6)), some (vI (nI (R + 1))), o4, o5, o6] [] (LW W z f) res) → ∀ t c, c + t = 6 → ∀ o5 o6, XC (xcall (d + 2)) (mP 31) 9 [some (vR 39), some (vR 2), some (vI (nfI g R x c)), some (vI (nI R)), some (vI (nI c)), o5, o6] [] (LW W z f) res := by
    intro R hR x res H t
    induction t with
    | zero =>
      intro c hc o5 o6
      obtain rfl : c = 6 := by omega
      refine vct_c9_31_9 _ _ _ _ _ _ _ _ _ ⟨fun _ => ?_, fun q => absurd q (by decide)⟩
      rw [nI_s R]
      exact H _ _ _
    | succ t ih =>
      intro c hc o5 o6
      have ic : I (nI c) = c := I_nI (by omega)
      have e1 : nI R * 12 + nI c = nI (12 * R + c) := by rw [show (12 : Int32) = nI 12 from rfl, mul_nI, nI_add, Nat.mul_comm]
      have e2 : nI R * 12 + 12 - 1 - nI c = nI (12 * R + 11 - c) := by
        rw [show (12 : Int32) = nI 12 from rfl, show (1 : Int32) = nI 1 from rfl, mul_nI, nI_add, nI_sub (by omega), nI_sub (by omega), show R * 12 + 12 - 1 - c = 12 * R + 11 - c by omega]
      have w1 := wWayn (W := W) d (z := z) (f := f) (i := 12 * R + c) (by omega)
      have w2 := wWayn (W := W) d (z := z) (f := f) (i := 12 * R + 11 - c) (by omega)
      rw [hg _ (by omega)] at w1 w2
      have h := ih (c + 1) (by omega)
      refine vct_c9_31_9 _ _ _ _ _ _ _ _ _ ⟨fun q => by omega, fun _ => ⟨_, _, _, by rw [e1]; exact w1, _, _, _, by rw [e2]; exact w2, fun q => ?_, fun q => ?_⟩⟩
      · rw [nI_s c]
        have e : nfI g R x (c + 1) = nfI g R x c + 1 := if_neg q
        rw [e] at h
        exact h _ _
      · rw [nI_s c, Int32.add_zero]
        have e : nfI g R x (c + 1) = nfI g R x c := if_pos q
        rw [e] at h
        exact h _ _
  have outer : ∀ t R, R + t = 12 → ∀ o4 o5 o6, XC (xcall (d + 2)) (mP 31) 4 [some (vR 39), some (vR 2), some (vI (nfO g R)), some (vI (nI R)), o4, o5, o6] [] (LW W z f) (some (vI (nfO g 12)), LW W z f) := by
    intro t
    induction t with
    | zero =>
      intro R hR o4 o5 o6
      obtain rfl : R = 12 := by omega
      exact vct_c4_31_4 _ _ _ _ _ _ _ _ _ ⟨fun _ => rfl, fun q => absurd q (by decide)⟩
    | succ t ih =>
      intro R hR o4 o5 o6
      exact vct_c4_31_4 _ _ _ _ _ _ _ _ _ ⟨fun q => by rw [I_nI (by omega)] at q; omega, fun _ => inner R (by omega) _ _ (fun o4 o5 o6 => ih (R + 1) (by omega) o4 o5 o6) 6 0 rfl _ _⟩
  exact xcall_i (mq31 (cu := [])).2.2 rfl (vct_31_0 (xcall (d + 2)) none none none none none z f _ (outer 12 0 rfl none none none))
theorem wBehind (d : Nat) {z : Nat → Int32} {f : Nat → FA} {i : Nat} (hi : i < 144) : xcall (d + 1) 33 [vR 39, vI (nI i)] (LW W z f) = some (some (vI (if i < 131 ∧ i % 12 < 11 then mn2 (f 40 (i + 1)) (mn2 (f 40 (i + 12)) (f 40 (i + 13))) else 0)), LW W z f) := by
  have ii : I (nI i) = i := I_nI (by omega)
  have e13 : nI i + 12 + 1 = nI (i + 13) := by rw [show (12 : Int32) = nI 12 from rfl, show (1 : Int32) = nI 1 from rfl, nI_add, nI_add]
  have e12 : nI i + 12 = nI (i + 12) := nI_add i 12
  have e1 : nI i + 1 = nI (i + 1) := nI_add i 1
  have i13 : I (nI i + 12 + 1) = i + 13 := by rw [e13]; exact I_nI (by omega)
  have er : nI i - nI i / 12 * 12 = nI (i % 12) := nrem (b := 12) rfl (by omega) (by decide) (by decide)
  have go : ∀ res, _ → xcall (d + 1) 33 [vR 39, vI (nI i)] (LW W z f) = some res := fun res H => xcall_i (mq33 (cu := [])).2.2 rfl (vct_33_0 (xcall d) (nI i) z f res H)
  by_cases c1 : i < 131
  · by_cases c2 : i % 12 < 11
    · rw [if_pos ⟨c1, c2⟩]
      refine go _ ⟨fun q => by omega, fun _ => ⟨fun q => by omega, fun _ => ⟨n12, fun _ => ?_, fun q => ?_⟩⟩⟩
      · rw [e13, e12, e1, ix_nI (by omega), ix_nI (by omega), ix_nI (by omega)]
        refine ⟨pin_nI (by omega) (by omega), pin_nI (by omega) (by omega), pin_nI (by omega) (by omega), fun q1 => ⟨fun q2 => ?_, fun q2 => ?_⟩, fun q1 => ⟨fun q2 => ?_, fun q2 => ?_⟩⟩
        · rw [← mn2_c (a := f 40 (i + 12)) (b := f 40 (i + 13)) (c := f 40 (i + 13)) (Or.inr rfl) (by omega) (by omega), ← mn2_c (a := f 40 (i + 1)) (b := f 40 (i + 13)) (c := f 40 (i + 13)) (Or.inr rfl) (by omega) (by omega)]
        · rw [← mn2_c (a := f 40 (i + 12)) (b := f 40 (i + 13)) (c := f 40 (i + 13)) (Or.inr rfl) (by omega) (by omega), ← mn2_c (a := f 40 (i + 1)) (b := f 40 (i + 13)) (c := f 40 (i + 1)) (Or.inl rfl) (by omega) (by omega)]
        · rw [← mn2_c (a := f 40 (i + 12)) (b := f 40 (i + 13)) (c := f 40 (i + 12)) (Or.inl rfl) (by omega) (by omega), ← mn2_c (a := f 40 (i + 1)) (b := f 40 (i + 12)) (c := f 40 (i + 12)) (Or.inr rfl) (by omega) (by omega)]
        · rw [← mn2_c (a := f 40 (i + 12)) (b := f 40 (i + 13)) (c := f 40 (i + 12)) (Or.inl rfl) (by omega) (by omega), ← mn2_c (a := f 40 (i + 1)) (b := f 40 (i + 12)) (c := f 40 (i + 1)) (Or.inl rfl) (by omega) (by omega)]
      · rw [er] at q
        have := nI_inj (a := i % 12) (b := 11) (by omega) (by omega) q
        omega
    · rw [if_neg (fun q => c2 q.2)]
      refine go _ ⟨fun q => by omega, fun _ => ⟨fun q => rfl, fun _ => ⟨n12, fun q => ?_, fun _ => rfl⟩⟩⟩
      rw [er] at q
      exact absurd (by rw [show i % 12 = 11 by omega]; rfl) q
  · rw [if_neg (fun q => c1 q.1)]
    refine go _ ⟨fun q => by omega, fun _ => ⟨fun q => rfl, fun q => ⟨n12, fun q2 => ?_, fun _ => rfl⟩⟩⟩
    rw [er] at q2
    exact absurd (by rw [show i % 12 = 11 by omega]; rfl) q2
theorem wBare (d : Nat) (x : Int32) {mk : Nat → Bool} : ∀ {z : Nat → Int32} {f : Nat → FA}, (∀ i, i < 144 → (mk i = true ↔ ¬ f 4 i = 0)) → ∃ f', (∀ k, k ≠ 40 → f' k = f k) ∧ xcall (d + 2) 32 [vR 39, vR 2, vI x] (LW W z f) = some (some (vI (if x = 0 then bqs mk 144 else if bqb mk 144 = -1 then -1 else if x = 1 then bqb mk 144 / 12 else bqb mk 144 - bqb mk 144 / 12 * 12)), LW W z f') := by
  intro z f hm
  have lp : ∀ t k, k + t = 144 → ∀ h : FA, (∀ j, 144 - k ≤ j → j < 144 → h j = bqg mk k j) → ∃ h', XC (xcall (d + 1)) (mP 32) 6 [some (vR 39), some (vR 2), some (vI x), some (vI (bqs mk k)), some (vI (bqb mk k)), some (vI (nI (144 - k) + (-1)))] [] (LW W z (uA f 40 h)) (some (vI (if x = 0 then bqs mk 144 else if bqb mk 144 = -1 then -1 else if x = 1 then bqb mk 144 / 12 else bqb mk 144 - bqb mk 144 / 12 * 12)), LW W z (uA f 40 h')) := by
    intro t
    induction t with
    | zero =>
      intro k hk h hh
      obtain rfl : k = 144 := by omega
      refine ⟨h, ?_⟩
      rw [c0]
      refine vct_c6_32_6 _ _ _ _ _ _ _ _ ⟨fun _ => ⟨fun q => ?_, fun q => ?_⟩, fun q => absurd q (by decide)⟩
      · rw [if_neg q]
        refine ⟨fun q2 => ?_, fun q2 => ?_⟩
        · rw [if_neg q2]
          exact ⟨fun q3 => ⟨n12, by rw [if_neg q3]⟩, fun q3 => ⟨n12, by rw [if_pos q3]⟩⟩
        · rw [if_pos q2]
      · rw [if_pos q]
    | succ t ih =>
      intro k hk h hh
      have i144 : 143 - k < 144 := by omega
      have ii : I (nI (143 - k)) = ((143 - k : Nat) : Int) := I_nI (by omega)
      have xi : ix (nI (143 - k)) = 143 - k := ix_nI (by omega)
      rw [cK (by omega)]
      have c1 := wMkdn (W := W) d (z := z) (f := uA f 40 h) i144
      rw [uA_ne (show (4 : Nat) ≠ 40 by decide)] at c1
      have c2 := wBehind (W := W) d (z := z) (f := uA f 40 h) i144
      rw [uA_self] at c2
      have best := bqb_ok mk k (by omega)
      -- the tail: the number that was put, and whether it is the best
      have tail : ∀ v, v = bqv mk (bqg mk k) (143 - k) → ∃ h', (I (upd h (143 - k) v (143 - k)) ≤ 0 → XC (xcall (d + 1)) (mP 32) 6 [some (vR 39), some (vR 2), some (vI x), some (vI (bqs mk k)), some (vI (bqb mk k)), some (vI (nI (143 - k) + (-1)))] [] (LW W z (uA f 40 (upd h (143 - k) v))) (some (vI (if x = 0 then bqs mk 144 else if bqb mk 144 = -1 then -1 else if x = 1 then bqb mk 144 / 12 else bqb mk 144 - bqb mk 144 / 12 * 12)), LW W z (uA f 40 h'))) ∧ (0 < I (upd h (143 - k) v (143 - k)) → (I (upd h (143 - k) v (143 - k)) < I (bqs mk k) → XC (xcall (d + 1)) (mP 32) 6 [some (vR 39), some (vR 2), some (vI x), some (vI (bqs mk k)), some (vI (bqb mk k)), some (vI (nI (143 - k) + (-1)))] [] (LW W z (uA f 40 (upd h (143 - k) v))) (some (vI (if x = 0 then bqs mk 144 else if bqb mk 144 = -1 then -1 else if x = 1 then bqb mk 144 / 12 else bqb mk 144 - bqb mk 144 / 12 * 12)), LW W z (uA f 40 h'))) ∧ (I (bqs mk k) ≤ I (upd h (143 - k) v (143 - k)) → XC (xcall (d + 1)) (mP 32) 6 [some (vR 39), some (vR 2), some (vI x), some (vI (upd h (143 - k) v (143 - k))), some (vI (nI (143 - k))), some (vI (nI (143 - k) + (-1)))] [] (LW W z (uA f 40 (upd h (143 - k) v))) (some (vI (if x = 0 then bqs mk 144 else if bqb mk 144 = -1 then -1 else if x = 1 then bqb mk 144 / 12 else bqb mk 144 - bqb mk 144 / 12 * 12)), LW W z (uA f 40 h')))) := by
        intro v hv
        obtain ⟨h', r⟩ := ih (k + 1) (by omega) (upd h (143 - k) v) (fun j j1 j2 => by
          show _ = upd (bqg mk k) (143 - k) (bqv mk (bqg mk k) (143 - k)) j
          by_cases q : j = 143 - k
          · rw [q, pk_us, pk_us, hv]
          · rw [pk_un q, pk_un q]
            exact hh j (by omega) j2)
        refine ⟨h', ?_⟩
        rw [pk_us, cS]
        have keep : ¬ (0 < I v ∧ (bqb mk k = -1 ∨ I (bqg mk k (ix (bqb mk k))) ≤ I v)) → bqb mk (k + 1) = bqb mk k ∧ bqs mk (k + 1) = bqs mk k := fun q => by
          have e : bqb mk (k + 1) = bqb mk k := by
            show (if 0 < I (bqv mk (bqg mk k) (143 - k)) ∧ (bqb mk k = -1 ∨ I (bqg mk k (ix (bqb mk k))) ≤ I (bqv mk (bqg mk k) (143 - k))) then nI (143 - k) else bqb mk k) = _
            rw [← hv, if_neg q]
          refine ⟨e, ?_⟩
          unfold bqs
          rw [e]
          rcases best with b | ⟨j, j1, j2, j3, j4⟩
          · rw [if_pos b, if_pos b]
          · rw [j3, if_neg (nI_n1x (by omega)), if_neg (nI_n1x (by omega)), ix_nI (by omega)]
            exact pk_un (by omega)
        have take : (0 < I v ∧ (bqb mk k = -1 ∨ I (bqg mk k (ix (bqb mk k))) ≤ I v)) → bqb mk (k + 1) = nI (143 - k) ∧ bqs mk (k + 1) = v := fun q => by
          have e : bqb mk (k + 1) = nI (143 - k) := by
            show (if 0 < I (bqv mk (bqg mk k) (143 - k)) ∧ (bqb mk k = -1 ∨ I (bqg mk k (ix (bqb mk k))) ≤ I (bqv mk (bqg mk k) (143 - k))) then nI (143 - k) else bqb mk k) = _
            rw [← hv, if_pos q]
          refine ⟨e, ?_⟩
          unfold bqs
          rw [e, if_neg (nI_n1x (by omega)), ix_nI (by omega)]
          show upd (bqg mk k) (143 - k) (bqv mk (bqg mk k) (143 - k)) (143 - k) = v
          rw [pk_us, hv]
        have sd : bqb mk k = -1 ∨ I (bqg mk k (ix (bqb mk k))) ≤ I v ↔ (bqb mk k = -1 ∨ I (bqs mk k) ≤ I v) := by
          unfold bqs
          by_cases q : bqb mk k = -1
          · exact ⟨fun _ => Or.inl q, fun _ => Or.inl q⟩
          · rw [if_neg q]
        refine ⟨fun q => ?_, fun q => ⟨fun q2 => ?_, fun q2 => ?_⟩⟩
        · obtain ⟨a, b⟩ := keep (fun w => by omega)
          rw [a, b] at r
          exact r
        · obtain ⟨a, b⟩ := keep (fun w => by
            rcases sd.mp w.2 with w2 | w2
            · have : bqs mk k = 0 := if_pos w2
              rw [this] at q2
              have : I (0 : Int32) = 0 := rfl
              omega
            · omega)
          rw [a, b] at r
          exact r
        · obtain ⟨a, b⟩ := take ⟨q, sd.mpr (Or.inr q2)⟩
          rw [a, b] at r
          exact r
      by_cases cm : f 4 (143 - k) = 0
      · have m0 : ¬ mk (143 - k) = true := fun q => (hm _ i144).mp q cm
        rw [mk1_f (fun q => q cm)] at c1
        have hv : 1 + (if 143 - k < 131 ∧ (143 - k) % 12 < 11 then mn2 (h (143 - k + 1)) (mn2 (h (143 - k + 12)) (h (143 - k + 13))) else 0) = bqv mk (bqg mk k) (143 - k) := by
          unfold bqv
          rw [if_neg m0]
          by_cases q : 143 - k < 131 ∧ (143 - k) % 12 < 11
          · rw [if_pos q, if_pos q, hh _ (by omega) (by omega), hh _ (by omega) (by omega), hh _ (by omega) (by omega)]
          · rw [if_neg q, if_neg q]
            rfl
        obtain ⟨h', t1, t2⟩ := tail _ hv
        refine ⟨h', vct_c6_32_6 _ _ _ _ _ _ _ _ ⟨fun q => by omega, fun _ => ⟨_, _, _, c1, fun _ => ⟨_, _, _, c2, ?_⟩, fun q => absurd rfl q⟩⟩⟩
        rw [uA_self, uA_uA, xi]
        exact ⟨pin_nI i144 (by omega), pin_nI i144 (by omega), t1, fun q => ⟨pin_nI i144 (by omega), (t2 q).1, fun q2 => ⟨pin_nI i144 (by omega), (t2 q).2 q2⟩⟩⟩
      · have m1 : mk (143 - k) = true := (hm _ i144).mpr cm
        rw [mk1_t cm] at c1
        have hv : (0 : Int32) = bqv mk (bqg mk k) (143 - k) := by
          unfold bqv
          rw [if_pos m1]
        obtain ⟨h', t1, t2⟩ := tail 0 hv
        refine ⟨h', vct_c6_32_6 _ _ _ _ _ _ _ _ ⟨fun q => by omega, fun _ => ⟨_, _, _, c1, fun q => absurd q (by decide), fun _ => ?_⟩⟩⟩
        rw [uA_self, uA_uA, xi]
        exact ⟨pin_nI i144 (by omega), pin_nI i144 (by omega), t1, fun q => ⟨pin_nI i144 (by omega), (t2 q).1, fun q2 => ⟨pin_nI i144 (by omega), (t2 q).2 q2⟩⟩⟩
  obtain ⟨h', r⟩ := lp 144 0 rfl (f 40) (fun j j1 j2 => by omega)
  rw [uA_id rfl] at r
  exact ⟨uA f 40 h', fun k hk => uA_ne hk, xcall_i (mq32 (cu := [])).2.2 rfl (vct_32_0 (xcall (d + 1)) x none none none z f _ r)⟩
end TWs
theorem rNotFace (d : Nat) {z : Nat → Int32} {f : Nat → FA} : mcall (d + 6) 60 [vR 0] (LR z f) = some (some (vI (nfO (f 1) 12)), LR z f) := by
  have inner : ∀ R, R < 12 → ∀ x res, (∀ o3, RC (mcall (d + 5)) (mP 60) 4 [some (vR 0), some (vI (nfI (f 1) R x 6)), some (vI (nI (R + 1))), o3] [] (LR z f) res) → ∀ t c, c + t = 6 → RC (mcall (d + 5)) (mP 60) 9 [some (vR 0), some (vI (nfI (f 1) R x c)), some (vI (nI R)), some (vI (nI c))] [] (LR z f) res := by
    intro R hR x res H t
    induction t with
    | zero =>
      intro c hc
      obtain rfl : c = 6 := by omega
      refine vcc9_60_9 d _ _ _ _ _ _ ⟨fun _ => ?_, fun q => absurd q (by decide)⟩
      rw [nI_s R]
      exact H _
    | succ t ih =>
      intro c hc
      have ic : I (nI c) = c := I_nI (by omega)
      have e1 : 211 + 12 * nI R + nI c = nI (211 + (12 * R + c)) := by
        rw [show (12 : Int32) = nI 12 from rfl, show (211 : Int32) = nI 211 from rfl, mul_nI, nI_add, nI_add, Nat.add_assoc]
      have e2 : 211 + 12 * nI R + 12 - 1 - nI c = nI (211 + (12 * R + 11 - c)) := by
        rw [show (12 : Int32) = nI 12 from rfl, show (211 : Int32) = nI 211 from rfl, show (1 : Int32) = nI 1 from rfl, mul_nI, nI_add, nI_add, nI_sub (by omega), nI_sub (by omega), show 211 + 12 * R + 12 - 1 - c = 211 + (12 * R + 11 - c) by omega]
      have h := ih (c + 1) (by omega)
      refine vcc9_60_9 d _ _ _ _ _ _ ⟨fun q => by omega, fun _ => ?_⟩
      rw [e1, e2, ix_nI (by omega), ix_nI (by omega)]
      refine ⟨pin_nI (by omega) (by omega), pin_nI (by omega) (by omega), fun q => ?_, fun q => ?_⟩
      · rw [nI_s c]
        have e : nfI (f 1) R x (c + 1) = nfI (f 1) R x c := if_pos q
        rw [e] at h
        exact h
      · rw [nI_s c]
        have e : nfI (f 1) R x (c + 1) = nfI (f 1) R x c + 1 := if_neg q
        rw [e] at h
        exact h
  have outer : ∀ t R, R + t = 12 → ∀ o3, RC (mcall (d + 5)) (mP 60) 4 [some (vR 0), some (vI (nfO (f 1) R)), some (vI (nI R)), o3] [] (LR z f) (some (vI (nfO (f 1) 12)), LR z f) := by
    intro t
    induction t with
    | zero =>
      intro R hR o3
      obtain rfl : R = 12 := by omega
      exact vcc4_60_4 d _ _ _ _ _ _ ⟨fun _ => rfl, fun q => absurd q (by decide)⟩
    | succ t ih =>
      intro R hR o3
      exact vcc4_60_4 d _ _ _ _ _ _ ⟨fun q => by rw [I_nI (by omega)] at q; omega, fun _ => inner R (by omega) _ _ (fun o3 => ih (R + 1) (by omega) o3) 6 0 rfl⟩
  exact mcall_i (mq60 (cu := [])).2.2 rfl (vc60_0 d none none none z f _ (outer 12 0 rfl none))
theorem rLesser (d : Nat) (a b : Int32) (z : Nat → Int32) (f : Nat → FA) : mcall (d + 6) 62 [vR 0, vI a, vI b] (LR z f) = some (some (vI (mn2 a b)), LR z f) := by
  unfold mn2
  by_cases q : I a < I b
  · rw [if_pos q]
    exact mcall_i (mq62 (cu := [])).2.2 rfl (vc62_0 (mcall (d + 5)) a b z f _ ⟨fun w => by omega, fun _ => rfl⟩)
  · rw [if_neg q]
    exact mcall_i (mq62 (cu := [])).2.2 rfl (vc62_0 (mcall (d + 5)) a b z f _ ⟨fun _ => rfl, fun w => by omega⟩)
/-- what the reference answers of the bare square -/
def bqr (mk : Nat → Bool) (x : Int32) : Int32 := if x = 7 then bqs mk 144 else if bqb mk 144 = -1 then -1 else if x = 8 then bqb mk 144 / 12 else bqb mk 144 - bqb mk 144 / 12 * 12
theorem rBare (d : Nat) (x : Int32) {mk : Nat → Bool} : ∀ {z : Nat → Int32} {f : Nat → FA}, (∀ i, i < 144 → (mk i = true ↔ 0 < I (f 1 (67 + i)))) → ∃ f', (∀ k, k ≠ 23 → f' k = f k) ∧ mcall (d + 7) 61 [vR 0, vI x] (LR z f) = some (some (vI (bqr mk x)), LR z f') := by
  intro z f hm
  have lp : ∀ t k, k + t = 144 → ∀ h : FA, (∀ j, 144 - k ≤ j → j < 144 → h j = bqg mk k j) → ∃ h', RC (mcall (d + 6)) (mP 61) 4 [some (vR 0), some (vI x), some (vI (bqb mk k)), some (vI (nI (144 - k) + (-1)))] [] (LR z (uA f 23 h)) (some (vI (bqr mk x)), LR z (uA f 23 h')) := by
    intro t
    induction t with
    | zero =>
      intro k hk h hh
      obtain rfl : k = 144 := by omega
      refine ⟨h, ?_⟩
      rw [c0]
      have best := bqb_ok mk 144 (Nat.le_refl _)
      refine vcc4_61_4 (d + 1) _ _ _ _ _ _ ⟨fun _ => ⟨fun q => ?_, fun q => ?_⟩, fun q => absurd q (by decide)⟩
      · unfold bqr
        rw [if_neg q]
        refine ⟨fun q2 => ?_, fun q2 => ?_⟩
        · rw [if_neg q2]
          exact ⟨fun q3 => ⟨n12, by rw [if_neg q3]⟩, fun q3 => ⟨n12, by rw [if_pos q3]⟩⟩
        · rw [if_pos q2]
      · unfold bqr bqs
        rw [if_pos q]
        refine ⟨fun q2 => ?_, fun q2 => by rw [if_pos q2]⟩
        rcases best with b | ⟨j, j1, j2, j3, j4⟩
        · exact absurd b q2
        · rw [if_neg q2, j3, ix_nI (by omega), uA_self]
          exact ⟨pin_nI j2 (by omega), by rw [hh j (by omega) j2]⟩
    | succ t ih =>
      intro k hk h hh
      have i144 : 143 - k < 144 := by omega
      have ii : I (nI (143 - k)) = ((143 - k : Nat) : Int) := I_nI (by omega)
      have xi : ix (nI (143 - k)) = 143 - k := ix_nI (by omega)
      rw [cK (by omega)]
      have pi : pin (nI (143 - k)) 144 = true := pin_nI i144 (by omega)
      have best := bqb_ok mk k (by omega)
      have c1 : ∀ g : FA, mcall (d + 6) 49 [vR 0, vI (nI (143 - k))] (LR z (uA f 23 g)) = some (some (vI (mk1 (0 < I (f 1 (67 + (143 - k)))))), LR z (uA f 23 g)) := fun g => by
        have q := mIs (d + 5) i144 (z := z) (f := uA f 23 g)
        rw [uA_ne (show (1 : Nat) ≠ 23 by decide)] at q
        exact q
      have tail : ∀ v, v = bqv mk (bqg mk k) (143 - k) → ∀ hN : FA, (∀ j, 144 - (k + 1) ≤ j → j < 144 → hN j = upd h (143 - k) v j) → ∃ h', (I (hN (143 - k)) ≤ 0 → RC (mcall (d + 6)) (mP 61) 4 [some (vR 0), some (vI x), some (vI (bqb mk k)), some (vI (nI (143 - k) + (-1)))] [] (LR z (uA f 23 hN)) (some (vI (bqr mk x)), LR z (uA f 23 h'))) ∧ (0 < I (hN (143 - k)) → ((bqb mk k = -1 → RC (mcall (d + 6)) (mP 61) 4 [some (vR 0), some (vI x), some (vI (nI (143 - k))), some (vI (nI (143 - k) + (-1)))] [] (LR z (uA f 23 hN)) (some (vI (bqr mk x)), LR z (uA f 23 h'))) ∧ (¬ bqb mk k = -1 → (pin (nI (143 - k)) 144 = true ∧ (pin (bqb mk k) 144 = true ∧ ((I (hN (143 - k)) < I (hN (ix (bqb mk k))) → RC (mcall (d + 6)) (mP 61) 4 [some (vR 0), some (vI x), some (vI (bqb mk k)), some (vI (nI (143 - k) + (-1)))] [] (LR z (uA f 23 hN)) (some (vI (bqr mk x)), LR z (uA f 23 h'))) ∧ (I (hN (ix (bqb mk k))) ≤ I (hN (143 - k)) → RC (mcall (d + 6)) (mP 61) 4 [some (vR 0), some (vI x), some (vI (nI (143 - k))), some (vI (nI (143 - k) + (-1)))] [] (LR z (uA f 23 hN)) (some (vI (bqr mk x)), LR z (uA f 23 h'))))))))) := by
        intro v hv hN hNe
        obtain ⟨h', r⟩ := ih (k + 1) (by omega) hN (fun j j1 j2 => by
          rw [hNe j j1 j2]
          show _ = upd (bqg mk k) (143 - k) (bqv mk (bqg mk k) (143 - k)) j
          by_cases q : j = 143 - k
          · rw [q, pk_us, pk_us, hv]
          · rw [pk_un q, pk_un q]
            exact hh j (by omega) j2)
        refine ⟨h', ?_⟩
        have eN : hN (143 - k) = v := by rw [hNe _ (by omega) (by omega), pk_us]
        rw [eN, cS]
        have bb : ∀ j, 144 - k ≤ j → j < 144 → hN j = bqg mk k j := fun j j1 j2 => by
          rw [hNe j (by omega) j2, pk_un (by omega)]
          exact hh j j1 j2
        have eb : bqb mk (k + 1) = if 0 < I v ∧ (bqb mk k = -1 ∨ I (bqg mk k (ix (bqb mk k))) ≤ I v) then nI (143 - k) else bqb mk k := by
          rw [hv]
          rfl
        refine ⟨fun q => ?_, fun q => ⟨fun q2 => ?_, fun q2 => ?_⟩⟩
        · rw [eb, if_neg (fun w => by omega)] at r
          exact r
        · rw [eb, if_pos ⟨q, Or.inl q2⟩] at r
          exact r
        · rcases best with b | ⟨j, j1, j2, j3, j4⟩
          · exact absurd b q2
          · have xj : ix (bqb mk k) = j := by rw [j3]; exact ix_nI (by omega)
            rw [xj, bb j j1 j2]
            rw [xj] at eb
            refine ⟨pi, by rw [j3]; exact pin_nI j2 (by omega), fun q3 => ?_, fun q3 => ?_⟩
            · rw [eb, if_neg (fun w => by rcases w.2 with w | w; exact q2 w; omega)] at r
              exact r
            · rw [eb, if_pos ⟨q, Or.inr q3⟩] at r
              exact r
      have er : nI (143 - k) - nI (143 - k) / 12 * 12 = nI ((143 - k) % 12) := nrem (b := 12) rfl (by omega) (by decide) (by decide)
      have ir : I (nI (143 - k) - nI (143 - k) / 12 * 12) = (((143 - k) % 12 : Nat) : Int) := by rw [er]; exact I_nI (by omega)
      have ee : ∀ j, 144 - (k + 1) ≤ j → j < 144 → upd h (143 - k) (bqv mk (bqg mk k) (143 - k)) j = upd h (143 - k) (bqv mk (bqg mk k) (143 - k)) j := fun _ _ _ => rfl
      by_cases cm : 0 < I (f 1 (67 + (143 - k)))
      · have m1 : mk (143 - k) = true := (hm _ i144).mpr cm
        have ev : bqv mk (bqg mk k) (143 - k) = 0 := if_pos m1
        obtain ⟨h', t1⟩ := tail _ ev.symm _ (fun j _ _ => rfl)
        have c1 : ∀ g : FA, mcall (d + 6) 49 [vR 0, vI (nI (143 - k))] (LR z (uA f 23 g)) = some (some (vI 1), LR z (uA f 23 g)) := fun g => by
          rw [c1 g, mk1_t cm]
        refine ⟨h', vcc4_61_4 (d + 1) _ _ _ _ _ _ ⟨fun q => by omega, fun _ => ⟨_, _, _, c1 h, fun q => absurd q (by decide), fun _ => ?_⟩⟩⟩
        rw [uA_self, uA_uA, xi]
        exact ⟨pi, fun _ => ⟨pi, t1⟩, fun _ => ⟨n12, fun _ => ⟨pi, t1⟩, fun _ => ⟨_, _, _, c1 _, fun _ => by rw [uA_self]; exact ⟨pi, t1⟩, fun q => absurd q (by decide)⟩⟩⟩
      · have m0 : ¬ mk (143 - k) = true := fun q => cm ((hm _ i144).mp q)
        have c1 : ∀ g : FA, mcall (d + 6) 49 [vR 0, vI (nI (143 - k))] (LR z (uA f 23 g)) = some (some (vI 0), LR z (uA f 23 g)) := fun g => by
          rw [c1 g, mk1_f cm]
        by_cases cc : 143 - k < 131 ∧ (143 - k) % 12 < 11
        · have ev : bqv mk (bqg mk k) (143 - k) = 1 + mn2 (h (143 - k + 1)) (mn2 (h (143 - k + 12)) (h (143 - k + 13))) := by
            unfold bqv
            rw [if_neg m0, if_pos cc, hh _ (by omega) (by omega), hh _ (by omega) (by omega), hh _ (by omega) (by omega)]
          have e1 : nI (143 - k) + 1 = nI (143 - k + 1) := nI_add _ 1
          have e12 : nI (143 - k) + 12 = nI (143 - k + 12) := nI_add _ 12
          have e13 : nI (143 - k + 12) + 1 = nI (143 - k + 13) := nI_add _ 1
          obtain ⟨h', t1⟩ := tail _ ev.symm (upd (upd h (143 - k) 1) (143 - k) (1 + mn2 (h (143 - k + 1)) (mn2 (h (143 - k + 12)) (h (143 - k + 13))))) (fun j _ _ => by
            by_cases q : j = 143 - k
            · rw [q, pk_us, pk_us]
            · rw [pk_un q, pk_un q, pk_un q])
          refine ⟨h', vcc4_61_4 (d + 1) _ _ _ _ _ _ ⟨fun q => by omega, fun _ => ⟨_, _, _, c1 h, fun _ => ?_, fun q => absurd rfl q⟩⟩⟩
          rw [uA_self, uA_uA, xi]
          refine ⟨pi, fun q => by omega, fun _ => ⟨n12, fun q => by omega, fun _ => ⟨_, _, _, c1 _, fun q => absurd rfl q, fun _ => ?_⟩⟩⟩
          rw [e12, e1, e13, ix_nI (by omega), ix_nI (by omega), ix_nI (by omega), uA_self, pk_un (by omega), pk_un (by omega), pk_un (by omega)]
          refine ⟨pin_nI (by omega) (by omega), pin_nI (by omega) (by omega), pin_nI (by omega) (by omega), _, _, _, rLesser d _ _ _ _, _, _, _, rLesser d _ _ _ _, ?_⟩
          rw [uA_self, uA_uA]
          exact ⟨pi, pi, t1⟩
        · have ev : bqv mk (bqg mk k) (143 - k) = 1 := by
            unfold bqv
            rw [if_neg m0, if_neg cc]
          obtain ⟨h', t1⟩ := tail _ ev.symm _ (fun j _ _ => rfl)
          refine ⟨h', vcc4_61_4 (d + 1) _ _ _ _ _ _ ⟨fun q => by omega, fun _ => ⟨_, _, _, c1 h, fun _ => ?_, fun q => absurd rfl q⟩⟩⟩
          rw [uA_self, uA_uA, xi]
          exact ⟨pi, fun _ => ⟨pi, t1⟩, fun q => ⟨n12, fun _ => ⟨pi, t1⟩, fun q2 => absurd (show 143 - k < 131 ∧ (143 - k) % 12 < 11 by omega) cc⟩⟩
  obtain ⟨h', r⟩ := lp 144 0 rfl (f 23) (fun j j1 j2 => by omega)
  rw [uA_id rfl] at r
  exact ⟨uA f 23 h', fun k hk => uA_ne hk, mcall_i (mq61 (cu := [])).2.2 rfl (vc61_0 (d + 1) x none none z f _ r)⟩
