/-! steps on both sides -/
section TWs
variable {W : TXW}
set_option maxRecDepth 100000 in
theorem bn_97_1 (call : QC FA) (x1 : Int32) (x2 : Int32) (x3 : Int32) (z : Nat → Int32) (f : Nat → FA) (F : Nat) : xnG call 97 (F + 2) 0 [some (vR 8), some (vI x1), some (vI x2), some (vI x3)] [] (LW W z f) = xnG call 97 F 2 [some (vR 8), some (vI x1), some (vI x2), some (vI x3)] [vR 5] (LW W z f) := rfl
set_option maxRecDepth 100000 in
theorem bn_97_2 (call : QC FA) (ls : List (Option PV)) (L : QH FA) (F : Nat) : xnG call 97 (F + 1) 2 ls [vR 5] L = xnG call 97 F 3 ls [] L := rfl
set_option maxRecDepth 100000 in
theorem bn_97_3 (call : QC FA) (x1 : Int32) (x2 : Int32) (x3 : Int32) (z : Nat → Int32) (f : Nat → FA) (F : Nat) : xnG call 97 (F + 12) 3 [some (vR 8), some (vI x1), some (vI x2), some (vI x3)] [] (LW W z f) = xnG call 97 F 15 [some (vR 8), some (vI x1), some (vI x2), some (vI x3)] [vI x3, vI x2, vI x1, vR 2, vI (z 29), vR 5, vR 2] (LW W z f) := rfl
set_option maxRecDepth 100000 in
theorem bn_97_4 (call : QC FA) (a0 : Int32) (a2 : Int32) (a3 : Int32) (a4 : Int32) (ls : List (Option PV)) (z : Nat → Int32) (f : Nat → FA) (F : Nat) : xnG call 97 (F + 1) 15 ls [vI a4, vI a3, vI a2, vR 2, vI a0, vR 5, vR 2] (LW W z f) = cbd (call 105 [vR 5, vI a0, vR 2, vI a2, vI a3, vI a4] (LW W z f)) (fun r L' => xnG call 97 F 16 ls (r.toList ++ [vR 2]) L') := pcY (ih := xnG call 97 F) (call := call) (a := 105) (b := 5) (v := 3) (t := 16) (x := 5) (ls := ls) (As := [vI a0, vR 2, vI a2, vI a3, vI a4]) (st' := [vR 2]) (L := LW W z f) rfl rfl rfl
set_option maxRecDepth 100000 in
theorem bn_97_5 (call : QC FA) (y : Int32) (ls : List (Option PV)) (z : Nat → Int32) (f : Nat → FA) (F : Nat) : xnG call 97 (F + 1) 16 ls [vI y, vR 2] (LW W z f) = xnG call 97 F 17 ls [] (LW W (uZ z 29 y) f) := rfl
set_option maxRecDepth 100000 in
theorem bn_97_6 (call : QC FA) (ls : List (Option PV)) (L : QH FA) (F : Nat) : xnG call 97 (F + 1) 17 ls [] L = some (none, L) := rfl
theorem vcn_97_0 (call : QC FA) (x1 : Int32) (x2 : Int32) (x3 : Int32) (z : Nat → Int32) (f : Nat → FA) (res : Option PV × QH FA) (H : (∃ (r1 : Int32) (z1 : Nat → Int32) (f1 : Nat → FA), call 105 [vR 5, vI (z 29), vR 2, vI x1, vI x2, vI x3] (LW W z f) = some (some (vI r1), LW W z1 f1) ∧ res = (none, LW W (uZ z1 29 r1) f1))) : XC call (mP 97) 0 [some (vR 8), some (vI x1), some (vI x2), some (vI x3)] [] (LW W z f) res := by
  refine xc_b (i' := 2) (ls' := [some (vR 8), some (vI x1), some (vI x2), some (vI x3)]) (st' := [vR 5]) (L' := LW W z f) 2 (bn_97_1 call x1 x2 x3 z f) ?_
  refine xc_b (i' := 3) (ls' := [some (vR 8), some (vI x1), some (vI x2), some (vI x3)]) (st' := []) (L' := LW W z f) 1 (bn_97_2 call _ _) ?_
  refine xc_b (i' := 15) (ls' := [some (vR 8), some (vI x1), some (vI x2), some (vI x3)]) (st' := [vI x3, vI x2, vI x1, vR 2, vI (z 29), vR 5, vR 2]) (L' := LW W z f) 12 (bn_97_3 call x1 x2 x3 z f) ?_
  obtain ⟨r1, z1, f1, hc, H⟩ := H
  refine xc_call (t := 16) (ls' := [some (vR 8), some (vI x1), some (vI x2), some (vI x3)]) (st' := [vR 2]) (bn_97_4 call (z 29) x1 x2 x3 _ z f) hc ?_
  show XC call (mP 97) 16 [some (vR 8), some (vI x1), some (vI x2), some (vI x3)] [vI r1, vR 2] (LW W z1 f1) res
  refine xc_b (i' := 17) (ls' := [some (vR 8), some (vI x1), some (vI x2), some (vI x3)]) (st' := []) (L' := LW W (uZ z1 29 r1) f1) 1 (bn_97_5 call r1 _ z1 f1) ?_
  subst H
  exact xc_ret (bn_97_6 call _ _)
set_option maxRecDepth 100000 in
theorem bn_101_1 (call : QC FA) (x1 : Int32) (x2 : Int32) (o3 : Option PV) (z : Nat → Int32) (f : Nat → FA) (F : Nat) : xnG call 101 (F + 3) 0 [some (vR 8), some (vI x1), some (vI x2), o3] [] (LW W z f) = xnG call 101 F 3 [some (vR 8), some (vI x1), some (vI x2), o3] [vI x1, vR 2] (LW W z f) := rfl
set_option maxRecDepth 100000 in
theorem bn_101_2 (call : QC FA) (a0 : Int32) (ls : List (Option PV)) (z : Nat → Int32) (f : Nat → FA) (F : Nat) : xnG call 101 (F + 1) 3 ls [vI a0, vR 2] (LW W z f) = cbd (call 6 [vR 2, vI a0] (LW W z f)) (fun r L' => xnG call 101 F 4 ls (r.toList ++ []) L') := pcY (ih := xnG call 101 F) (call := call) (a := 6) (b := 1) (v := 0) (t := 4) (x := 2) (ls := ls) (As := [vI a0]) (st' := []) (L := LW W z f) rfl rfl rfl
set_option maxRecDepth 100000 in
theorem bn_101_3 (call : QC FA) (x : Int32) (ls : List (Option PV)) (L : QH FA) (F : Nat) : xnG call 101 (F + 1) 4 ls [vI x] L = bif pcmp 0 x 0 then xnG call 101 F 19 ls [] L else xnG call 101 F 5 ls [] L := rfl
set_option maxRecDepth 100000 in
theorem bn_101_4 (call : QC FA) (ls : List (Option PV)) (L : QH FA) (F : Nat) : xnG call 101 (F + 1) 19 ls [] L = some (none, L) := rfl
set_option maxRecDepth 100000 in
theorem bn_101_5 (call : QC FA) (x1 : Int32) (x2 : Int32) (o3 : Option PV) (z : Nat → Int32) (f : Nat → FA) (F : Nat) : xnG call 101 (F + 3) 5 [some (vR 8), some (vI x1), some (vI x2), o3] [] (LW W z f) = xnG call 101 F 8 [some (vR 8), some (vI x1), some (vI x2), o3] [vI x1, vR 2] (LW W z f) := rfl
set_option maxRecDepth 100000 in
theorem bn_101_6 (call : QC FA) (a0 : Int32) (ls : List (Option PV)) (z : Nat → Int32) (f : Nat → FA) (F : Nat) : xnG call 101 (F + 1) 8 ls [vI a0, vR 2] (LW W z f) = cbd (call 11 [vR 2, vI a0] (LW W z f)) (fun r L' => xnG call 101 F 9 ls (r.toList ++ []) L') := pcY (ih := xnG call 101 F) (call := call) (a := 11) (b := 1) (v := 0) (t := 9) (x := 2) (ls := ls) (As := [vI a0]) (st' := []) (L := LW W z f) rfl rfl rfl
set_option maxRecDepth 100000 in
theorem bn_101_7 (call : QC FA) (x1 : Int32) (x2 : Int32) (o3 : Option PV) (s0 : Int32) (z : Nat → Int32) (f : Nat → FA) (F : Nat) : xnG call 101 (F + 4) 9 [some (vR 8), some (vI x1), some (vI x2), o3] [vI s0] (LW W z f) = xnG call 101 F 13 [some (vR 8), some (vI x1), some (vI x2), some (vI s0)] [vI x1, vR 2] (LW W z f) := rfl
set_option maxRecDepth 100000 in
theorem bn_101_8 (call : QC FA) (a0 : Int32) (ls : List (Option PV)) (z : Nat → Int32) (f : Nat → FA) (F : Nat) : xnG call 101 (F + 1) 13 ls [vI a0, vR 2] (LW W z f) = cbd (call 89 [vR 2, vI a0] (LW W z f)) (fun r L' => xnG call 101 F 14 ls (r.toList ++ []) L') := pcY (ih := xnG call 101 F) (call := call) (a := 89) (b := 1) (v := 0) (t := 14) (x := 2) (ls := ls) (As := [vI a0]) (st' := []) (L := LW W z f) rfl rfl rfl
set_option maxRecDepth 100000 in
theorem bn_101_9 (call : QC FA) (x1 : Int32) (x2 : Int32) (x3 : Int32) (L : QH FA) (F : Nat) : xnG call 101 (F + 4) 14 [some (vR 8), some (vI x1), some (vI x2), some (vI x3)] [] L = xnG call 101 F 18 [some (vR 8), some (vI x1), some (vI x2), some (vI x3)] [vI x1, vI x3, vI x2, vR 8] L := rfl
set_option maxRecDepth 100000 in
theorem bn_101_10 (call : QC FA) (a0 : Int32) (a1 : Int32) (a2 : Int32) (ls : List (Option PV)) (z : Nat → Int32) (f : Nat → FA) (F : Nat) : xnG call 101 (F + 1) 18 ls [vI a2, vI a1, vI a0, vR 8] (LW W z f) = cbd (call 97 [vR 8, vI a0, vI a1, vI a2] (LW W z f)) (fun r L' => xnG call 101 F 19 ls (r.toList ++ []) L') := pcY (ih := xnG call 101 F) (call := call) (a := 97) (b := 3) (v := 1) (t := 19) (x := 8) (ls := ls) (As := [vI a0, vI a1, vI a2]) (st' := []) (L := LW W z f) rfl rfl rfl
theorem vcn_101_0 (call : QC FA) (x1 : Int32) (x2 : Int32) (o3 : Option PV) (z : Nat → Int32) (f : Nat → FA) (res : Option PV × QH FA) (H : (∃ (r1 : Int32) (z1 : Nat → Int32) (f1 : Nat → FA), call 6 [vR 2, vI x1] (LW W z f) = some (some (vI r1), LW W z1 f1) ∧ ((r1 = 0 → res = (none, LW W z1 f1)) ∧ (¬ r1 = 0 → (∃ (r2 : Int32) (z2 : Nat → Int32) (f2 : Nat → FA), call 11 [vR 2, vI x1] (LW W z1 f1) = some (some (vI r2), LW W z2 f2) ∧ (∃ (z3 : Nat → Int32) (f3 : Nat → FA), call 89 [vR 2, vI x1] (LW W z2 f2) = some (none, LW W z3 f3) ∧ (∃ (z4 : Nat → Int32) (f4 : Nat → FA), call 97 [vR 8, vI x2, vI r2, vI x1] (LW W z3 f3) = some (none, LW W z4 f4) ∧ res = (none, LW W z4 f4)))))))) : XC call (mP 101) 0 [some (vR 8), some (vI x1), some (vI x2), o3] [] (LW W z f) res := by
  refine xc_b (i' := 3) (ls' := [some (vR 8), some (vI x1), some (vI x2), o3]) (st' := [vI x1, vR 2]) (L' := LW W z f) 3 (bn_101_1 call x1 x2 o3 z f) ?_
  obtain ⟨r1, z1, f1, hc, H⟩ := H
  refine xc_call (t := 4) (ls' := [some (vR 8), some (vI x1), some (vI x2), o3]) (st' := []) (bn_101_2 call x1 _ z f) hc ?_
  show XC call (mP 101) 4 [some (vR 8), some (vI x1), some (vI x2), o3] [vI r1] (LW W z1 f1) res
  refine xc_if (it := 19) (ie := 5) (ls' := [some (vR 8), some (vI x1), some (vI x2), o3]) (st' := []) (bn_101_3 call r1 _ _) (fun q1 => ?_) (fun q1 => ?_)
  · have H := H.1 (cI0t q1)
    subst H
    exact xc_ret (bn_101_4 call _ _)
  · have H := H.2 (cI0f q1)
    refine xc_b (i' := 8) (ls' := [some (vR 8), some (vI x1), some (vI x2), o3]) (st' := [vI x1, vR 2]) (L' := LW W z1 f1) 3 (bn_101_5 call x1 x2 o3 z1 f1) ?_
    obtain ⟨r2, z2, f2, hc, H⟩ := H
    refine xc_call (t := 9) (ls' := [some (vR 8), some (vI x1), some (vI x2), o3]) (st' := []) (bn_101_6 call x1 _ z1 f1) hc ?_
    show XC call (mP 101) 9 [some (vR 8), some (vI x1), some (vI x2), o3] [vI r2] (LW W z2 f2) res
    refine xc_b (i' := 13) (ls' := [some (vR 8), some (vI x1), some (vI x2), some (vI r2)]) (st' := [vI x1, vR 2]) (L' := LW W z2 f2) 4 (bn_101_7 call x1 x2 o3 r2 z2 f2) ?_
    obtain ⟨z3, f3, hc, H⟩ := H
    refine xc_call (t := 14) (ls' := [some (vR 8), some (vI x1), some (vI x2), some (vI r2)]) (st' := []) (bn_101_8 call x1 _ z2 f2) hc ?_
    show XC call (mP 101) 14 [some (vR 8), some (vI x1), some (vI x2), some (vI r2)] [] (LW W z3 f3) res
    refine xc_b (i' := 18) (ls' := [some (vR 8), some (vI x1), some (vI x2), some (vI r2)]) (st' := [vI x1, vI r2, vI x2, vR 8]) (L' := LW W z3 f3) 4 (bn_101_9 call x1 x2 r2 _) ?_
    obtain ⟨z4, f4, hc, H⟩ := H
    refine xc_call (t := 19) (ls' := [some (vR 8), some (vI x1), some (vI x2), some (vI r2)]) (st' := []) (bn_101_10 call x2 r2 x1 _ z3 f3) hc ?_
    show XC call (mP 101) 19 [some (vR 8), some (vI x1), some (vI x2), some (vI r2)] [] (LW W z4 f4) res
    subst H
    exact xc_ret (bn_101_4 call _ _)
set_option maxRecDepth 100000 in
theorem bn_93_1 (call : QC FA) (x1 : Int32) (z : Nat → Int32) (f : Nat → FA) (F : Nat) : xnG call 93 (F + 2) 0 [some (vR 8), some (vI x1)] [] (LW W z f) = xnG call 93 F 2 [some (vR 8), some (vI x1)] [vR 5] (LW W z f) := rfl
set_option maxRecDepth 100000 in
theorem bn_93_2 (call : QC FA) (ls : List (Option PV)) (L : QH FA) (F : Nat) : xnG call 93 (F + 1) 2 ls [vR 5] L = xnG call 93 F 10 ls [] L := rfl
set_option maxRecDepth 100000 in
theorem bn_93_3 (call : QC FA) (x1 : Int32) (L : QH FA) (F : Nat) : xnG call 93 (F + 1) 10 [some (vR 8), some (vI x1)] [] L = xnG call 93 F 11 [some (vR 8), some (vI x1)] [vI x1] L := rfl
set_option maxRecDepth 100000 in
theorem bn_93_4 (call : QC FA) (x : Int32) (ls : List (Option PV)) (L : QH FA) (F : Nat) : xnG call 93 (F + 1) 11 ls [vI x] L = bif pcmp 5 x 0 then xnG call 93 F 19 ls [] L else xnG call 93 F 12 ls [] L := rfl
set_option maxRecDepth 100000 in
theorem bn_93_5 (call : QC FA) (x1 : Int32) (L : QH FA) (F : Nat) : xnG call 93 (F + 1) 19 [some (vR 8), some (vI x1)] [] L = xnG call 93 F 20 [some (vR 8), some (vI x1)] [vI 0] L := rfl
set_option maxRecDepth 100000 in
theorem bn_93_6 (call : QC FA) (ls : List (Option PV)) (L : QH FA) (F : Nat) : xnG call 93 (F + 1) 20 ls [vI 0] L = some (some (vI 0), L) := rfl
set_option maxRecDepth 100000 in
theorem bn_93_7 (call : QC FA) (x1 : Int32) (z : Nat → Int32) (f : Nat → FA) (F : Nat) : xnG call 93 (F + 2) 12 [some (vR 8), some (vI x1)] [] (LW W z f) = xnG call 93 F 14 [some (vR 8), some (vI x1)] [vR 2] (LW W z f) := rfl
set_option maxRecDepth 100000 in
theorem bn_93_8 (call : QC FA) (ls : List (Option PV)) (z : Nat → Int32) (f : Nat → FA) (F : Nat) : xnG call 93 (F + 1) 14 ls [vR 2] (LW W z f) = cbd (call 83 [vR 2] (LW W z f)) (fun r L' => xnG call 93 F 15 ls (r.toList ++ []) L') := pcY (ih := xnG call 93 F) (call := call) (a := 83) (b := 0) (v := 0) (t := 15) (x := 2) (ls := ls) (As := []) (st' := []) (L := LW W z f) rfl rfl rfl
set_option maxRecDepth 100000 in
theorem bn_93_9 (call : QC FA) (x1 : Int32) (s0 : Int32) (L : QH FA) (F : Nat) : xnG call 93 (F + 1) 15 [some (vR 8), some (vI x1)] [vI s0] L = xnG call 93 F 16 [some (vR 8), some (vI x1)] [vI x1, vI s0] L := rfl
set_option maxRecDepth 100000 in
theorem bn_93_10 (call : QC FA) (x y : Int32) (ls : List (Option PV)) (L : QH FA) (F : Nat) : xnG call 93 (F + 1) 16 ls [vI y, vI x] L = bif pcmp 3 x y then xnG call 93 F 19 ls [] L else xnG call 93 F 17 ls [] L := rfl
set_option maxRecDepth 100000 in
theorem bn_93_11 (call : QC FA) (x1 : Int32) (L : QH FA) (F : Nat) : xnG call 93 (F + 2) 17 [some (vR 8), some (vI x1)] [] L = xnG call 93 F 20 [some (vR 8), some (vI x1)] [vI 1] L := rfl
set_option maxRecDepth 100000 in
theorem bn_93_12 (call : QC FA) (ls : List (Option PV)) (L : QH FA) (F : Nat) : xnG call 93 (F + 1) 20 ls [vI 1] L = some (some (vI 1), L) := rfl
theorem vcn_93_0 (call : QC FA) (x1 : Int32) (z : Nat → Int32) (f : Nat → FA) (res : Option PV × QH FA) (H : ((I x1 ≤ 0 → res = (some (vI 0), LW W z f)) ∧ (0 < I x1 → (∃ (r1 : Int32) (z1 : Nat → Int32) (f1 : Nat → FA), call 83 [vR 2] (LW W z f) = some (some (vI r1), LW W z1 f1) ∧ ((I x1 ≤ I r1 → res = (some (vI 0), LW W z1 f1)) ∧ (I r1 < I x1 → res = (some (vI 1), LW W z1 f1))))))) : XC call (mP 93) 0 [some (vR 8), some (vI x1)] [] (LW W z f) res := by
  refine xc_b (i' := 2) (ls' := [some (vR 8), some (vI x1)]) (st' := [vR 5]) (L' := LW W z f) 2 (bn_93_1 call x1 z f) ?_
  refine xc_b (i' := 10) (ls' := [some (vR 8), some (vI x1)]) (st' := []) (L' := LW W z f) 1 (bn_93_2 call _ _) ?_
  refine xc_b (i' := 11) (ls' := [some (vR 8), some (vI x1)]) (st' := [vI x1]) (L' := LW W z f) 1 (bn_93_3 call x1 _) ?_
  refine xc_if (it := 19) (ie := 12) (ls' := [some (vR 8), some (vI x1)]) (st' := []) (bn_93_4 call x1 _ _) (fun q1 => ?_) (fun q1 => ?_)
  · have H := H.1 (cI5t q1 rfl rfl)
    refine xc_b (i' := 20) (ls' := [some (vR 8), some (vI x1)]) (st' := [vI 0]) (L' := LW W z f) 1 (bn_93_5 call x1 _) ?_
    subst H
    exact xc_ret (bn_93_6 call _ _)
  · have H := H.2 (cI5f q1 rfl rfl)
    refine xc_b (i' := 14) (ls' := [some (vR 8), some (vI x1)]) (st' := [vR 2]) (L' := LW W z f) 2 (bn_93_7 call x1 z f) ?_
    obtain ⟨r1, z1, f1, hc, H⟩ := H
    refine xc_call (t := 15) (ls' := [some (vR 8), some (vI x1)]) (st' := []) (bn_93_8 call _ z f) hc ?_
    show XC call (mP 93) 15 [some (vR 8), some (vI x1)] [vI r1] (LW W z1 f1) res
    refine xc_b (i' := 16) (ls' := [some (vR 8), some (vI x1)]) (st' := [vI x1, vI r1]) (L' := LW W z1 f1) 1 (bn_93_9 call x1 r1 _) ?_
    refine xc_if (it := 19) (ie := 17) (ls' := [some (vR 8), some (vI x1)]) (st' := []) (bn_93_10 call r1 x1 _ _) (fun q2 => ?_) (fun q2 => ?_)
    · have H := H.1 (cI3t q2 rfl rfl)
      refine xc_b (i' := 20) (ls' := [some (vR 8), some (vI x1)]) (st' := [vI 0]) (L' := LW W z1 f1) 1 (bn_93_5 call x1 _) ?_
      subst H
      exact xc_ret (bn_93_6 call _ _)
    · have H := H.2 (cI3f q2 rfl rfl)
      refine xc_b (i' := 20) (ls' := [some (vR 8), some (vI x1)]) (st' := [vI 1]) (L' := LW W z1 f1) 2 (bn_93_11 call x1 _) ?_
      subst H
      exact xc_ret (bn_93_12 call _ _)
set_option maxRecDepth 100000 in
theorem bn_105_1 (call : QC FA) (x1 : Int32) (x3 : Int32) (x4 : Int32) (x5 : Int32) (o6 : Option PV) (L : QH FA) (F : Nat) : xnG call 105 (F + 1) 0 [some (vR 5), some (vI x1), some (vR 2), some (vI x3), some (vI x4), some (vI x5), o6] [] L = xnG call 105 F 1 [some (vR 5), some (vI x1), some (vR 2), some (vI x3), some (vI x4), some (vI x5), o6] [vI x1] L := rfl
set_option maxRecDepth 100000 in
theorem bn_105_2 (call : QC FA) (x : Int32) (ls : List (Option PV)) (L : QH FA) (F : Nat) : xnG call 105 (F + 1) 1 ls [vI x] L = bif pcmp 2 x 0 then xnG call 105 F 5 ls [] L else xnG call 105 F 2 ls [] L := rfl
set_option maxRecDepth 100000 in
theorem bn_105_3 (call : QC FA) (x1 : Int32) (x3 : Int32) (x4 : Int32) (x5 : Int32) (o6 : Option PV) (L : QH FA) (F : Nat) : xnG call 105 (F + 1) 5 [some (vR 5), some (vI x1), some (vR 2), some (vI x3), some (vI x4), some (vI x5), o6] [] L = xnG call 105 F 6 [some (vR 5), some (vI x1), some (vR 2), some (vI x3), some (vI x4), some (vI x5), o6] [vI x1] L := rfl
set_option maxRecDepth 100000 in
theorem bn_105_4 (call : QC FA) (x : Int32) (ls : List (Option PV)) (L : QH FA) (F : Nat) : xnG call 105 (F + 1) 6 ls [vI x] L = some (some (vI x), L) := rfl
set_option maxRecDepth 100000 in
theorem bn_105_5 (call : QC FA) (x1 : Int32) (x3 : Int32) (x4 : Int32) (x5 : Int32) (o6 : Option PV) (L : QH FA) (F : Nat) : xnG call 105 (F + 2) 2 [some (vR 5), some (vI x1), some (vR 2), some (vI x3), some (vI x4), some (vI x5), o6] [] L = xnG call 105 F 4 [some (vR 5), some (vI x1), some (vR 2), some (vI x3), some (vI x4), some (vI x5), o6] [vI 150, vI x1] L := rfl
set_option maxRecDepth 100000 in
theorem bn_105_6 (call : QC FA) (x y : Int32) (ls : List (Option PV)) (L : QH FA) (F : Nat) : xnG call 105 (F + 1) 4 ls [vI y, vI x] L = bif pcmp 2 x y then xnG call 105 F 7 ls [] L else xnG call 105 F 5 ls [] L := rfl
set_option maxRecDepth 100000 in
theorem bn_105_7 (call : QC FA) (x1 : Int32) (x3 : Int32) (x4 : Int32) (x5 : Int32) (o6 : Option PV) (z : Nat → Int32) (f : Nat → FA) (F : Nat) : xnG call 105 (F + 9) 7 [some (vR 5), some (vI x1), some (vR 2), some (vI x3), some (vI x4), some (vI x5), o6] [] (LW W z f) = xnG call 105 F 16 [some (vR 5), some (vI x1), some (vR 2), some (vI x3), some (vI x4), some (vI x5), some (vI (x1 * 5))] [vI (z 25), vI (x1 * 5), vR 6] (LW W z f) := rfl
set_option maxRecDepth 100000 in
theorem bn_105_8 (call : QC FA) (x y : Int32) (ls : List (Option PV)) (z : Nat → Int32) (f : Nat → FA) (F : Nat) : xnG call 105 (F + 1) 16 ls [vI y, vI x, vR 6] (LW W z f) = bif (Nat.beq 0 0 && pin x 750) then xnG call 105 F 17 ls [] (LW W z (uA f 6 (upd (f 6) (ix x) y))) else none := rfl
set_option maxRecDepth 100000 in
theorem bn_105_9 (call : QC FA) (x1 : Int32) (x3 : Int32) (x4 : Int32) (x5 : Int32) (x6 : Int32) (z : Nat → Int32) (f : Nat → FA) (F : Nat) : xnG call 105 (F + 7) 17 [some (vR 5), some (vI x1), some (vR 2), some (vI x3), some (vI x4), some (vI x5), some (vI x6)] [] (LW W z f) = xnG call 105 F 24 [some (vR 5), some (vI x1), some (vR 2), some (vI x3), some (vI x4), some (vI x5), some (vI x6)] [vI (z 24), vI (x6 + 1), vR 6] (LW W z f) := rfl
set_option maxRecDepth 100000 in
theorem bn_105_10 (call : QC FA) (x y : Int32) (ls : List (Option PV)) (z : Nat → Int32) (f : Nat → FA) (F : Nat) : xnG call 105 (F + 1) 24 ls [vI y, vI x, vR 6] (LW W z f) = bif (Nat.beq 0 0 && pin x 750) then xnG call 105 F 25 ls [] (LW W z (uA f 6 (upd (f 6) (ix x) y))) else none := rfl
set_option maxRecDepth 100000 in
theorem bn_105_11 (call : QC FA) (x1 : Int32) (x3 : Int32) (x4 : Int32) (x5 : Int32) (x6 : Int32) (z : Nat → Int32) (f : Nat → FA) (F : Nat) : xnG call 105 (F + 6) 25 [some (vR 5), some (vI x1), some (vR 2), some (vI x3), some (vI x4), some (vI x5), some (vI x6)] [] (LW W z f) = xnG call 105 F 31 [some (vR 5), some (vI x1), some (vR 2), some (vI x3), some (vI x4), some (vI x5), some (vI x6)] [vI x3, vI (x6 + 2), vR 6] (LW W z f) := rfl
set_option maxRecDepth 100000 in
theorem bn_105_12 (call : QC FA) (x y : Int32) (ls : List (Option PV)) (z : Nat → Int32) (f : Nat → FA) (F : Nat) : xnG call 105 (F + 1) 31 ls [vI y, vI x, vR 6] (LW W z f) = bif (Nat.beq 0 0 && pin x 750) then xnG call 105 F 32 ls [] (LW W z (uA f 6 (upd (f 6) (ix x) y))) else none := rfl
set_option maxRecDepth 100000 in
theorem bn_105_13 (call : QC FA) (x1 : Int32) (x3 : Int32) (x4 : Int32) (x5 : Int32) (x6 : Int32) (z : Nat → Int32) (f : Nat → FA) (F : Nat) : xnG call 105 (F + 6) 32 [some (vR 5), some (vI x1), some (vR 2), some (vI x3), some (vI x4), some (vI x5), some (vI x6)] [] (LW W z f) = xnG call 105 F 38 [some (vR 5), some (vI x1), some (vR 2), some (vI x3), some (vI x4), some (vI x5), some (vI x6)] [vI x4, vI (x6 + 3), vR 6] (LW W z f) := rfl
set_option maxRecDepth 100000 in
theorem bn_105_14 (call : QC FA) (x y : Int32) (ls : List (Option PV)) (z : Nat → Int32) (f : Nat → FA) (F : Nat) : xnG call 105 (F + 1) 38 ls [vI y, vI x, vR 6] (LW W z f) = bif (Nat.beq 0 0 && pin x 750) then xnG call 105 F 39 ls [] (LW W z (uA f 6 (upd (f 6) (ix x) y))) else none := rfl
set_option maxRecDepth 100000 in
theorem bn_105_15 (call : QC FA) (x1 : Int32) (x3 : Int32) (x4 : Int32) (x5 : Int32) (x6 : Int32) (z : Nat → Int32) (f : Nat → FA) (F : Nat) : xnG call 105 (F + 6) 39 [some (vR 5), some (vI x1), some (vR 2), some (vI x3), some (vI x4), some (vI x5), some (vI x6)] [] (LW W z f) = xnG call 105 F 45 [some (vR 5), some (vI x1), some (vR 2), some (vI x3), some (vI x4), some (vI x5), some (vI x6)] [vI x5, vI (x6 + 4), vR 6] (LW W z f) := rfl
set_option maxRecDepth 100000 in
theorem bn_105_16 (call : QC FA) (x y : Int32) (ls : List (Option PV)) (z : Nat → Int32) (f : Nat → FA) (F : Nat) : xnG call 105 (F + 1) 45 ls [vI y, vI x, vR 6] (LW W z f) = bif (Nat.beq 0 0 && pin x 750) then xnG call 105 F 46 ls [] (LW W z (uA f 6 (upd (f 6) (ix x) y))) else none := rfl
set_option maxRecDepth 100000 in
theorem bn_105_17 (call : QC FA) (x1 : Int32) (x3 : Int32) (x4 : Int32) (x5 : Int32) (x6 : Int32) (L : QH FA) (F : Nat) : xnG call 105 (F + 3) 46 [some (vR 5), some (vI x1), some (vR 2), some (vI x3), some (vI x4), some (vI x5), some (vI x6)] [] L = xnG call 105 F 49 [some (vR 5), some (vI x1), some (vR 2), some (vI x3), some (vI x4), some (vI x5), some (vI x6)] [vI (x1 + 1)] L := rfl
set_option maxRecDepth 100000 in
theorem bn_105_18 (call : QC FA) (x : Int32) (ls : List (Option PV)) (L : QH FA) (F : Nat) : xnG call 105 (F + 1) 49 ls [vI x] L = some (some (vI x), L) := rfl
theorem vcn_105_0 (call : QC FA) (x1 : Int32) (x3 : Int32) (x4 : Int32) (x5 : Int32) (o6 : Option PV) (z : Nat → Int32) (f : Nat → FA) (res : Option PV × QH FA) (H : ((I x1 < 0 → res = (some (vI x1), LW W z f)) ∧ (0 ≤ I x1 → ((I x1 < 150 → (pin (x1 * 5) 750 = true ∧ (pin ((x1 * 5) + 1) 750 = true ∧ (pin ((x1 * 5) + 2) 750 = true ∧ (pin ((x1 * 5) + 3) 750 = true ∧ (pin ((x1 * 5) + 4) 750 = true ∧ res = (some (vI (x1 + 1)), LW W z (uA (uA (uA (uA (uA f 6 (upd (f 6) (ix (x1 * 5)) (z 25))) 6 (upd (upd (f 6) (ix (x1 * 5)) (z 25)) (ix ((x1 * 5) + 1)) (z 24))) 6 (upd (upd (upd (f 6) (ix (x1 * 5)) (z 25)) (ix ((x1 * 5) + 1)) (z 24)) (ix ((x1 * 5) + 2)) x3)) 6 (upd (upd (upd (upd (f 6) (ix (x1 * 5)) (z 25)) (ix ((x1 * 5) + 1)) (z 24)) (ix ((x1 * 5) + 2)) x3) (ix ((x1 * 5) + 3)) x4)) 6 (upd (upd (upd (upd (upd (f 6) (ix (x1 * 5)) (z 25)) (ix ((x1 * 5) + 1)) (z 24)) (ix ((x1 * 5) + 2)) x3) (ix ((x1 * 5) + 3)) x4) (ix ((x1 * 5) + 4)) x5))))))))) ∧ (150 ≤ I x1 → res = (some (vI x1), LW W z f)))))) : XC call (mP 105) 0 [some (vR 5), some (vI x1), some (vR 2), some (vI x3), some (vI x4), some (vI x5), o6] [] (LW W z f) res := by
  refine xc_b (i' := 1) (ls' := [some (vR 5), some (vI x1), some (vR 2), some (vI x3), some (vI x4), some (vI x5), o6]) (st' := [vI x1]) (L' := LW W z f) 1 (bn_105_1 call x1 x3 x4 x5 o6 _) ?_
  refine xc_if (it := 5) (ie := 2) (ls' := [some (vR 5), some (vI x1), some (vR 2), some (vI x3), some (vI x4), some (vI x5), o6]) (st' := []) (bn_105_2 call x1 _ _) (fun q1 => ?_) (fun q1 => ?_)
  · have H := H.1 (cI2t q1 rfl rfl)
    refine xc_b (i' := 6) (ls' := [some (vR 5), some (vI x1), some (vR 2), some (vI x3), some (vI x4), some (vI x5), o6]) (st' := [vI x1]) (L' := LW W z f) 1 (bn_105_3 call x1 x3 x4 x5 o6 _) ?_
    subst H
    exact xc_ret (bn_105_4 call _ _ _)
  · have H := H.2 (cI2f q1 rfl rfl)
    refine xc_b (i' := 4) (ls' := [some (vR 5), some (vI x1), some (vR 2), some (vI x3), some (vI x4), some (vI x5), o6]) (st' := [vI 150, vI x1]) (L' := LW W z f) 2 (bn_105_5 call x1 x3 x4 x5 o6 _) ?_
    refine xc_if (it := 7) (ie := 5) (ls' := [some (vR 5), some (vI x1), some (vR 2), some (vI x3), some (vI x4), some (vI x5), o6]) (st' := []) (bn_105_6 call x1 150 _ _) (fun q2 => ?_) (fun q2 => ?_)
    · have H := H.1 (cI2t q2 rfl rfl)
      refine xc_b (i' := 16) (ls' := [some (vR 5), some (vI x1), some (vR 2), some (vI x3), some (vI x4), some (vI x5), some (vI (x1 * 5))]) (st' := [vI (z 25), vI (x1 * 5), vR 6]) (L' := LW W z f) 9 (bn_105_7 call x1 x3 x4 x5 o6 z f) ?_
      obtain ⟨g1, H⟩ := H
      refine xc_g (i' := 17) (ls' := [some (vR 5), some (vI x1), some (vR 2), some (vI x3), some (vI x4), some (vI x5), some (vI (x1 * 5))]) (st' := []) (L' := LW W z (uA f 6 (upd (f 6) (ix (x1 * 5)) (z 25)))) (bn_105_8 call (x1 * 5) (z 25) _ z f) (pinG g1) ?_
      refine xc_b (i' := 24) (ls' := [some (vR 5), some (vI x1), some (vR 2), some (vI x3), some (vI x4), some (vI x5), some (vI (x1 * 5))]) (st' := [vI (z 24), vI ((x1 * 5) + 1), vR 6]) (L' := LW W z (uA f 6 (upd (f 6) (ix (x1 * 5)) (z 25)))) 7 (bn_105_9 call x1 x3 x4 x5 (x1 * 5) z (uA f 6 (upd (f 6) (ix (x1 * 5)) (z 25)))) ?_
      obtain ⟨g1, H⟩ := H
      refine xc_g (i' := 25) (ls' := [some (vR 5), some (vI x1), some (vR 2), some (vI x3), some (vI x4), some (vI x5), some (vI (x1 * 5))]) (st' := []) (L' := LW W z (uA (uA f 6 (upd (f 6) (ix (x1 * 5)) (z 25))) 6 (upd (upd (f 6) (ix (x1 * 5)) (z 25)) (ix ((x1 * 5) + 1)) (z 24)))) (bn_105_10 call ((x1 * 5) + 1) (z 24) _ z (uA f 6 (upd (f 6) (ix (x1 * 5)) (z 25)))) (pinG g1) ?_
      refine xc_b (i' := 31) (ls' := [some (vR 5), some (vI x1), some (vR 2), some (vI x3), some (vI x4), some (vI x5), some (vI (x1 * 5))]) (st' := [vI x3, vI ((x1 * 5) + 2), vR 6]) (L' := LW W z (uA (uA f 6 (upd (f 6) (ix (x1 * 5)) (z 25))) 6 (upd (upd (f 6) (ix (x1 * 5)) (z 25)) (ix ((x1 * 5) + 1)) (z 24)))) 6 (bn_105_11 call x1 x3 x4 x5 (x1 * 5) z (uA (uA f 6 (upd (f 6) (ix (x1 * 5)) (z 25))) 6 (upd (upd (f 6) (ix (x1 * 5)) (z 25)) (ix ((x1 * 5) + 1)) (z 24)))) ?_
      obtain ⟨g1, H⟩ := H
      refine xc_g (i' := 32) (ls' := [some (vR 5), some (vI x1), some (vR 2), some (vI x3), some (vI x4), some (vI x5), some (vI (x1 * 5))]) (st' := []) (L' := LW W z (uA (uA (uA f 6 (upd (f 6) (ix (x1 * 5)) (z 25))) 6 (upd (upd (f 6) (ix (x1 * 5)) (z 25)) (ix ((x1 * 5) + 1)) (z 24))) 6 (upd (upd (upd (f 6) (ix (x1 * 5)) (z 25)) (ix ((x1 * 5) + 1)) (z 24)) (ix ((x1 * 5) + 2)) x3))) (bn_105_12 call ((x1 * 5) + 2) x3 _ z (uA (uA f 6 (upd (f 6) (ix (x1 * 5)) (z 25))) 6 (upd (upd (f 6) (ix (x1 * 5)) (z 25)) (ix ((x1 * 5) + 1)) (z 24)))) (pinG g1) ?_
      refine xc_b (i' := 38) (ls' := [some (vR 5), some (vI x1), some (vR 2), some (vI x3), some (vI x4), some (vI x5), some (vI (x1 * 5))]) (st' := [vI x4, vI ((x1 * 5) + 3), vR 6]) (L' := LW W z (uA (uA (uA f 6 (upd (f 6) (ix (x1 * 5)) (z 25))) 6 (upd (upd (f 6) (ix (x1 * 5)) (z 25)) (ix ((x1 * 5) + 1)) (z 24))) 6 (upd (upd (upd (f 6) (ix (x1 * 5)) (z 25)) (ix ((x1 * 5) + 1)) (z 24)) (ix ((x1 * 5) + 2)) x3))) 6 (bn_105_13 call x1 x3 x4 x5 (x1 * 5) z (uA (uA (uA f 6 (upd (f 6) (ix (x1 * 5)) (z 25))) 6 (upd (upd (f 6) (ix (x1 * 5)) (z 25)) (ix ((x1 * 5) + 1)) (z 24))) 6 (upd (upd (upd (f 6) (ix (x1 * 5)) (z 25)) (ix ((x1 * 5) + 1)) (z 24)) (ix ((x1 * 5) + 2)) x3))) ?_
      obtain ⟨g1, H⟩ := H
      refine xc_g (i' := 39) (ls' := [some (vR 5), some (vI x1), some (vR 2), some (vI x3), some (vI x4), some (vI x5), some (vI (x1 * 5))]) (st' := []) (L' := LW W z (uA (uA (uA (uA f 6 (upd (f 6) (ix (x1 * 5)) (z 25))) 6 (upd (upd (f 6) (ix (x1 * 5)) (z 25)) (ix ((x1 * 5) + 1)) (z 24))) 6 (upd (upd (upd (f 6) (ix (x1 * 5)) (z 25)) (ix ((x1 * 5) + 1)) (z 24)) (ix ((x1 * 5) + 2)) x3)) 6 (upd (upd (upd (upd (f 6) (ix (x1 * 5)) (z 25)) (ix ((x1 * 5) + 1)) (z 24)) (ix ((x1 * 5) + 2)) x3) (ix ((x1 * 5) + 3)) x4))) (bn_105_14 call ((x1 * 5) + 3) x4 _ z (uA (uA (uA f 6 (upd (f 6) (ix (x1 * 5)) (z 25))) 6 (upd (upd (f 6) (ix (x1 * 5)) (z 25)) (ix ((x1 * 5) + 1)) (z 24))) 6 (upd (upd (upd (f 6) (ix (x1 * 5)) (z 25)) (ix ((x1 * 5) + 1)) (z 24)) (ix ((x1 * 5) + 2)) x3))) (pinG g1) ?_
      refine xc_b (i' := 45) (ls' := [some (vR 5), some (vI x1), some (vR 2), some (vI x3), some (vI x4), some (vI x5), some (vI (x1 * 5))]) (st' := [vI x5, vI ((x1 * 5) + 4), vR 6]) (L' := LW W z (uA (uA (uA (uA f 6 (upd (f 6) (ix (x1 * 5)) (z 25))) 6 (upd (upd (f 6) (ix (x1 * 5)) (z 25)) (ix ((x1 * 5) + 1)) (z 24))) 6 (upd (upd (upd (f 6) (ix (x1 * 5)) (z 25)) (ix ((x1 * 5) + 1)) (z 24)) (ix ((x1 * 5) + 2)) x3)) 6 (upd (upd (upd (upd (f 6) (ix (x1 * 5)) (z 25)) (ix ((x1 * 5) + 1)) (z 24)) (ix ((x1 * 5) + 2)) x3) (ix ((x1 * 5) + 3)) x4))) 6 (bn_105_15 call x1 x3 x4 x5 (x1 * 5) z (uA (uA (uA (uA f 6 (upd (f 6) (ix (x1 * 5)) (z 25))) 6 (upd (upd (f 6) (ix (x1 * 5)) (z 25)) (ix ((x1 * 5) + 1)) (z 24))) 6 (upd (upd (upd (f 6) (ix (x1 * 5)) (z 25)) (ix ((x1 * 5) + 1)) (z 24)) (ix ((x1 * 5) + 2)) x3)) 6 (upd (upd (upd (upd (f 6) (ix (x1 * 5)) (z 25)) (ix ((x1 * 5) + 1)) (z 24)) (ix ((x1 * 5) + 2)) x3) (ix ((x1 * 5) + 3)) x4))) ?_
      obtain ⟨g1, H⟩ := H
      refine xc_g (i' := 46) (ls' := [some (vR 5), some (vI x1), some (vR 2), some (vI x3), some (vI x4), some (vI x5), some (vI (x1 * 5))]) (st' := []) (L' := LW W z (uA (uA (uA (uA (uA f 6 (upd (f 6) (ix (x1 * 5)) (z 25))) 6 (upd (upd (f 6) (ix (x1 * 5)) (z 25)) (ix ((x1 * 5) + 1)) (z 24))) 6 (upd (upd (upd (f 6) (ix (x1 * 5)) (z 25)) (ix ((x1 * 5) + 1)) (z 24)) (ix ((x1 * 5) + 2)) x3)) 6 (upd (upd (upd (upd (f 6) (ix (x1 * 5)) (z 25)) (ix ((x1 * 5) + 1)) (z 24)) (ix ((x1 * 5) + 2)) x3) (ix ((x1 * 5) + 3)) x4)) 6 (upd (upd (upd (upd (upd (f 6) (ix (x1 * 5)) (z 25)) (ix ((x1 * 5) + 1)) (z 24)) (ix ((x1 * 5) + 2)) x3) (ix ((x1 * 5) + 3)) x4) (ix ((x1 * 5) + 4)) x5))) (bn_105_16 call ((x1 * 5) + 4) x5 _ z (uA (uA (uA (uA f 6 (upd (f 6) (ix (x1 * 5)) (z 25))) 6 (upd (upd (f 6) (ix (x1 * 5)) (z 25)) (ix ((x1 * 5) + 1)) (z 24))) 6 (upd (upd (upd (f 6) (ix (x1 * 5)) (z 25)) (ix ((x1 * 5) + 1)) (z 24)) (ix ((x1 * 5) + 2)) x3)) 6 (upd (upd (upd (upd (f 6) (ix (x1 * 5)) (z 25)) (ix ((x1 * 5) + 1)) (z 24)) (ix ((x1 * 5) + 2)) x3) (ix ((x1 * 5) + 3)) x4))) (pinG g1) ?_
      refine xc_b (i' := 49) (ls' := [some (vR 5), some (vI x1), some (vR 2), some (vI x3), some (vI x4), some (vI x5), some (vI (x1 * 5))]) (st' := [vI (x1 + 1)]) (L' := LW W z (uA (uA (uA (uA (uA f 6 (upd (f 6) (ix (x1 * 5)) (z 25))) 6 (upd (upd (f 6) (ix (x1 * 5)) (z 25)) (ix ((x1 * 5) + 1)) (z 24))) 6 (upd (upd (upd (f 6) (ix (x1 * 5)) (z 25)) (ix ((x1 * 5) + 1)) (z 24)) (ix ((x1 * 5) + 2)) x3)) 6 (upd (upd (upd (upd (f 6) (ix (x1 * 5)) (z 25)) (ix ((x1 * 5) + 1)) (z 24)) (ix ((x1 * 5) + 2)) x3) (ix ((x1 * 5) + 3)) x4)) 6 (upd (upd (upd (upd (upd (f 6) (ix (x1 * 5)) (z 25)) (ix ((x1 * 5) + 1)) (z 24)) (ix ((x1 * 5) + 2)) x3) (ix ((x1 * 5) + 3)) x4) (ix ((x1 * 5) + 4)) x5))) 3 (bn_105_17 call x1 x3 x4 x5 (x1 * 5) _) ?_
      subst H
      exact xc_ret (bn_105_18 call _ _ _)
    · have H := H.2 (cI2f q2 rfl rfl)
      refine xc_b (i' := 6) (ls' := [some (vR 5), some (vI x1), some (vR 2), some (vI x3), some (vI x4), some (vI x5), o6]) (st' := [vI x1]) (L' := LW W z f) 1 (bn_105_3 call x1 x3 x4 x5 o6 _) ?_
      subst H
      exact xc_ret (bn_105_4 call _ _ _)
/-- both sides beside one another -/
def RLn (nv : Nat) (z : Nat → Int32) (f : Nat → FA) (zr : Nat → Int32) (r : Nat → FA) : Prop := CRL 2 nv z f r ∧ BKR f r ∧ zr 5 = 0
/-- what else is left alone -/
def FRn (z : Nat → Int32) (f r : Nat → FA) (z' : Nat → Int32) (f' r' : Nat → FA) : Prop := (∀ j, (j < 23 ∨ 29 < j) → z' j = z j) ∧ (∀ k, k ∉ [3, 4, 6, 9, 10, 11] → f' k = f k) ∧ ∀ k, k ∉ [1, 7, 21, 22] → r' k = r k
theorem FRn.rfl {z : Nat → Int32} {f r : Nat → FA} : FRn z f r z f r := ⟨fun _ _ => Eq.refl _, fun _ _ => Eq.refl _, fun _ _ => Eq.refl _⟩
theorem FRn.trans {z z' z2 : Nat → Int32} {f r f' r' f2 r2 : Nat → FA} (h : FRn z f r z' f' r') (g : FRn z' f' r' z2 f2 r2) : FRn z f r z2 f2 r2 := ⟨fun j hj => (g.1 j hj).trans (h.1 j hj), fun k hk => (g.2.1 k hk).trans (h.2.1 k hk), fun k hk => (g.2.2 k hk).trans (h.2.2 k hk)⟩
theorem cr_baren {nv i : Nat} (hi : i < 144) {z : Nat → Int32} {f r : Nat → FA} (h : CRL 2 nv z f r) : CRL 2 nv z (uA f 4 (upd (f 4) i 0)) (uA r 1 (upd (upd (upd (r 1) (67 + i) 0) (211 + i) 0) (355 + i) 0)) := by
  obtain ⟨hn, hs, ht, hm, hr⟩ := h
  have g : ∀ j, j < 67 → upd (upd (upd (r 1) (67 + i) 0) (211 + i) 0) (355 + i) 0 j = r 1 j := fun j hj => by rw [pk_un (by omega), pk_un (by omega), pk_un (by omega)]
  refine ⟨hn, ?_, ?_, ?_, ?_⟩
  · rw [uA_self]
    unfold CRs
    rw [g 4 (by omega), g 1 (by omega), g 0 (by omega), g 5 (by omega), g 6 (by omega), g 2 (by omega), g 3 (by omega)]
    exact hs
  · rw [uA_self]
    exact ht.cong (fun j hj => by rw [uA_ne (show (3 : Nat) ≠ 4 by decide)]) (fun j h1 h2 => g j h2) (fun v hv => rfl) (fun v hv => rfl) (fun v hv => rfl) hn
  · rw [uA_self]
    show MRS nv (uA f 4 (upd (f 4) i 0) 4) _
    rw [uA_self]
    exact MRS.bare hm hi
  · rw [uA_self]
    unfold CRr
    rw [g 1 (by omega), g 3 (by omega)]
    exact hr
theorem cr_drawn {nv : Nat} {z : Nat → Int32} {f r : Nat → FA} (x : Int32) (h : CRL 2 nv z f r) : CRL 2 nv (uZ z 28 x) f (uA r 1 (upd (r 1) 2 x)) := by
  obtain ⟨hn, hs, ht, hm, hr⟩ := h
  have g : ∀ j, j ≠ 2 → upd (r 1) 2 x j = r 1 j := fun j hj => pk_un hj
  refine ⟨hn, ?_, ?_, ?_, ?_⟩
  · rw [uA_self]
    obtain ⟨a1, a2, a3, a4, a5, a6, a7, a8⟩ := hs
    exact ⟨(uZ_n (by decide)).trans a1, ((uZ_n (by decide)).trans a2).trans (g 4 (by decide)).symm, ((uZ_n (by decide)).trans a3).trans (g 1 (by decide)).symm, ((uZ_n (by decide)).trans a4).trans (g 0 (by decide)).symm, ((uZ_n (by decide)).trans a5).trans (g 5 (by decide)).symm, ((uZ_n (by decide)).trans a6).trans (g 6 (by decide)).symm, uZ_s.trans pk_us.symm, ((uZ_n (by decide)).trans a8).trans (g 3 (by decide)).symm⟩
  · rw [uA_self]
    exact ht.cong (fun j hj => rfl) (fun j h1 h2 => g j (by omega)) (fun v hv => rfl) (fun v hv => rfl) (fun v hv => rfl) hn
  · rw [uA_self]
    exact hm.cong (fun j hj => rfl) (fun j h1 h2 => g j (by omega))
  · rw [uA_self]
    unfold CRr
    rw [g 1 (by decide), g 3 (by decide)]
    exact hr
theorem cr_heatn {nv : Nat} {z : Nat → Int32} {f r : Nat → FA} (x : Int32) (h : CRL 2 nv z f r) : CRL 2 nv (uZ z 23 x) f (uA r 1 (upd (r 1) 4 x)) := by
  obtain ⟨hn, hs, ht, hm, hr⟩ := h
  have g : ∀ j, j ≠ 4 → upd (r 1) 4 x j = r 1 j := fun j hj => pk_un hj
  refine ⟨hn, ?_, ?_, ?_, ?_⟩
  · rw [uA_self]
    obtain ⟨a1, a2, a3, a4, a5, a6, a7, a8⟩ := hs
    exact ⟨(uZ_n (by decide)).trans a1, uZ_s.trans pk_us.symm, ((uZ_n (by decide)).trans a3).trans (g 1 (by decide)).symm, ((uZ_n (by decide)).trans a4).trans (g 0 (by decide)).symm, ((uZ_n (by decide)).trans a5).trans (g 5 (by decide)).symm, ((uZ_n (by decide)).trans a6).trans (g 6 (by decide)).symm, ((uZ_n (by decide)).trans a7).trans (g 2 (by decide)).symm, ((uZ_n (by decide)).trans a8).trans (g 3 (by decide)).symm⟩
  · rw [uA_self]
    exact ht.cong (fun j hj => rfl) (fun j h1 h2 => g j (by omega)) (fun v hv => rfl) (fun v hv => rfl) (fun v hv => rfl) hn
  · rw [uA_self]
    exact hm.cong (fun j hj => rfl) (fun j h1 h2 => g j (by omega))
  · rw [uA_self]
    unfold CRr
    rw [g 1 (by decide), g 3 (by decide)]
    exact hr
theorem cr_mindn {nv v : Nat} (hv : v < nv) {z : Nat → Int32} {f r : Nat → FA} (x : Int32) (hx : x = -1 ∨ x = 0 ∨ x = 1) (h : CRL 2 nv z f r) : CRL 2 nv z (uA f 3 (upd (f 3) (20 + v) x)) (uA r 1 (upd (r 1) (7 + v) x)) := by
  obtain ⟨hn, hs, ht, hm, hr⟩ := h
  have g : ∀ j, j ≠ 7 + v → upd (r 1) (7 + v) x j = r 1 j := fun j hj => pk_un hj
  refine ⟨hn, ?_, ?_, ?_, ?_⟩
  · rw [uA_self]
    unfold CRs
    rw [g 4 (by omega), g 1 (by omega), g 0 (by omega), g 5 (by omega), g 6 (by omega), g 2 (by omega), g 3 (by omega)]
    exact hs
  · show CRt nv (upd (f 3) (20 + v) x) (upd (r 1) (7 + v) x) (r 4) (r 5) (r 6)
    intro u hu
    obtain ⟨b1, b2, b3, b4, b5, b6, b7, b8, b9⟩ := ht u hu
    refine ⟨(pk_un (by omega)).trans b1, ?_, (pk_un (by omega)).trans b3, (pk_un (by omega)).trans b4, ((pk_un (by omega)).trans b5).trans (g _ (by omega)).symm, ((pk_un (by omega)).trans b6).trans (g _ (by omega)).symm, b7, b8, ?_⟩
    · by_cases q : u = v
      · subst q
        rw [pk_us, pk_us]
      · rw [pk_un (by omega), pk_un (by omega)]
        exact b2
    · by_cases q : u = v
      · subst q
        rw [pk_us]
        exact hx
      · rw [pk_un (by omega)]
        exact b9
  · rw [uA_self]
    exact hm.cong (fun j hj => by rw [uA_ne (show (4 : Nat) ≠ 3 by decide)]) (fun j h1 h2 => g j (by omega))
  · rw [uA_self]
    unfold CRr
    rw [g 1 (by omega), g 3 (by omega)]
    exact hr
theorem cr_scrn {nv : Nat} {z : Nat → Int32} {f r f' r' : Nat → FA} (h : CRL 2 nv z f r) (ht : f' 3 = f 3) (hm : f' 4 = f 4) (h1 : r' 1 = r 1) (h4 : r' 4 = r 4) (h5 : r' 5 = r 5) (h6 : r' 6 = r 6) : CRL 2 nv z f' r' := by
  unfold CRL at h ⊢
  rw [show f' (2 + 1) = f (2 + 1) from ht, show f' (2 + 2) = f (2 + 2) from hm, h1, h4, h5, h6]
  exact h
theorem wWrite (d : Nat) (a b e : Int32) {z : Nat → Int32} {f : Nat → FA} {l : Nat} (hl : l < 150) : xcall (d + 1) 105 [vR 5, vI (nI l), vR 2, vI a, vI b, vI e] (LW W z f) = some (some (vI (nI (l + 1))), LW W z (uA f 6 (b5 (f 6) l (z 25) (z 24) a b e))) := by
  have e5 : nI l * 5 = nI (5 * l) := by rw [show (5 : Int32) = nI 5 from rfl, mul_nI, Nat.mul_comm]
  have il : I (nI l) = l := I_nI (by omega)
  have go : ∀ res, _ → xcall (d + 1) 105 [vR 5, vI (nI l), vR 2, vI a, vI b, vI e] (LW W z f) = some res := fun res H => xcall_i (mq105 (cu := [])).2.2 rfl (vcn_105_0 (xcall d) (nI l) a b e none z f res H)
  rw [e5, show nI (5 * l) + 1 = nI (5 * l + 1) from nI_add _ 1, show nI (5 * l) + 2 = nI (5 * l + 2) from nI_add _ 2, show nI (5 * l) + 3 = nI (5 * l + 3) from nI_add _ 3, show nI (5 * l) + 4 = nI (5 * l + 4) from nI_add _ 4, show nI l + 1 = nI (l + 1) from nI_add l 1, ix_nI (j := 5 * l) (by omega), ix_nI (j := 5 * l + 1) (by omega), ix_nI (j := 5 * l + 2) (by omega), ix_nI (j := 5 * l + 3) (by omega), ix_nI (j := 5 * l + 4) (by omega)] at go
  refine go _ ⟨fun q => by omega, fun _ => ⟨fun _ => ⟨pin_nI (by omega) (by omega), pin_nI (by omega) (by omega), pin_nI (by omega) (by omega), pin_nI (by omega) (by omega), pin_nI (by omega) (by omega), ?_⟩, fun q => by omega⟩⟩
  simp only [uA_uA]
  rfl
theorem wWriteF (d : Nat) (a b e : Int32) {z : Nat → Int32} {f : Nat → FA} : xcall (d + 1) 105 [vR 5, vI (nI 150), vR 2, vI a, vI b, vI e] (LW W z f) = some (some (vI (nI 150)), LW W z f) := by
  have il : I (nI 150) = 150 := I_nI (n := 150) (by omega)
  exact xcall_i (mq105 (cu := [])).2.2 rfl (vcn_105_0 (xcall d) (nI 150) a b e none z f _ ⟨fun q => by omega, fun _ => ⟨fun q => by omega, fun _ => rfl⟩⟩)
theorem wNoten (d : Nat) (a b e : Int32) {z : Nat → Int32} {f : Nat → FA} {l : Nat} (hz : z 29 = nI l) (hl : l < 150) : xcall (d + 2) 97 [vR 8, vI a, vI b, vI e] (LW W z f) = some (none, LW W (uZ z 29 (nI (l + 1))) (uA f 6 (b5 (f 6) l (z 25) (z 24) a b e))) := xcall_i (mq97 (cu := [])).2.2 rfl (vcn_97_0 (xcall (d + 1)) a b e z f _ ⟨_, _, _, by rw [hz]; exact wWrite d a b e hl, rfl⟩)
theorem wNoteFn (d : Nat) (a b e : Int32) {z : Nat → Int32} {f : Nat → FA} (hz : z 29 = nI 150) : xcall (d + 2) 97 [vR 8, vI a, vI b, vI e] (LW W z f) = some (none, LW W z f) := xcall_i (mq97 (cu := [])).2.2 rfl (vcn_97_0 (xcall (d + 1)) a b e z f _ ⟨_, _, _, by rw [hz]; exact wWriteF d a b e, by rw [uZ_id hz]⟩)
theorem cr_noten {nv l : Nat} (hl : l < 150) {z : Nat → Int32} {f r : Nat → FA} (G G' : FA) (h : CRL 2 nv z f r) : CRL 2 nv (uZ z 29 (nI (l + 1))) (uA f 6 G) (uA (uA r 7 G') 1 (upd (r 1) 3 (nI (l + 1)))) := by
  obtain ⟨hn, hs, ht, hm, hr⟩ := h
  have g : ∀ j, j ≠ 3 → upd (r 1) 3 (nI (l + 1)) j = r 1 j := fun j hj => pk_un hj
  refine ⟨hn, ?_, ?_, ?_, ?_⟩
  · rw [uA_self]
    obtain ⟨a1, a2, a3, a4, a5, a6, a7, a8⟩ := hs
    exact ⟨(uZ_n (by decide)).trans a1, ((uZ_n (by decide)).trans a2).trans (g 4 (by decide)).symm, ((uZ_n (by decide)).trans a3).trans (g 1 (by decide)).symm, ((uZ_n (by decide)).trans a4).trans (g 0 (by decide)).symm, ((uZ_n (by decide)).trans a5).trans (g 5 (by decide)).symm, ((uZ_n (by decide)).trans a6).trans (g 6 (by decide)).symm, ((uZ_n (by decide)).trans a7).trans (g 2 (by decide)).symm, uZ_s.trans pk_us.symm⟩
  · rw [uA_self]
    exact ht.cong (fun j hj => rfl) (fun j h1 h2 => g j (by omega)) (fun v hv => rfl) (fun v hv => rfl) (fun v hv => rfl) hn
  · rw [uA_self]
    exact hm.cong (fun j hj => rfl) (fun j h1 h2 => g j (by omega))
  · rw [uA_self]
    exact ⟨by rw [g 1 (by decide)]; exact hr.1, l + 1, by omega, pk_us⟩
/-- one line more on both sides, or none; the reference writes the same one over a row of which some marks differ -/
theorem simNoten (d d' : Nat) (w who much : Int32) {nv : Nat} {z zr : Nat → Int32} {f r : Nat → FA} (h : RLn nv z f zr r) : ∃ z' f6 r7 x3, xcall (d + 2) 97 [vR 8, vI w, vI who, vI much] (LW W z f) = some (none, LW W z' (uA f 6 f6)) ∧ (∀ r2 : Nat → FA, r2 7 = r 7 → (∀ j, j < 4 → r2 1 j = r 1 j) → mcall (d' + 1) 243 [vR 0, vI w, vI who, vI much] (LR zr r2) = some (none, LR zr (uA (uA r2 7 r7) 1 (upd (r2 1) 3 x3)))) ∧ RLn nv z' (uA f 6 f6) zr (uA (uA r 7 r7) 1 (upd (r 1) 3 x3)) ∧ FRn z f r z' (uA f 6 f6) (uA (uA r 7 r7) 1 (upd (r 1) 3 x3)) := by
  obtain ⟨hC, hB, h5⟩ := h
  have hC0 := hC
  obtain ⟨hn, hs, ht, hm, hr1, l, hl, hl2⟩ := hC
  have z29 : z 29 = nI l := hs.2.2.2.2.2.2.2.trans hl2
  have z25 : z 25 = r 1 0 := hs.2.2.2.1
  have z24 : z 24 = r 1 1 := hs.2.2.1
  by_cases c : l < 150
  · refine ⟨uZ z 29 (nI (l + 1)), _, b5 (r 7) l (r 1 0) (r 1 1) w who much, nI (l + 1), wNoten d w who much z29 c, fun r2 e7 e1 => ?_, ⟨cr_noten c _ _ hC0, ?_, h5⟩, ⟨fun j hj => uZ_n (by omega), fun k hk => uA_ne (fun q => hk (by rw [q]; decide)), fun k hk => by rw [uA_ne (fun q => hk (by rw [q]; decide)), uA_ne (fun q => hk (by rw [q]; decide))]⟩⟩
    · have h2 := mNote d' w who much (r := r2) h5 ((e1 3 (by omega)).trans hl2) c
      rw [e7, e1 0 (by omega), e1 1 (by omega)] at h2
      exact h2
    · intro j hj
      rw [uA_self, uA_ne (show (7 : Nat) ≠ 1 by decide), uA_self, z25, z24]
      exact b5_lo hB j hj
  · obtain rfl : l = 150 := by omega
    have e1 : uA f 6 (f 6) = f := uA_id rfl
    have e2 : ∀ r2 : Nat → FA, r2 7 = r 7 → (∀ j, j < 4 → r2 1 j = r 1 j) → uA (uA r2 7 (r 7)) 1 (upd (r2 1) 3 (r 1 3)) = r2 := fun r2 q7 q1 => by
      rw [uA_id (k := 7) q7.symm]
      refine uA_id ?_
      funext j
      by_cases q : j = 3
      · rw [q, pk_us, q1 3 (by omega)]
      · rw [pk_un q]
    refine ⟨z, f 6, r 7, r 1 3, ?_, fun r2 q7 q1 => ?_, ?_, ?_⟩
    · rw [e1]
      exact wNoteFn d w who much z29
    · rw [e2 r2 q7 q1]
      exact mNoteF d' w who much h5 ((q1 3 (by omega)).trans hl2)
    · rw [e1, e2 r rfl (fun _ _ => rfl)]
      exact ⟨hC0, hB, h5⟩
    · rw [e1, e2 r rfl (fun _ _ => rfl)]
      exact FRn.rfl
/-- a mark is taken away, by hand, putty or heat -/
theorem simTaken (d d' : Nat) (w : Int32) {nv i : Nat} (hi : i < 144) {z zr : Nat → Int32} {f r : Nat → FA} (h : RLn nv z f zr r) (hmk : ¬ f 4 i = 0) : ∃ z' f' r', xcall (d + 3) 101 [vR 8, vI (nI i), vI w] (LW W z f) = some (none, LW W z' f') ∧ (∀ r2 : Nat → FA, (∀ k, k ≠ 1 → r2 k = r k) → (∀ j, j ≠ 355 + i → r2 1 j = r 1 j) → ∃ r1, mcall (d' + 1) 243 [vR 0, vI w, vI (r 1 (67 + i) - 1), vI (nI i)] (LR zr r2) = some (none, LR zr r1) ∧ mcall (d' + 1) 220 [vR 0, vI (nI i)] (LR zr r1) = some (none, LR zr r')) ∧ RLn nv z' f' zr r' ∧ FRn z f r z' f' r' ∧ f' 4 = upd (f 4) i 0 ∧ r' 1 1 = r 1 1 := by
  obtain ⟨hC, hB, h5⟩ := h
  have hC0 := hC
  obtain ⟨hn, hs, ht, hm, hr1⟩ := hC
  obtain ⟨-, -, hv⟩ := (hm i hi).val hn
  have hm4 : (f (2 + 2)) i = f 4 i := rfl
  rcases hv with ⟨q, -, -⟩ | ⟨-, v, hv, ho, hwu, -⟩
  · exact absurd q hmk
  have eo : r 1 (67 + i) - 1 = nI v := by
    rw [hwu]
    exact nI_sub (a := v + 1) (b := 1) (by omega)
  have hb : RLn nv z (uA f 4 (upd (f 4) i 0)) zr (uA r 1 (upd (upd (upd (r 1) (67 + i) 0) (211 + i) 0) (355 + i) 0)) := ⟨cr_baren hi hC0, fun j hj => by
    rw [uA_ne (show (6 : Nat) ≠ 4 by decide), uA_ne (show (7 : Nat) ≠ 1 by decide)]
    exact hB j hj, h5⟩
  obtain ⟨z', f6, r7, x3, k1, k2, k3, k4⟩ := simNoten (W := W) d d' w (nI v) (nI i) hb
  have kk : ∀ r2 : Nat → FA, (∀ k, k ≠ 1 → r2 k = r k) → (∀ j, j ≠ 355 + i → r2 1 j = r 1 j) → ∃ r1, mcall (d' + 1) 243 [vR 0, vI w, vI (nI v), vI (nI i)] (LR zr r2) = some (none, LR zr r1) ∧ mcall (d' + 1) 220 [vR 0, vI (nI i)] (LR zr r1) = some (none, LR zr (uA (uA (uA r 1 (upd (upd (upd (r 1) (67 + i) 0) (211 + i) 0) (355 + i) 0)) 7 r7) 1 (upd (uA r 1 (upd (upd (upd (r 1) (67 + i) 0) (211 + i) 0) (355 + i) 0) 1) 3 x3))) := by
    intro r2 g1 g2
    have k5 := k2 r2 ((g1 7 (by decide)).trans (uA_ne (show (7 : Nat) ≠ 1 by decide)).symm) (fun j hj => by rw [uA_self, pk_un (by omega), pk_un (by omega), pk_un (by omega)]; exact g2 j (by omega))
    have k6 := mBare d' hi (z := zr) (r := uA (uA r2 7 r7) 1 (upd (r2 1) 3 x3))
    have e1 : uA (uA (uA r2 7 r7) 1 (upd (r2 1) 3 x3)) 1 (upd (upd (upd (uA (uA r2 7 r7) 1 (upd (r2 1) 3 x3) 1) (67 + i) 0) (211 + i) 0) (355 + i) 0) = uA (uA (uA r 1 (upd (upd (upd (r 1) (67 + i) 0) (211 + i) 0) (355 + i) 0)) 7 r7) 1 (upd (uA r 1 (upd (upd (upd (r 1) (67 + i) 0) (211 + i) 0) (355 + i) 0) 1) 3 x3) := by
      funext k
      by_cases c1 : k = 1
      · subst c1
        rw [uA_self, uA_self, uA_self, uA_self]
        funext j
        by_cases c3 : j = 3
        · subst c3
          rw [pk_un (by omega), pk_un (by omega), pk_un (by omega), pk_us, pk_us]
        · rw [pk_un c3]
          by_cases c5 : j = 355 + i
          · subst c5
            rw [pk_us, pk_us]
          · rw [pk_un c5, pk_un c5]
            unfold upd
            simp only [c3, if_false, g2 j c5]
      · rw [uA_ne c1, uA_ne c1, uA_ne c1]
        by_cases c7 : k = 7
        · subst c7
          rw [uA_self, uA_self]
        · rw [uA_ne c7, uA_ne c7, uA_ne c1]
          exact g1 k c1
    rw [e1] at k6
    exact ⟨_, k5, k6⟩
  have hk := wMkdn (W := W) (d + 2) (z := z) (f := f) hi
  rw [mk1_t hmk] at hk
  have ho' := wOwnn (W := W) (d + 1) (z := z) (f := f) hi
  rw [show mkO (f 4 i) = nI v from ho] at ho'
  refine ⟨z', _, _, xcall_i (mq101 (cu := [])).2.2 rfl (vcn_101_0 (xcall (d + 2)) (nI i) w none z f _ ⟨_, _, _, hk, fun q => absurd q (by decide), fun _ => ⟨_, _, _, ho', _, _, wTkMn (d + 1) hi, _, _, k1, rfl⟩⟩), by rw [eo]; exact kk, k3, FRn.trans ⟨fun _ _ => rfl, fun k hk => uA_ne (fun q => hk (by rw [q]; decide)), fun k hk => uA_ne (fun q => hk (by rw [q]; decide))⟩ k4, ?_, ?_⟩
  · rw [uA_ne (show (4 : Nat) ≠ 6 by decide), uA_self]
  · rw [uA_self, pk_un (by omega), uA_self, pk_un (by omega), pk_un (by omega), pk_un (by omega)]
/-- no mark, nothing taken -/
theorem wTake0n (d : Nat) (w : Int32) {i : Nat} (hi : i < 144) {z : Nat → Int32} {f : Nat → FA} (hmk : f 4 i = 0) : xcall (d + 3) 101 [vR 8, vI (nI i), vI w] (LW W z f) = some (none, LW W z f) := by
  have hk := wMkdn (W := W) (d + 2) (z := z) (f := f) hi
  rw [mk1_f (fun q => q hmk)] at hk
  exact xcall_i (mq101 (cu := [])).2.2 rfl (vcn_101_0 (xcall (d + 2)) (nI i) w none z f _ ⟨_, _, _, hk, fun _ => rfl, fun q => absurd rfl q⟩)
/-- whether it happens, by a draw -/
theorem simHapn (d d' : Nat) (x : Int32) {nv : Nat} {z zr : Nat → Int32} {f r : Nat → FA} (h : RLn nv z f zr r) : ∃ b z' r', (b = 0 ∨ b = 1) ∧ xcall (d + 2) 93 [vR 8, vI x] (LW W z f) = some (some (vI b), LW W z' f) ∧ mcall (d' + 2) 216 [vR 0, vI x] (LR zr r) = some (some (vI b), LR zr r') ∧ RLn nv z' f zr r' ∧ FRn z f r z' f r' ∧ ∀ j, j ≠ 2 → r' 1 j = r 1 j := by
  obtain ⟨hC, hB, h5⟩ := h
  have hC0 := hC
  obtain ⟨hn, hs, ht, hm, hr1⟩ := hC
  have z28 : z 28 = r 1 2 := hs.2.2.2.2.2.2.1
  have x2 : ix 2 = 2 := by decide
  have goM : ∀ res, _ → mcall (d' + 2) 216 [vR 0, vI x] (LR zr r) = some res := fun res H => mcall_i (mq216 (cu := [])).2.2 rfl (vc216_0 d' x zr r res H)
  have goC : ∀ res, _ → xcall (d + 2) 93 [vR 8, vI x] (LW W z f) = some res := fun res H => xcall_i (mq93 (cu := [])).2.2 rfl (vcn_93_0 (xcall (d + 1)) x z f res H)
  by_cases c : I x ≤ 0
  · exact ⟨0, z, r, Or.inl rfl, goC _ ⟨fun _ => rfl, fun q => by omega⟩, goM _ ⟨fun _ => ⟨fun _ => rfl, fun q => by omega⟩, fun q => absurd h5 q⟩, ⟨hC0, hB, h5⟩, FRn.rfl, fun _ _ => rfl⟩
  · have hd := wDrawn (W := W) d (z := z) (f := f)
    rw [z28] at hd
    have hR : RLn nv (uZ z 28 (1664525 * r 1 2 + 1013904223)) f zr (uA r 1 (upd (r 1) 2 (1664525 * r 1 2 + 1013904223))) := ⟨cr_drawn _ hC0, fun j hj => by
      rw [uA_ne (show (7 : Nat) ≠ 1 by decide)]
      exact hB j hj, h5⟩
    have hF : FRn z f r (uZ z 28 (1664525 * r 1 2 + 1013904223)) f (uA r 1 (upd (r 1) 2 (1664525 * r 1 2 + 1013904223))) := ⟨fun j hj => uZ_n (by omega), fun _ _ => rfl, fun k hk => uA_ne (fun q => hk (by rw [q]; decide))⟩
    have hj : ∀ j, j ≠ 2 → uA r 1 (upd (r 1) 2 (1664525 * r 1 2 + 1013904223)) 1 j = r 1 j := fun j hj => by rw [uA_self, pk_un hj]
    have hm : mcall (d' + 1) 204 [vR 0, vI 1000] (LR zr r) = some (some (vI (pbin 8 (1664525 * r 1 2 + 1013904223) 8 - pbin 8 (1664525 * r 1 2 + 1013904223) 8 / 1000 * 1000)), LR zr (uA r 1 (upd (r 1) 2 (1664525 * r 1 2 + 1013904223)))) := by
      refine mcall_i (mq204 (cu := [])).2.2 rfl (vc204_0 (mcall d') 1000 zr r _ ⟨by decide, by decide, by decide, by decide, ?_⟩)
      rw [x2, pk_us]
    by_cases c2 : I (pbin 8 (1664525 * r 1 2 + 1013904223) 8 - pbin 8 (1664525 * r 1 2 + 1013904223) 8 / 1000 * 1000) < I x
    · exact ⟨1, _, _, Or.inr rfl, goC _ ⟨fun q => absurd q c, fun _ => ⟨_, _, _, hd, fun q => by omega, fun _ => rfl⟩⟩, goM _ ⟨fun _ => ⟨fun q => absurd q c, fun _ => ⟨_, _, _, hm, fun q => by omega, fun _ => rfl⟩⟩, fun q => absurd h5 q⟩, hR, hF, hj⟩
    · exact ⟨0, _, _, Or.inl rfl, goC _ ⟨fun q => absurd q c, fun _ => ⟨_, _, _, hd, fun _ => rfl, fun q => absurd q c2⟩⟩, goM _ ⟨fun _ => ⟨fun q => absurd q c, fun _ => ⟨_, _, _, hm, fun _ => rfl, fun q => absurd q c2⟩⟩, fun q => absurd h5 q⟩, hR, hF, hj⟩
end TWs
