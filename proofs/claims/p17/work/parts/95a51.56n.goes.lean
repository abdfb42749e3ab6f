/-! goes: both sides -/
section TWs
variable {W : TXW}
set_option maxRecDepth 100000 in
theorem bg_82_1 (call : QC FA) (o1 : Option PV) (o2 : Option PV) (L : QH FA) (F : Nat) : xnG call 82 (F + 4) 0 [some (vR 32), o1, o2] [] L = xnG call 82 F 4 [some (vR 32), some (vI 0), some (vI 0)] [] L := rfl
theorem vcg_82_0 (call : QC FA) (o1 : Option PV) (o2 : Option PV) (z : Nat → Int32) (f : Nat → FA) (res : Option PV × QH FA) (H : XC call (mP 82) 4 [some (vR 32), some (vI 0), some (vI 0)] [] (LW W z f) res) : XC call (mP 82) 0 [some (vR 32), o1, o2] [] (LW W z f) res := by
  refine xc_b (i' := 4) (ls' := [some (vR 32), some (vI 0), some (vI 0)]) (st' := []) (L' := LW W z f) 4 (bg_82_1 call o1 o2 _) ?_
  exact H
set_option maxRecDepth 100000 in
theorem bg_c4_82_1 (call : QC FA) (x1 : Int32) (x2 : Int32) (L : QH FA) (F : Nat) : xnG call 82 (F + 2) 4 [some (vR 32), some (vI x1), some (vI x2)] [] L = xnG call 82 F 6 [some (vR 32), some (vI x1), some (vI x2)] [vI 144, vI x2] L := rfl
set_option maxRecDepth 100000 in
theorem bg_c4_82_2 (call : QC FA) (x y : Int32) (ls : List (Option PV)) (L : QH FA) (F : Nat) : xnG call 82 (F + 1) 6 ls [vI y, vI x] L = bif pcmp 3 x y then xnG call 82 F 20 ls [] L else xnG call 82 F 7 ls [] L := rfl
set_option maxRecDepth 100000 in
theorem bg_c4_82_3 (call : QC FA) (x1 : Int32) (x2 : Int32) (L : QH FA) (F : Nat) : xnG call 82 (F + 1) 20 [some (vR 32), some (vI x1), some (vI x2)] [] L = xnG call 82 F 21 [some (vR 32), some (vI x1), some (vI x2)] [vI x1] L := rfl
set_option maxRecDepth 100000 in
theorem bg_c4_82_4 (call : QC FA) (x : Int32) (ls : List (Option PV)) (L : QH FA) (F : Nat) : xnG call 82 (F + 1) 21 ls [vI x] L = some (some (vI x), L) := rfl
set_option maxRecDepth 100000 in
theorem bg_c4_82_5 (call : QC FA) (x1 : Int32) (x2 : Int32) (z : Nat → Int32) (f : Nat → FA) (F : Nat) : xnG call 82 (F + 4) 7 [some (vR 32), some (vI x1), some (vI x2)] [] (LW W z f) = xnG call 82 F 11 [some (vR 32), some (vI x1), some (vI x2)] [vI x2, vR 34, vI x1] (LW W z f) := rfl
set_option maxRecDepth 100000 in
theorem bg_c4_82_6 (call : QC FA) (x : Int32) (s0 : Int32) (ls : List (Option PV)) (z : Nat → Int32) (f : Nat → FA) (F : Nat) : xnG call 82 (F + 1) 11 ls [vI x, vR 34, vI s0] (LW W z f) = bif (Nat.beq 0 0 && pin x 144) then xnG call 82 F 12 ls [vI (f 34 (ix x)), vI s0] (LW W z f) else none := rfl
set_option maxRecDepth 100000 in
theorem bg_c4_82_7 (call : QC FA) (x : Int32) (s0 : Int32) (ls : List (Option PV)) (L : QH FA) (F : Nat) : xnG call 82 (F + 1) 12 ls [vI x, vI s0] L = bif pcmp 1 x 0 then xnG call 82 F 15 ls [vI s0] L else xnG call 82 F 13 ls [vI s0] L := rfl
set_option maxRecDepth 100000 in
theorem bg_c4_82_8 (call : QC FA) (x1 : Int32) (x2 : Int32) (s0 : Int32) (L : QH FA) (F : Nat) : xnG call 82 (F + 3) 15 [some (vR 32), some (vI x1), some (vI x2)] [vI s0] L = xnG call 82 F 18 [some (vR 32), some (vI (s0 + 1)), some (vI x2)] [] L := rfl
set_option maxRecDepth 100000 in
theorem bg_c4_82_9 (call : QC FA) (x1 : Int32) (x2 : Int32) (L : QH FA) (F : Nat) : xnG call 82 (F + 1) 18 [some (vR 32), some (vI x1), some (vI x2)] [] L = xnG call 82 F 19 [some (vR 32), some (vI x1), some (vI (x2 + 1))] [] L := rfl
set_option maxRecDepth 100000 in
theorem bg_c4_82_10 (call : QC FA) (x1 : Int32) (x2 : Int32) (L : QH FA) (F : Nat) : xnG call 82 (F + 1) 19 [some (vR 32), some (vI x1), some (vI x2)] [] L = xnG call 82 F 4 [some (vR 32), some (vI x1), some (vI x2)] [] L := rfl
set_option maxRecDepth 100000 in
theorem bg_c4_82_11 (call : QC FA) (x1 : Int32) (x2 : Int32) (s0 : Int32) (L : QH FA) (F : Nat) : xnG call 82 (F + 4) 13 [some (vR 32), some (vI x1), some (vI x2)] [vI s0] L = xnG call 82 F 18 [some (vR 32), some (vI (s0 + 0)), some (vI x2)] [] L := rfl
theorem vcg_c4_82_4 (call : QC FA) (x1 : Int32) (x2 : Int32) (z : Nat → Int32) (f : Nat → FA) (res : Option PV × QH FA) (H : ((144 ≤ I x2 → res = (some (vI x1), LW W z f)) ∧ (I x2 < 144 → (pin x2 144 = true ∧ ((¬ f 34 (ix x2) = 0 → XC call (mP 82) 4 [some (vR 32), some (vI (x1 + 1)), some (vI (x2 + 1))] [] (LW W z f) res) ∧ (f 34 (ix x2) = 0 → XC call (mP 82) 4 [some (vR 32), some (vI (x1 + 0)), some (vI (x2 + 1))] [] (LW W z f) res)))))) : XC call (mP 82) 4 [some (vR 32), some (vI x1), some (vI x2)] [] (LW W z f) res := by
  refine xc_b (i' := 6) (ls' := [some (vR 32), some (vI x1), some (vI x2)]) (st' := [vI 144, vI x2]) (L' := LW W z f) 2 (bg_c4_82_1 call x1 x2 _) ?_
  refine xc_if (it := 20) (ie := 7) (ls' := [some (vR 32), some (vI x1), some (vI x2)]) (st' := []) (bg_c4_82_2 call x2 144 _ _) (fun q1 => ?_) (fun q1 => ?_)
  · have H := H.1 (cI3t q1 rfl rfl)
    refine xc_b (i' := 21) (ls' := [some (vR 32), some (vI x1), some (vI x2)]) (st' := [vI x1]) (L' := LW W z f) 1 (bg_c4_82_3 call x1 x2 _) ?_
    subst H
    exact xc_ret (bg_c4_82_4 call _ _ _)
  · have H := H.2 (cI3f q1 rfl rfl)
    refine xc_b (i' := 11) (ls' := [some (vR 32), some (vI x1), some (vI x2)]) (st' := [vI x2, vR 34, vI x1]) (L' := LW W z f) 4 (bg_c4_82_5 call x1 x2 z f) ?_
    obtain ⟨g1, H⟩ := H
    refine xc_g (i' := 12) (ls' := [some (vR 32), some (vI x1), some (vI x2)]) (st' := [vI (f 34 (ix x2)), vI x1]) (L' := LW W z f) (bg_c4_82_6 call x2 x1 _ z f) (pinG g1) ?_
    refine xc_if (it := 15) (ie := 13) (ls' := [some (vR 32), some (vI x1), some (vI x2)]) (st' := [vI x1]) (bg_c4_82_7 call (f 34 (ix x2)) x1 _ _) (fun q2 => ?_) (fun q2 => ?_)
    · have H := H.1 (cI1t q2)
      refine xc_b (i' := 18) (ls' := [some (vR 32), some (vI (x1 + 1)), some (vI x2)]) (st' := []) (L' := LW W z f) 3 (bg_c4_82_8 call x1 x2 x1 _) ?_
      refine xc_b (i' := 19) (ls' := [some (vR 32), some (vI (x1 + 1)), some (vI (x2 + 1))]) (st' := []) (L' := LW W z f) 1 (bg_c4_82_9 call (x1 + 1) x2 _) ?_
      refine xc_b (i' := 4) (ls' := [some (vR 32), some (vI (x1 + 1)), some (vI (x2 + 1))]) (st' := []) (L' := LW W z f) 1 (bg_c4_82_10 call (x1 + 1) (x2 + 1) _) ?_
      exact H
    · have H := H.2 (cI1f q2)
      refine xc_b (i' := 18) (ls' := [some (vR 32), some (vI (x1 + 0)), some (vI x2)]) (st' := []) (L' := LW W z f) 4 (bg_c4_82_11 call x1 x2 x1 _) ?_
      refine xc_b (i' := 19) (ls' := [some (vR 32), some (vI (x1 + 0)), some (vI (x2 + 1))]) (st' := []) (L' := LW W z f) 1 (bg_c4_82_9 call (x1 + 0) x2 _) ?_
      refine xc_b (i' := 4) (ls' := [some (vR 32), some (vI (x1 + 0)), some (vI (x2 + 1))]) (st' := []) (L' := LW W z f) 1 (bg_c4_82_10 call (x1 + 0) (x2 + 1) _) ?_
      exact H
set_option maxRecDepth 100000 in
theorem bg_81_1 (call : QC FA) (o1 : Option PV) (o2 : Option PV) (L : QH FA) (F : Nat) : xnG call 81 (F + 4) 0 [some (vR 32), o1, o2] [] L = xnG call 81 F 4 [some (vR 32), some (vI 0), some (vI 0)] [] L := rfl
theorem vcg_81_0 (call : QC FA) (o1 : Option PV) (o2 : Option PV) (z : Nat → Int32) (f : Nat → FA) (res : Option PV × QH FA) (H : XC call (mP 81) 4 [some (vR 32), some (vI 0), some (vI 0)] [] (LW W z f) res) : XC call (mP 81) 0 [some (vR 32), o1, o2] [] (LW W z f) res := by
  refine xc_b (i' := 4) (ls' := [some (vR 32), some (vI 0), some (vI 0)]) (st' := []) (L' := LW W z f) 4 (bg_81_1 call o1 o2 _) ?_
  exact H
set_option maxRecDepth 100000 in
theorem bg_c4_81_1 (call : QC FA) (x1 : Int32) (x2 : Int32) (z : Nat → Int32) (f : Nat → FA) (F : Nat) : xnG call 81 (F + 3) 4 [some (vR 32), some (vI x1), some (vI x2)] [] (LW W z f) = xnG call 81 F 7 [some (vR 32), some (vI x1), some (vI x2)] [vI (z 322), vI x2] (LW W z f) := rfl
set_option maxRecDepth 100000 in
theorem bg_c4_81_2 (call : QC FA) (x y : Int32) (ls : List (Option PV)) (L : QH FA) (F : Nat) : xnG call 81 (F + 1) 7 ls [vI y, vI x] L = bif pcmp 3 x y then xnG call 81 F 17 ls [] L else xnG call 81 F 8 ls [] L := rfl
set_option maxRecDepth 100000 in
theorem bg_c4_81_3 (call : QC FA) (x1 : Int32) (x2 : Int32) (L : QH FA) (F : Nat) : xnG call 81 (F + 1) 17 [some (vR 32), some (vI x1), some (vI x2)] [] L = xnG call 81 F 18 [some (vR 32), some (vI x1), some (vI x2)] [vI x1] L := rfl
set_option maxRecDepth 100000 in
theorem bg_c4_81_4 (call : QC FA) (x : Int32) (ls : List (Option PV)) (L : QH FA) (F : Nat) : xnG call 81 (F + 1) 18 ls [vI x] L = some (some (vI x), L) := rfl
set_option maxRecDepth 100000 in
theorem bg_c4_81_5 (call : QC FA) (x1 : Int32) (x2 : Int32) (L : QH FA) (F : Nat) : xnG call 81 (F + 4) 8 [some (vR 32), some (vI x1), some (vI x2)] [] L = xnG call 81 F 12 [some (vR 32), some (vI x1), some (vI x2)] [vI 5, vI x2, vR 32, vI x1] L := rfl
set_option maxRecDepth 100000 in
theorem bg_c4_81_6 (call : QC FA) (a0 : Int32) (a1 : Int32) (s0 : Int32) (ls : List (Option PV)) (z : Nat → Int32) (f : Nat → FA) (F : Nat) : xnG call 81 (F + 1) 12 ls [vI a1, vI a0, vR 32, vI s0] (LW W z f) = cbd (call 13 [vR 32, vI a0, vI a1] (LW W z f)) (fun r L' => xnG call 81 F 13 ls (r.toList ++ [vI s0]) L') := pcY (ih := xnG call 81 F) (call := call) (a := 13) (b := 2) (v := 0) (t := 13) (x := 32) (ls := ls) (As := [vI a0, vI a1]) (st' := [vI s0]) (L := LW W z f) rfl rfl rfl
set_option maxRecDepth 100000 in
theorem bg_c4_81_7 (call : QC FA) (x1 : Int32) (x2 : Int32) (s0 : Int32) (s1 : Int32) (L : QH FA) (F : Nat) : xnG call 81 (F + 2) 13 [some (vR 32), some (vI x1), some (vI x2)] [vI s0, vI s1] L = xnG call 81 F 15 [some (vR 32), some (vI (s1 + s0)), some (vI x2)] [] L := rfl
set_option maxRecDepth 100000 in
theorem bg_c4_81_8 (call : QC FA) (x1 : Int32) (x2 : Int32) (L : QH FA) (F : Nat) : xnG call 81 (F + 1) 15 [some (vR 32), some (vI x1), some (vI x2)] [] L = xnG call 81 F 16 [some (vR 32), some (vI x1), some (vI (x2 + 1))] [] L := rfl
set_option maxRecDepth 100000 in
theorem bg_c4_81_9 (call : QC FA) (x1 : Int32) (x2 : Int32) (L : QH FA) (F : Nat) : xnG call 81 (F + 1) 16 [some (vR 32), some (vI x1), some (vI x2)] [] L = xnG call 81 F 4 [some (vR 32), some (vI x1), some (vI x2)] [] L := rfl
theorem vcg_c4_81_4 (call : QC FA) (x1 : Int32) (x2 : Int32) (z : Nat → Int32) (f : Nat → FA) (res : Option PV × QH FA) (H : ((I (z 322) ≤ I x2 → res = (some (vI x1), LW W z f)) ∧ (I x2 < I (z 322) → (∃ (r1 : Int32) (z1 : Nat → Int32) (f1 : Nat → FA), call 13 [vR 32, vI x2, vI 5] (LW W z f) = some (some (vI r1), LW W z1 f1) ∧ XC call (mP 81) 4 [some (vR 32), some (vI (x1 + r1)), some (vI (x2 + 1))] [] (LW W z1 f1) res)))) : XC call (mP 81) 4 [some (vR 32), some (vI x1), some (vI x2)] [] (LW W z f) res := by
  refine xc_b (i' := 7) (ls' := [some (vR 32), some (vI x1), some (vI x2)]) (st' := [vI (z 322), vI x2]) (L' := LW W z f) 3 (bg_c4_81_1 call x1 x2 z f) ?_
  refine xc_if (it := 17) (ie := 8) (ls' := [some (vR 32), some (vI x1), some (vI x2)]) (st' := []) (bg_c4_81_2 call x2 (z 322) _ _) (fun q1 => ?_) (fun q1 => ?_)
  · have H := H.1 (cI3t q1 rfl rfl)
    refine xc_b (i' := 18) (ls' := [some (vR 32), some (vI x1), some (vI x2)]) (st' := [vI x1]) (L' := LW W z f) 1 (bg_c4_81_3 call x1 x2 _) ?_
    subst H
    exact xc_ret (bg_c4_81_4 call _ _ _)
  · have H := H.2 (cI3f q1 rfl rfl)
    refine xc_b (i' := 12) (ls' := [some (vR 32), some (vI x1), some (vI x2)]) (st' := [vI 5, vI x2, vR 32, vI x1]) (L' := LW W z f) 4 (bg_c4_81_5 call x1 x2 _) ?_
    obtain ⟨r1, z1, f1, hc, H⟩ := H
    refine xc_call (t := 13) (ls' := [some (vR 32), some (vI x1), some (vI x2)]) (st' := [vI x1]) (bg_c4_81_6 call x2 5 x1 _ z f) hc ?_
    show XC call (mP 81) 13 [some (vR 32), some (vI x1), some (vI x2)] [vI r1, vI x1] (LW W z1 f1) res
    refine xc_b (i' := 15) (ls' := [some (vR 32), some (vI (x1 + r1)), some (vI x2)]) (st' := []) (L' := LW W z1 f1) 2 (bg_c4_81_7 call x1 x2 r1 x1 _) ?_
    refine xc_b (i' := 16) (ls' := [some (vR 32), some (vI (x1 + r1)), some (vI (x2 + 1))]) (st' := []) (L' := LW W z1 f1) 1 (bg_c4_81_8 call (x1 + r1) x2 _) ?_
    refine xc_b (i' := 4) (ls' := [some (vR 32), some (vI (x1 + r1)), some (vI (x2 + 1))]) (st' := []) (L' := LW W z1 f1) 1 (bg_c4_81_9 call (x1 + r1) (x2 + 1) _) ?_
    exact H
set_option maxRecDepth 100000 in
theorem bg_161_1 (call : QC FA) (x1 : Int32) (x2 : Int32) (o3 : Option PV) (L : QH FA) (F : Nat) : xnG call 161 (F + 2) 0 [some (vR 0), some (vI x1), some (vI x2), o3] [] L = xnG call 161 F 2 [some (vR 0), some (vI x1), some (vI x2), o3] [vI 1, vI x1] L := rfl
set_option maxRecDepth 100000 in
theorem bg_161_2 (call : QC FA) (x y : Int32) (ls : List (Option PV)) (L : QH FA) (F : Nat) : xnG call 161 (F + 1) 2 ls [vI y, vI x] L = bif pcmp 2 x y then xnG call 161 F 11 ls [] L else xnG call 161 F 3 ls [] L := rfl
set_option maxRecDepth 100000 in
theorem bg_161_3 (call : QC FA) (x1 : Int32) (x2 : Int32) (o3 : Option PV) (L : QH FA) (F : Nat) : xnG call 161 (F + 1) 11 [some (vR 0), some (vI x1), some (vI x2), o3] [] L = xnG call 161 F 12 [some (vR 0), some (vI x1), some (vI x2), o3] [vI ((-100000))] L := rfl
set_option maxRecDepth 100000 in
theorem bg_161_4 (call : QC FA) (x : Int32) (ls : List (Option PV)) (L : QH FA) (F : Nat) : xnG call 161 (F + 1) 12 ls [vI x] L = some (some (vI x), L) := rfl
set_option maxRecDepth 100000 in
theorem bg_161_5 (call : QC FA) (x1 : Int32) (x2 : Int32) (o3 : Option PV) (L : QH FA) (F : Nat) : xnG call 161 (F + 2) 3 [some (vR 0), some (vI x1), some (vI x2), o3] [] L = xnG call 161 F 5 [some (vR 0), some (vI x1), some (vI x2), o3] [vI 60, vI x1] L := rfl
set_option maxRecDepth 100000 in
theorem bg_161_6 (call : QC FA) (x y : Int32) (ls : List (Option PV)) (L : QH FA) (F : Nat) : xnG call 161 (F + 1) 5 ls [vI y, vI x] L = bif pcmp 4 x y then xnG call 161 F 11 ls [] L else xnG call 161 F 6 ls [] L := rfl
set_option maxRecDepth 100000 in
theorem bg_161_7 (call : QC FA) (x1 : Int32) (x2 : Int32) (o3 : Option PV) (L : QH FA) (F : Nat) : xnG call 161 (F + 1) 6 [some (vR 0), some (vI x1), some (vI x2), o3] [] L = xnG call 161 F 7 [some (vR 0), some (vI x1), some (vI x2), o3] [vI x2] L := rfl
set_option maxRecDepth 100000 in
theorem bg_161_8 (call : QC FA) (x : Int32) (ls : List (Option PV)) (L : QH FA) (F : Nat) : xnG call 161 (F + 1) 7 ls [vI x] L = bif pcmp 2 x 0 then xnG call 161 F 11 ls [] L else xnG call 161 F 8 ls [] L := rfl
set_option maxRecDepth 100000 in
theorem bg_161_9 (call : QC FA) (x1 : Int32) (x2 : Int32) (o3 : Option PV) (L : QH FA) (F : Nat) : xnG call 161 (F + 2) 8 [some (vR 0), some (vI x1), some (vI x2), o3] [] L = xnG call 161 F 10 [some (vR 0), some (vI x1), some (vI x2), o3] [vI 3, vI x2] L := rfl
set_option maxRecDepth 100000 in
theorem bg_161_10 (call : QC FA) (x y : Int32) (ls : List (Option PV)) (L : QH FA) (F : Nat) : xnG call 161 (F + 1) 10 ls [vI y, vI x] L = bif pcmp 5 x y then xnG call 161 F 13 ls [] L else xnG call 161 F 11 ls [] L := rfl
set_option maxRecDepth 100000 in
theorem bg_161_11 (call : QC FA) (x1 : Int32) (x2 : Int32) (o3 : Option PV) (z : Nat → Int32) (f : Nat → FA) (F : Nat) : xnG call 161 (F + 5) 13 [some (vR 0), some (vI x1), some (vI x2), o3] [] (LW W z f) = xnG call 161 F 18 [some (vR 0), some (vI x1), some (vI x2), o3] [vR 2, vR 32] (LW W z f) := rfl
set_option maxRecDepth 100000 in
theorem bg_161_12 (call : QC FA) (ls : List (Option PV)) (z : Nat → Int32) (f : Nat → FA) (F : Nat) : xnG call 161 (F + 1) 18 ls [vR 2, vR 32] (LW W z f) = cbd (call 90 [vR 32, vR 2] (LW W z f)) (fun r L' => xnG call 161 F 19 ls (r.toList ++ []) L') := pcY (ih := xnG call 161 F) (call := call) (a := 90) (b := 1) (v := 0) (t := 19) (x := 32) (ls := ls) (As := [vR 2]) (st' := []) (L := LW W z f) rfl rfl rfl
set_option maxRecDepth 100000 in
theorem bg_161_13 (call : QC FA) (x1 : Int32) (x2 : Int32) (o3 : Option PV) (L : QH FA) (F : Nat) : xnG call 161 (F + 2) 19 [some (vR 0), some (vI x1), some (vI x2), o3] [] L = xnG call 161 F 21 [some (vR 0), some (vI x1), some (vI x2), some (vI 0)] [] L := rfl
theorem vcg_161_0 (call : QC FA) (x1 : Int32) (x2 : Int32) (o3 : Option PV) (z : Nat → Int32) (f : Nat → FA) (res : Option PV × QH FA) (H : ((I x1 < 1 → res = (some (vI ((-100000))), LW W z f)) ∧ (1 ≤ I x1 → ((60 < I x1 → res = (some (vI ((-100000))), LW W z f)) ∧ (I x1 ≤ 60 → ((I x2 < 0 → res = (some (vI ((-100000))), LW W z f)) ∧ (0 ≤ I x2 → ((I x2 ≤ 3 → (∃ (z1 : Nat → Int32) (f1 : Nat → FA), call 90 [vR 32, vR 2] (LW W z f) = some (none, LW W z1 f1) ∧ XC call (mP 161) 21 [some (vR 0), some (vI x1), some (vI x2), some (vI 0)] [] (LW W z1 f1) res)) ∧ (3 < I x2 → res = (some (vI ((-100000))), LW W z f)))))))))) : XC call (mP 161) 0 [some (vR 0), some (vI x1), some (vI x2), o3] [] (LW W z f) res := by
  refine xc_b (i' := 2) (ls' := [some (vR 0), some (vI x1), some (vI x2), o3]) (st' := [vI 1, vI x1]) (L' := LW W z f) 2 (bg_161_1 call x1 x2 o3 _) ?_
  refine xc_if (it := 11) (ie := 3) (ls' := [some (vR 0), some (vI x1), some (vI x2), o3]) (st' := []) (bg_161_2 call x1 1 _ _) (fun q1 => ?_) (fun q1 => ?_)
  · have H := H.1 (cI2t q1 rfl rfl)
    refine xc_b (i' := 12) (ls' := [some (vR 0), some (vI x1), some (vI x2), o3]) (st' := [vI ((-100000))]) (L' := LW W z f) 1 (bg_161_3 call x1 x2 o3 _) ?_
    subst H
    exact xc_ret (bg_161_4 call _ _ _)
  · have H := H.2 (cI2f q1 rfl rfl)
    refine xc_b (i' := 5) (ls' := [some (vR 0), some (vI x1), some (vI x2), o3]) (st' := [vI 60, vI x1]) (L' := LW W z f) 2 (bg_161_5 call x1 x2 o3 _) ?_
    refine xc_if (it := 11) (ie := 6) (ls' := [some (vR 0), some (vI x1), some (vI x2), o3]) (st' := []) (bg_161_6 call x1 60 _ _) (fun q2 => ?_) (fun q2 => ?_)
    · have H := H.1 (cI4t q2 rfl rfl)
      refine xc_b (i' := 12) (ls' := [some (vR 0), some (vI x1), some (vI x2), o3]) (st' := [vI ((-100000))]) (L' := LW W z f) 1 (bg_161_3 call x1 x2 o3 _) ?_
      subst H
      exact xc_ret (bg_161_4 call _ _ _)
    · have H := H.2 (cI4f q2 rfl rfl)
      refine xc_b (i' := 7) (ls' := [some (vR 0), some (vI x1), some (vI x2), o3]) (st' := [vI x2]) (L' := LW W z f) 1 (bg_161_7 call x1 x2 o3 _) ?_
      refine xc_if (it := 11) (ie := 8) (ls' := [some (vR 0), some (vI x1), some (vI x2), o3]) (st' := []) (bg_161_8 call x2 _ _) (fun q3 => ?_) (fun q3 => ?_)
      · have H := H.1 (cI2t q3 rfl rfl)
        refine xc_b (i' := 12) (ls' := [some (vR 0), some (vI x1), some (vI x2), o3]) (st' := [vI ((-100000))]) (L' := LW W z f) 1 (bg_161_3 call x1 x2 o3 _) ?_
        subst H
        exact xc_ret (bg_161_4 call _ _ _)
      · have H := H.2 (cI2f q3 rfl rfl)
        refine xc_b (i' := 10) (ls' := [some (vR 0), some (vI x1), some (vI x2), o3]) (st' := [vI 3, vI x2]) (L' := LW W z f) 2 (bg_161_9 call x1 x2 o3 _) ?_
        refine xc_if (it := 13) (ie := 11) (ls' := [some (vR 0), some (vI x1), some (vI x2), o3]) (st' := []) (bg_161_10 call x2 3 _ _) (fun q4 => ?_) (fun q4 => ?_)
        · have H := H.1 (cI5t q4 rfl rfl)
          refine xc_b (i' := 18) (ls' := [some (vR 0), some (vI x1), some (vI x2), o3]) (st' := [vR 2, vR 32]) (L' := LW W z f) 5 (bg_161_11 call x1 x2 o3 z f) ?_
          obtain ⟨z1, f1, hc, H⟩ := H
          refine xc_call (t := 19) (ls' := [some (vR 0), some (vI x1), some (vI x2), o3]) (st' := []) (bg_161_12 call _ z f) hc ?_
          show XC call (mP 161) 19 [some (vR 0), some (vI x1), some (vI x2), o3] [] (LW W z1 f1) res
          refine xc_b (i' := 21) (ls' := [some (vR 0), some (vI x1), some (vI x2), some (vI 0)]) (st' := []) (L' := LW W z1 f1) 2 (bg_161_13 call x1 x2 o3 _) ?_
          exact H
        · have H := H.2 (cI5f q4 rfl rfl)
          refine xc_b (i' := 12) (ls' := [some (vR 0), some (vI x1), some (vI x2), o3]) (st' := [vI ((-100000))]) (L' := LW W z f) 1 (bg_161_3 call x1 x2 o3 _) ?_
          subst H
          exact xc_ret (bg_161_4 call _ _ _)
set_option maxRecDepth 100000 in
theorem bg_c21_161_1 (call : QC FA) (x1 : Int32) (x2 : Int32) (x3 : Int32) (L : QH FA) (F : Nat) : xnG call 161 (F + 2) 21 [some (vR 0), some (vI x1), some (vI x2), some (vI x3)] [] L = xnG call 161 F 23 [some (vR 0), some (vI x1), some (vI x2), some (vI x3)] [vI x1, vI x3] L := rfl
set_option maxRecDepth 100000 in
theorem bg_c21_161_2 (call : QC FA) (x y : Int32) (ls : List (Option PV)) (L : QH FA) (F : Nat) : xnG call 161 (F + 1) 23 ls [vI y, vI x] L = bif pcmp 3 x y then xnG call 161 F 30 ls [] L else xnG call 161 F 24 ls [] L := rfl
set_option maxRecDepth 100000 in
theorem bg_c21_161_3 (call : QC FA) (x1 : Int32) (x2 : Int32) (x3 : Int32) (L : QH FA) (F : Nat) : xnG call 161 (F + 1) 30 [some (vR 0), some (vI x1), some (vI x2), some (vI x3)] [] L = xnG call 161 F 31 [some (vR 0), some (vI x1), some (vI x2), some (vI x3)] [vI x2] L := rfl
set_option maxRecDepth 100000 in
theorem bg_c21_161_4 (call : QC FA) (x : Int32) (hx : x = 0) (ls : List (Option PV)) (L : QH FA) (F : Nat) : xnG call 161 (F + 1) 31 ls [vI x] L = xnG call 161 F 32 ls [] L := by
  subst hx
  exact pwa_ (ih := xnG call 161 F) (a := 0) (b := 2) (tg := [44, 32, 36, 40]) (x := 0) (st := []) (by decide) rfl
set_option maxRecDepth 100000 in
theorem bg_c21_161_5 (call : QC FA) (x1 : Int32) (x2 : Int32) (x3 : Int32) (z : Nat → Int32) (f : Nat → FA) (F : Nat) : xnG call 161 (F + 3) 32 [some (vR 0), some (vI x1), some (vI x2), some (vI x3)] [] (LW W z f) = xnG call 161 F 35 [some (vR 0), some (vI x1), some (vI x2), some (vI x3)] [vI (z 326)] (LW W z f) := rfl
set_option maxRecDepth 100000 in
theorem bg_c21_161_6 (call : QC FA) (x : Int32) (ls : List (Option PV)) (L : QH FA) (F : Nat) : xnG call 161 (F + 1) 35 ls [vI x] L = some (some (vI x), L) := rfl
set_option maxRecDepth 100000 in
theorem bg_c21_161_7 (call : QC FA) (x : Int32) (hx : x = 1) (ls : List (Option PV)) (L : QH FA) (F : Nat) : xnG call 161 (F + 1) 31 ls [vI x] L = xnG call 161 F 36 ls [] L := by
  subst hx
  exact pwa_ (ih := xnG call 161 F) (a := 0) (b := 2) (tg := [44, 32, 36, 40]) (x := 1) (st := []) (by decide) rfl
set_option maxRecDepth 100000 in
theorem bg_c21_161_8 (call : QC FA) (x1 : Int32) (x2 : Int32) (x3 : Int32) (z : Nat → Int32) (f : Nat → FA) (F : Nat) : xnG call 161 (F + 2) 36 [some (vR 0), some (vI x1), some (vI x2), some (vI x3)] [] (LW W z f) = xnG call 161 F 38 [some (vR 0), some (vI x1), some (vI x2), some (vI x3)] [vR 32] (LW W z f) := rfl
set_option maxRecDepth 100000 in
theorem bg_c21_161_9 (call : QC FA) (ls : List (Option PV)) (z : Nat → Int32) (f : Nat → FA) (F : Nat) : xnG call 161 (F + 1) 38 ls [vR 32] (LW W z f) = cbd (call 82 [vR 32] (LW W z f)) (fun r L' => xnG call 161 F 39 ls (r.toList ++ []) L') := pcY (ih := xnG call 161 F) (call := call) (a := 82) (b := 0) (v := 0) (t := 39) (x := 32) (ls := ls) (As := []) (st' := []) (L := LW W z f) rfl rfl rfl
set_option maxRecDepth 100000 in
theorem bg_c21_161_10 (call : QC FA) (x : Int32) (ls : List (Option PV)) (L : QH FA) (F : Nat) : xnG call 161 (F + 1) 39 ls [vI x] L = some (some (vI x), L) := rfl
set_option maxRecDepth 100000 in
theorem bg_c21_161_11 (call : QC FA) (x : Int32) (hx : x = 2) (ls : List (Option PV)) (L : QH FA) (F : Nat) : xnG call 161 (F + 1) 31 ls [vI x] L = xnG call 161 F 40 ls [] L := by
  subst hx
  exact pwa_ (ih := xnG call 161 F) (a := 0) (b := 2) (tg := [44, 32, 36, 40]) (x := 2) (st := []) (by decide) rfl
set_option maxRecDepth 100000 in
theorem bg_c21_161_12 (call : QC FA) (x1 : Int32) (x2 : Int32) (x3 : Int32) (z : Nat → Int32) (f : Nat → FA) (F : Nat) : xnG call 161 (F + 2) 40 [some (vR 0), some (vI x1), some (vI x2), some (vI x3)] [] (LW W z f) = xnG call 161 F 42 [some (vR 0), some (vI x1), some (vI x2), some (vI x3)] [vR 35] (LW W z f) := rfl
set_option maxRecDepth 100000 in
theorem bg_c21_161_13 (call : QC FA) (ls : List (Option PV)) (z : Nat → Int32) (f : Nat → FA) (F : Nat) : xnG call 161 (F + 1) 42 ls [vR 35] (LW W z f) = cbd (call 5 [vR 35] (LW W z f)) (fun r L' => xnG call 161 F 43 ls (r.toList ++ []) L') := pcY (ih := xnG call 161 F) (call := call) (a := 5) (b := 0) (v := 1) (t := 43) (x := 35) (ls := ls) (As := []) (st' := []) (L := LW W z f) rfl rfl rfl
set_option maxRecDepth 100000 in
theorem bg_c21_161_14 (call : QC FA) (x : Int32) (ls : List (Option PV)) (L : QH FA) (F : Nat) : xnG call 161 (F + 1) 43 ls [vI x] L = some (some (vI x), L) := rfl
set_option maxRecDepth 100000 in
theorem bg_c21_161_15 (call : QC FA) (x : Int32) (hx : I x < 0 ∨ 2 < I x) (ls : List (Option PV)) (L : QH FA) (F : Nat) : xnG call 161 (F + 1) 31 ls [vI x] L = xnG call 161 F 44 ls [] L := pwd_ (ih := xnG call 161 F) (a := 0) (b := 2) (tg := [44, 32, 36, 40]) (st := []) hx rfl
set_option maxRecDepth 100000 in
theorem bg_c21_161_16 (call : QC FA) (x1 : Int32) (x2 : Int32) (x3 : Int32) (z : Nat → Int32) (f : Nat → FA) (F : Nat) : xnG call 161 (F + 2) 44 [some (vR 0), some (vI x1), some (vI x2), some (vI x3)] [] (LW W z f) = xnG call 161 F 46 [some (vR 0), some (vI x1), some (vI x2), some (vI x3)] [vR 32] (LW W z f) := rfl
set_option maxRecDepth 100000 in
theorem bg_c21_161_17 (call : QC FA) (ls : List (Option PV)) (z : Nat → Int32) (f : Nat → FA) (F : Nat) : xnG call 161 (F + 1) 46 ls [vR 32] (LW W z f) = cbd (call 81 [vR 32] (LW W z f)) (fun r L' => xnG call 161 F 47 ls (r.toList ++ []) L') := pcY (ih := xnG call 161 F) (call := call) (a := 81) (b := 0) (v := 0) (t := 47) (x := 32) (ls := ls) (As := []) (st' := []) (L := LW W z f) rfl rfl rfl
set_option maxRecDepth 100000 in
theorem bg_c21_161_18 (call : QC FA) (x : Int32) (ls : List (Option PV)) (L : QH FA) (F : Nat) : xnG call 161 (F + 1) 47 ls [vI x] L = some (some (vI x), L) := rfl
set_option maxRecDepth 100000 in
theorem bg_c21_161_19 (call : QC FA) (x1 : Int32) (x2 : Int32) (x3 : Int32) (z : Nat → Int32) (f : Nat → FA) (F : Nat) : xnG call 161 (F + 2) 24 [some (vR 0), some (vI x1), some (vI x2), some (vI x3)] [] (LW W z f) = xnG call 161 F 26 [some (vR 0), some (vI x1), some (vI x2), some (vI x3)] [vR 35] (LW W z f) := rfl
set_option maxRecDepth 100000 in
theorem bg_c21_161_20 (call : QC FA) (ls : List (Option PV)) (z : Nat → Int32) (f : Nat → FA) (F : Nat) : xnG call 161 (F + 1) 26 ls [vR 35] (LW W z f) = cbd (call 98 [vR 35] (LW W z f)) (fun r L' => xnG call 161 F 27 ls (r.toList ++ []) L') := pcY (ih := xnG call 161 F) (call := call) (a := 98) (b := 0) (v := 1) (t := 27) (x := 35) (ls := ls) (As := []) (st' := []) (L := LW W z f) rfl rfl rfl
set_option maxRecDepth 100000 in
theorem bg_c21_161_21 (call : QC FA) (x1 : Int32) (x2 : Int32) (x3 : Int32) (s0 : Int32) (L : QH FA) (F : Nat) : xnG call 161 (F + 1) 27 [some (vR 0), some (vI x1), some (vI x2), some (vI x3)] [vI s0] L = xnG call 161 F 28 [some (vR 0), some (vI x1), some (vI x2), some (vI x3)] [] L := rfl
set_option maxRecDepth 100000 in
theorem bg_c21_161_22 (call : QC FA) (x1 : Int32) (x2 : Int32) (x3 : Int32) (L : QH FA) (F : Nat) : xnG call 161 (F + 1) 28 [some (vR 0), some (vI x1), some (vI x2), some (vI x3)] [] L = xnG call 161 F 29 [some (vR 0), some (vI x1), some (vI x2), some (vI (x3 + 1))] [] L := rfl
set_option maxRecDepth 100000 in
theorem bg_c21_161_23 (call : QC FA) (x1 : Int32) (x2 : Int32) (x3 : Int32) (L : QH FA) (F : Nat) : xnG call 161 (F + 1) 29 [some (vR 0), some (vI x1), some (vI x2), some (vI x3)] [] L = xnG call 161 F 21 [some (vR 0), some (vI x1), some (vI x2), some (vI x3)] [] L := rfl
theorem vcg_c21_161_21 (call : QC FA) (x1 : Int32) (x2 : Int32) (x3 : Int32) (z : Nat → Int32) (f : Nat → FA) (res : Option PV × QH FA) (H : ((I x1 ≤ I x3 → ((x2 = 0 → res = (some (vI (z 326)), LW W z f)) ∧ (¬ x2 = 0 → ((x2 = 1 → (∃ (r1 : Int32) (z1 : Nat → Int32) (f1 : Nat → FA), call 82 [vR 32] (LW W z f) = some (some (vI r1), LW W z1 f1) ∧ res = (some (vI r1), LW W z1 f1))) ∧ (¬ x2 = 1 → ((x2 = 2 → (∃ (r2 : Int32) (z2 : Nat → Int32) (f2 : Nat → FA), call 5 [vR 35] (LW W z f) = some (some (vI r2), LW W z2 f2) ∧ res = (some (vI r2), LW W z2 f2))) ∧ (¬ x2 = 2 → (∃ (r3 : Int32) (z3 : Nat → Int32) (f3 : Nat → FA), call 81 [vR 32] (LW W z f) = some (some (vI r3), LW W z3 f3) ∧ res = (some (vI r3), LW W z3 f3))))))))) ∧ (I x3 < I x1 → (∃ (r4 : Int32) (z4 : Nat → Int32) (f4 : Nat → FA), call 98 [vR 35] (LW W z f) = some (some (vI r4), LW W z4 f4) ∧ XC call (mP 161) 21 [some (vR 0), some (vI x1), some (vI x2), some (vI (x3 + 1))] [] (LW W z4 f4) res)))) : XC call (mP 161) 21 [some (vR 0), some (vI x1), some (vI x2), some (vI x3)] [] (LW W z f) res := by
  refine xc_b (i' := 23) (ls' := [some (vR 0), some (vI x1), some (vI x2), some (vI x3)]) (st' := [vI x1, vI x3]) (L' := LW W z f) 2 (bg_c21_161_1 call x1 x2 x3 _) ?_
  refine xc_if (it := 30) (ie := 24) (ls' := [some (vR 0), some (vI x1), some (vI x2), some (vI x3)]) (st' := []) (bg_c21_161_2 call x3 x1 _ _) (fun q1 => ?_) (fun q1 => ?_)
  · have H := H.1 (cI3t q1 rfl rfl)
    refine xc_b (i' := 31) (ls' := [some (vR 0), some (vI x1), some (vI x2), some (vI x3)]) (st' := [vI x2]) (L' := LW W z f) 1 (bg_c21_161_3 call x1 x2 x3 _) ?_
    by_cases q2 : x2 = 0
    · have H := H.1 q2
      refine xc_b (i' := 32) (ls' := [some (vR 0), some (vI x1), some (vI x2), some (vI x3)]) (st' := []) (L' := LW W z f) 1 (bg_c21_161_4 call x2 q2 _ _) ?_
      refine xc_b (i' := 35) (ls' := [some (vR 0), some (vI x1), some (vI x2), some (vI x3)]) (st' := [vI (z 326)]) (L' := LW W z f) 3 (bg_c21_161_5 call x1 x2 x3 z f) ?_
      subst H
      exact xc_ret (bg_c21_161_6 call _ _ _)
    · have H := H.2 q2
      by_cases q3 : x2 = 1
      · have H := H.1 q3
        refine xc_b (i' := 36) (ls' := [some (vR 0), some (vI x1), some (vI x2), some (vI x3)]) (st' := []) (L' := LW W z f) 1 (bg_c21_161_7 call x2 q3 _ _) ?_
        refine xc_b (i' := 38) (ls' := [some (vR 0), some (vI x1), some (vI x2), some (vI x3)]) (st' := [vR 32]) (L' := LW W z f) 2 (bg_c21_161_8 call x1 x2 x3 z f) ?_
        obtain ⟨r1, z1, f1, hc, H⟩ := H
        refine xc_call (t := 39) (ls' := [some (vR 0), some (vI x1), some (vI x2), some (vI x3)]) (st' := []) (bg_c21_161_9 call _ z f) hc ?_
        show XC call (mP 161) 39 [some (vR 0), some (vI x1), some (vI x2), some (vI x3)] [vI r1] (LW W z1 f1) res
        subst H
        exact xc_ret (bg_c21_161_10 call _ _ _)
      · have H := H.2 q3
        by_cases q4 : x2 = 2
        · have H := H.1 q4
          refine xc_b (i' := 40) (ls' := [some (vR 0), some (vI x1), some (vI x2), some (vI x3)]) (st' := []) (L' := LW W z f) 1 (bg_c21_161_11 call x2 q4 _ _) ?_
          refine xc_b (i' := 42) (ls' := [some (vR 0), some (vI x1), some (vI x2), some (vI x3)]) (st' := [vR 35]) (L' := LW W z f) 2 (bg_c21_161_12 call x1 x2 x3 z f) ?_
          obtain ⟨r2, z2, f2, hc, H⟩ := H
          refine xc_call (t := 43) (ls' := [some (vR 0), some (vI x1), some (vI x2), some (vI x3)]) (st' := []) (bg_c21_161_13 call _ z f) hc ?_
          show XC call (mP 161) 43 [some (vR 0), some (vI x1), some (vI x2), some (vI x3)] [vI r2] (LW W z2 f2) res
          subst H
          exact xc_ret (bg_c21_161_14 call _ _ _)
        · have H := H.2 q4
          refine xc_b (i' := 44) (ls' := [some (vR 0), some (vI x1), some (vI x2), some (vI x3)]) (st' := []) (L' := LW W z f) 1 (bg_c21_161_15 call x2 (by have := (show I x2 ≠ 0 from ne_I q2); have := (show I x2 ≠ 1 from ne_I q3); have := (show I x2 ≠ 2 from ne_I q4); omega) _ _) ?_
          refine xc_b (i' := 46) (ls' := [some (vR 0), some (vI x1), some (vI x2), some (vI x3)]) (st' := [vR 32]) (L' := LW W z f) 2 (bg_c21_161_16 call x1 x2 x3 z f) ?_
          obtain ⟨r3, z3, f3, hc, H⟩ := H
          refine xc_call (t := 47) (ls' := [some (vR 0), some (vI x1), some (vI x2), some (vI x3)]) (st' := []) (bg_c21_161_17 call _ z f) hc ?_
          show XC call (mP 161) 47 [some (vR 0), some (vI x1), some (vI x2), some (vI x3)] [vI r3] (LW W z3 f3) res
          subst H
          exact xc_ret (bg_c21_161_18 call _ _ _)
  · have H := H.2 (cI3f q1 rfl rfl)
    refine xc_b (i' := 26) (ls' := [some (vR 0), some (vI x1), some (vI x2), some (vI x3)]) (st' := [vR 35]) (L' := LW W z f) 2 (bg_c21_161_19 call x1 x2 x3 z f) ?_
    obtain ⟨r4, z4, f4, hc, H⟩ := H
    refine xc_call (t := 27) (ls' := [some (vR 0), some (vI x1), some (vI x2), some (vI x3)]) (st' := []) (bg_c21_161_20 call _ z f) hc ?_
    show XC call (mP 161) 27 [some (vR 0), some (vI x1), some (vI x2), some (vI x3)] [vI r4] (LW W z4 f4) res
    refine xc_b (i' := 28) (ls' := [some (vR 0), some (vI x1), some (vI x2), some (vI x3)]) (st' := []) (L' := LW W z4 f4) 1 (bg_c21_161_21 call x1 x2 x3 r4 _) ?_
    refine xc_b (i' := 29) (ls' := [some (vR 0), some (vI x1), some (vI x2), some (vI (x3 + 1))]) (st' := []) (L' := LW W z4 f4) 1 (bg_c21_161_22 call x1 x2 x3 _) ?_
    refine xc_b (i' := 21) (ls' := [some (vR 0), some (vI x1), some (vI x2), some (vI (x3 + 1))]) (st' := []) (L' := LW W z4 f4) 1 (bg_c21_161_23 call x1 x2 (x3 + 1) _) ?_
    exact H
/-- how many marks there are in thought -/
theorem simCount (d d' : Nat) {nv : Nat} {z zr : Nat → Int32} {f r : Nat → FA} (h : RLh nv z f zr r) : ∃ y, xcall (d + 1) 82 [vR 32] (LW W z f) = some (some (vI y), LW W z f) ∧ mcall (d' + 3) 237 [vR 0] (LR zr r) = some (some (vI y), LR zr r) := by
  have hmm := h.1.2.2.2.1
  have hn := h.1.1
  have lp : ∀ t i, i + t = 144 → ∀ x : Int32, ∃ y, XC (xcall d) (mP 82) 4 [some (vR 32), some (vI x), some (vI (nI i))] [] (LW W z f) (some (vI y), LW W z f) ∧ RC (mcall (d' + 2)) (mP 237) 4 [some (vR 0), some (vI x), some (vI (nI i))] [] (LR zr r) (some (vI y), LR zr r) := by
    intro t
    induction t with
    | zero =>
      intro i hi x
      obtain rfl : i = 144 := by omega
      exact ⟨x, vcg_c4_82_4 _ _ _ _ _ _ ⟨fun _ => rfl, fun q => absurd q (by decide)⟩, vcc4_237_4 d' _ _ _ _ _ ⟨fun _ => rfl, fun q => absurd q (by decide)⟩⟩
    | succ t ih =>
      intro i hi x
      have i144 : i < 144 := by omega
      have ii : I (nI i) = i := I_nI (by omega)
      have e1 : nI i + 1 = nI (i + 1) := nI_add i 1
      have xi : ix (nI i) = i := ix_nI (by omega)
      have c2 := mIs (d' + 1) i144 (z := zr) (f := r)
      by_cases cm : f 34 i = 0
      · have cm' : ¬ 0 < I (r 1 (67 + i)) := fun q => ((hmm i i144).iff hn).mpr q cm
        rw [mk1_f cm'] at c2
        obtain ⟨y, k1, k2⟩ := ih (i + 1) (by omega) x
        exact ⟨y, vcg_c4_82_4 _ _ _ _ _ _ ⟨fun q => by omega, fun _ => ⟨pin_nI (by omega) (by omega), fun q => absurd (by rw [xi]; exact cm) q, fun _ => by rw [e1, Int32.add_zero]; exact k1⟩⟩, vcc4_237_4 d' _ _ _ _ _ ⟨fun q => by omega, fun _ => ⟨_, _, _, c2, fun _ => by rw [e1]; exact k2, fun q => absurd rfl q⟩⟩⟩
      · have cm' : 0 < I (r 1 (67 + i)) := ((hmm i i144).iff hn).mp cm
        rw [mk1_t cm'] at c2
        obtain ⟨y, k1, k2⟩ := ih (i + 1) (by omega) (x + 1)
        exact ⟨y, vcg_c4_82_4 _ _ _ _ _ _ ⟨fun q => by omega, fun _ => ⟨pin_nI (by omega) (by omega), fun _ => by rw [e1]; exact k1, fun q => absurd (by rw [xi] at q; exact q) cm⟩⟩, vcc4_237_4 d' _ _ _ _ _ ⟨fun q => by omega, fun _ => ⟨_, _, _, c2, fun q => absurd q (by decide), fun _ => by rw [e1]; exact k2⟩⟩⟩
  obtain ⟨y, k1, k2⟩ := lp 144 0 rfl 0
  exact ⟨y, xcall_i (mq82 (cu := [])).2.2 rfl (vcg_82_0 (xcall d) none none z f _ k1), mcall_i (mq237 (cu := [])).2.2 rfl (vc237_0 d' none none zr r _ k2)⟩
/-- how often all of them came, in thought -/
theorem simCame (d d' : Nat) (o1 : Option PV) {nv : Nat} {z zr : Nat → Int32} {f r : Nat → FA} (h : RLh nv z f zr r) (h6 : zr 6 = nI nv) : ∃ y, xcall (d + 3) 81 [vR 32] (LW W z f) = some (some (vI y), LW W z f) ∧ ∀ res, RC (mcall (d' + 8)) (mP 213) 52 [some (vR 0), o1, some (vI 3), some (vI y), some (vI (nI nv))] [] (LR zr r) res → RC (mcall (d' + 8)) (mP 213) 52 [some (vR 0), o1, some (vI 3), some (vI 0), some (vI (nI 0))] [] (LR zr r) res := by
  have hn := h.1.1
  have zv : z 322 = nI nv := h.1.2.1.1
  have lp : ∀ t i, i + t = nv → ∀ x : Int32, ∃ y, XC (xcall (d + 2)) (mP 81) 4 [some (vR 32), some (vI x), some (vI (nI i))] [] (LW W z f) (some (vI y), LW W z f) ∧ ∀ res, RC (mcall (d' + 8)) (mP 213) 52 [some (vR 0), o1, some (vI 3), some (vI y), some (vI (nI nv))] [] (LR zr r) res → RC (mcall (d' + 8)) (mP 213) 52 [some (vR 0), o1, some (vI 3), some (vI x), some (vI (nI i))] [] (LR zr r) res := by
    intro t
    induction t with
    | zero =>
      intro i hi x
      obtain rfl : i = nv := by omega
      refine ⟨x, vcg_c4_81_4 _ _ _ _ _ _ ⟨fun _ => rfl, fun q => ?_⟩, fun res q => q⟩
      rw [zv] at q
      exact absurd q (Int.lt_irrefl _)
    | succ t ih =>
      intro i hi x
      have hv : i < nv := by omega
      have ii : I (nI i) = i := I_nI (by omega)
      have iz : I (z 322) = nv := by rw [zv]; exact I_nI (by omega)
      have iz6 : I (zr 6) = nv := by rw [h6]; exact I_nI (by omega)
      have e1 : nI i + 1 = nI (i + 1) := nI_add i 1
      have e47 : (47 : Int32) + nI i = nI (47 + i) := nI_add 47 i
      obtain ⟨b1, b2, b3, b4, b5, b6, -⟩ := h.1.2.2.1 i hv
      have t100 : f 33 (100 + i) = r 1 (47 + i) := b6
      have tr := wTraith (W := W) d (f := f) (w := 5) zv hn hv (by omega)
      rw [show 20 * 5 + i = 100 + i from rfl, t100] at tr
      obtain ⟨y, k1, k2⟩ := ih (i + 1) (by omega) (x + r 1 (47 + i))
      exact ⟨y, vcg_c4_81_4 _ _ _ _ _ _ ⟨fun q => by omega, fun _ => ⟨_, _, _, tr, by rw [e1]; exact k1⟩⟩, fun res q => vcc52_213_52 (d' + 1) _ _ _ _ _ _ _ ⟨fun q => by omega, fun _ => ⟨fun q => absurd rfl q, fun _ => ⟨by rw [e47]; exact pin_nI (by omega) (by omega), by rw [e47, ix_nI (j := 47 + i) (by omega), e1]; exact k2 res q⟩⟩⟩⟩
  obtain ⟨y, k1, k2⟩ := lp nv 0 (by omega) 0
  exact ⟨y, xcall_i (mq81 (cu := [])).2.2 rfl (vcg_81_0 (xcall (d + 2)) none none z f _ k1), k2⟩
section GOES
variable {L : LAW} {n nv nw ns : Nat}
/-- hours in thought -/
theorem gsL (hW : WTX W) (hC : LWC W 0 L n) (hL : LOK L n) (d d' : Nat) {N : Nat} (hN : N ≤ 60) (y : Int32) (o4 : Option PV) {zr : Nat → Int32} : ∀ t i, i + t = N → ∀ (z : Nat → Int32) (f r : Nat → FA), RLh nv z f zr r → LRM r L n → WYR W nv nw zr (r 18) → SKR W nv ns zr (r 19) → ∃ z' f' r', (∀ res, XC (xcall (d + 7)) (mP 161) 21 [some (vR 0), some (vI (nI N)), some (vI y), some (vI (nI N))] [] (LW W z' f') res → XC (xcall (d + 7)) (mP 161) 21 [some (vR 0), some (vI (nI N)), some (vI y), some (vI (nI i))] [] (LW W z f) res) ∧ (∀ res, RC (mcall (d' + 8)) (mP 213) 21 [some (vR 0), some (vI (nI N)), some (vI y), some (vI (nI N)), o4] [] (LR zr r') res → RC (mcall (d' + 8)) (mP 213) 21 [some (vR 0), some (vI (nI N)), some (vI y), some (vI (nI i)), o4] [] (LR zr r) res) ∧ RLh nv z' f' zr r' ∧ FRh z f r z' f' r' := by
  intro t
  induction t with
  | zero =>
    intro i hi z f r h hM hY hS
    obtain rfl : i = N := by omega
    exact ⟨z, f, r, fun res q => q, fun res q => q, h, FRh.rfl⟩
  | succ t ih =>
    intro i hi z f r h hM hY hS
    have iN : I (nI N) = N := I_nI (by omega)
    have ii : I (nI i) = i := I_nI (by omega)
    have e1 : nI i + 1 = nI (i + 1) := nI_add i 1
    obtain ⟨x, z2, f2, r2, b1, b2, b3, b4⟩ := simHourh hW hC hL d d' h hM hY hS
    obtain ⟨z', f', r', k1, k2, k3, k4⟩ := ih (i + 1) (by omega) z2 f2 r2 b3 (LRM.frh hM b4) (by rw [b4.2.2 18 (by decide)]; exact hY) (by rw [b4.2.2 19 (by decide)]; exact hS)
    exact ⟨z', f', r', fun res q => vcg_c21_161_21 _ _ _ _ _ _ _ ⟨fun q => by omega, fun _ => ⟨_, _, _, b1, by rw [e1]; exact k1 res q⟩⟩, fun res q => vcc21_213_21 (d' + 1) _ _ _ _ _ _ _ ⟨fun q => by omega, fun _ => ⟨_, _, _, b2, by rw [e1]; exact k2 res q⟩⟩, k3, FRh.trans b4 k4⟩
/-- what would be -/
theorem simGoesU (hW : WTX W) (hC : LWC W 0 L n) (hL : LOK L n) (d d' : Nat) {c : Nat} {z zr : Nat → Int32} {f r : Nat → FA} (x y : Int32) (hR : WR W L n nv nw ns z f zr r) (hG : RGA c c c nv z f zr r) : ∃ a z' f' zr' r' c', xcall (d + 8) 161 [vR 0, vI x, vI y] (LW W z f) = some (some (vI a), LW W z' f') ∧ mcall (d' + 9) 213 [vR 0, vI x, vI y] (LR zr r) = some (some (vI a), LR zr' r') ∧ WR W L n nv nw ns z' f' zr' r' ∧ RGA c' c' c' nv z' f' zr' r' ∧ HF z f zr r z' f' zr' r' := by
  have R0 := hR.z0
  have G0 := hG.z0
  by_cases cx : 1 ≤ I x ∧ I x ≤ 60
  · by_cases cy : 0 ≤ I y ∧ I y ≤ 3
    · obtain ⟨N, rfl, n1, n2⟩ := nI_ofI (show 0 ≤ I x by omega)
      obtain ⟨z1, f1, t1, t2⟩ := wThink (W := W) (d + 6) (z := z) (f := f)
      have th := mThinks (d' + 6) (z := uZ zr 0 0) (r := r)
      have rr : ∀ j, j ≠ 3 → uA r 3 (cpW (r 1) (r 3) 499) j = r j := fun j hj => uA_ne hj
      have zz : ∀ j, j ≠ 0 → j ≠ 5 → uZ (uZ zr 0 0) 5 1 j = zr j := fun j h1 h2 => by rw [uZ_n h2, uZ_n h1]
      have hC0 : CRo 2 nv z f (r 1) (r 4) (r 5) (r 6) := hR.1.1
      have h1 : RLh nv z1 f1 (uZ (uZ zr 0 0) 5 1) (uA r 3 (cpW (r 1) (r 3) 499)) := by
        refine ⟨?_, ?_⟩
        · show CRo 32 nv z1 f1 (uA r 3 (cpW (r 1) (r 3) 499) 1) (uA r 3 (cpW (r 1) (r 3) 499) 4) (uA r 3 (cpW (r 1) (r 3) 499) 5) (uA r 3 (cpW (r 1) (r 3) 499) 6)
          rw [rr 1 (by decide), rr 4 (by decide), rr 5 (by decide), rr 6 (by decide)]
          exact hC0.cp t2
        · rw [uZ_s]
          decide
      have hM1 : LRM (uA r 3 (cpW (r 1) (r 3) 499)) L n := hR.2.1.hf (z := z) (z' := z) (f := f) (f' := f) (zr := zr) (zr' := zr) ⟨fun _ _ => rfl, fun _ _ _ => rfl, fun _ _ _ => rfl, fun k hk => uA_ne (fun q => hk (by rw [q]; decide))⟩
      have hY1 : WYR W nv nw (uZ (uZ zr 0 0) 5 1) (uA r 3 (cpW (r 1) (r 3) 499) 18) := by
        rw [rr 18 (by decide)]
        unfold WYR
        rw [zz 34 (by decide) (by decide)]
        exact hR.2.2.1
      have hS1 : SKR W nv ns (uZ (uZ zr 0 0) 5 1) (uA r 3 (cpW (r 1) (r 3) 499) 19) := by
        rw [rr 19 (by decide)]
        unfold SKR
        rw [zz 36 (by decide) (by decide)]
        exact hR.2.2.2.1
      have h61 : uZ (uZ zr 0 0) 5 1 6 = nI nv := (zz 6 (by decide) (by decide)).trans hR.2.2.2.2
      obtain ⟨z2, f2, r2, k1, k2, k3, k4⟩ := gsL hW hC hL d d' (show N ≤ 60 by omega) y none N 0 (by omega) z1 f1 _ h1 hM1 hY1 hS1
      -- the end, whatever was asked
      have key : ∀ (a : Int32) (f3 r3 : Nat → FA), SCh f2 r2 f3 r3 → XC (xcall (d + 7)) (mP 161) 21 [some (vR 0), some (vI (nI N)), some (vI y), some (vI (nI N))] [] (LW W z2 f2) (some (vI a), LW W z2 f3) → RC (mcall (d' + 8)) (mP 213) 21 [some (vR 0), some (vI (nI N)), some (vI y), some (vI (nI N)), none] [] (LR (uZ (uZ zr 0 0) 5 1) r2) (some (vI a), LR (uZ (uZ (uZ zr 0 0) 5 1) 5 0) (uA r3 1 (cpW (r3 3) (r3 1) 499))) → ∃ a z' f' zr' r' c', xcall (d + 8) 161 [vR 0, vI (nI N), vI y] (LW W z f) = some (some (vI a), LW W z' f') ∧ mcall (d' + 9) 213 [vR 0, vI (nI N), vI y] (LR zr r) = some (some (vI a), LR zr' r') ∧ WR W L n nv nw ns z' f' zr' r' ∧ RGA c' c' c' nv z' f' zr' r' ∧ HF z f zr r z' f' zr' r' := by
        intro a f3 r3 sc q1 q2
        have F3 : FRh z1 f1 (uA r 3 (cpW (r 1) (r 3) 499)) z2 f3 r3 := FRh.trans k4 (sc.fr (z := z2))
        have zf : ∀ j, j < 322 → z2 j = z j := fun j hj => (F3.1 j (by omega)).trans (t2.2.1 j (by omega))
        have ff : ∀ j, j < 32 → f3 j = f j := fun j hj => (F3.2.1 j (fun q => by
          simp only [List.mem_cons, List.not_mem_nil, or_false] at q
          omega)).trans (t2.2.2.2.2 j (by omega) (by omega))
        have rf : ∀ j, j ≠ 1 → j ≠ 3 → j ≠ 21 → j ≠ 22 → uA r3 1 (cpW (r3 3) (r3 1) 499) j = r j := fun j h1 h3 h21 h22 => (uA_ne h1).trans ((F3.2.2 j (fun q => by
          simp only [List.mem_cons, List.not_mem_nil, or_false] at q
          omega)).trans (rr j h3))
        have r33 : r3 3 = cpW (r 1) (r 3) 499 := (F3.2.2 3 (by decide)).trans (uA_self _ _ _)
        have zrf : ∀ j, j ≠ 0 → uZ (uZ (uZ zr 0 0) 5 1) 5 0 j = zr j := fun j hj => by
          rw [uZ_uZ]
          by_cases q5 : j = 5
          · subst q5
            rw [uZ_s]
            exact hR.1.2.2.symm
          · rw [uZ_n q5, uZ_n hj]
        have H1 : HF z f zr r z2 f3 (uZ (uZ (uZ zr 0 0) 5 1) 5 0) (uA r3 1 (cpW (r3 3) (r3 1) 499)) := ⟨fun j hj => zf j (by omega), fun k hk _ => ff k (by omega), fun j h1 _ => zrf j h1, fun k hk => rf k (fun q => hk (by rw [q]; decide)) (fun q => hk (by rw [q]; decide)) (fun q => hk (by rw [q]; decide)) (fun q => hk (by rw [q]; decide))⟩
        have hRL : RLn nv z2 f3 (uZ (uZ (uZ zr 0 0) 5 1) 5 0) (uA r3 1 (cpW (r3 3) (r3 1) 499)) := by
          refine ⟨?_, ?_, (zrf 5 (by decide)).trans hR.1.2.2⟩
          · show CRo 2 nv z2 f3 (uA r3 1 (cpW (r3 3) (r3 1) 499) 1) (uA r3 1 (cpW (r3 3) (r3 1) 499) 4) (uA r3 1 (cpW (r3 3) (r3 1) 499) 5) (uA r3 1 (cpW (r3 3) (r3 1) 499) 6)
            rw [uA_self, rf 4 (by decide) (by decide) (by decide) (by decide), rf 5 (by decide) (by decide) (by decide) (by decide), rf 6 (by decide) (by decide) (by decide) (by decide), r33]
            exact (hC0.st (fun i h1 h2 => zf _ (by omega)) (ff 3 (by decide)) (ff 4 (by decide))).gg (fun x hx => (if_pos hx).trans (if_pos hx))
          · intro j hj
            rw [ff 6 (by decide), rf 7 (by decide) (by decide) (by decide) (by decide)]
            exact hR.1.2.1 j hj
        refine ⟨a, z2, f3, _, _, c, xcall_i (mq161 (cu := [])).2.2 rfl (vcg_161_0 (xcall (d + 7)) (nI N) y none z f _ ⟨fun q => by omega, fun _ => ⟨fun q => by omega, fun _ => ⟨fun q => by omega, fun _ => ⟨fun _ => ⟨_, _, t1, k1 _ q1⟩, fun q => by omega⟩⟩⟩⟩), mcall_i (mq213 (cu := [])).2.2 rfl (vc213_0 (d' + 1) (nI N) y none none zr r _ ⟨fun _ => ⟨fun _ => ⟨_, _, th, k2 _ q2⟩, fun q => absurd cy q⟩, fun q => absurd cx q⟩), hR.hf hRL H1, hG.st (fun j h1 h2 => zf j h2) (fun j h1 h2 => ff j h2) (zrf 3 (by decide)) (rf 2 (by decide) (by decide) (by decide) (by decide)) (rf 4 (by decide) (by decide) (by decide) (by decide)) (rf 5 (by decide) (by decide) (by decide) (by decide)) (rf 6 (by decide) (by decide) (by decide) (by decide)), H1⟩
      have sc0 : SCh f2 r2 f2 r2 := ⟨fun _ _ _ => rfl, fun _ _ _ => rfl⟩
      have i0 : I (nI 0) = 0 := by decide
      by_cases y0 : y = 0
      · subst y0
        have z326 : z2 326 = r2 1 5 := k3.1.2.1.2.2.2.2.1
        refine key (r2 1 5) f2 r2 sc0 (vcg_c21_161_21 _ _ _ _ _ _ _ ⟨fun _ => ⟨fun _ => by rw [z326], fun q => absurd rfl q⟩, fun q => absurd q (Int.lt_irrefl _)⟩) (vcc21_213_21 (d' + 1) _ _ _ _ _ _ _ ⟨fun _ => ⟨fun q => absurd rfl q, fun _ => ⟨by decide, mGoEnd d' _ (fun q => absurd q (by decide))⟩⟩, fun q => absurd q (Int.lt_irrefl _)⟩)
      · by_cases y1 : y = 1
        · subst y1
          obtain ⟨a, s1, s2⟩ := simCount (W := W) (d + 6) (d' + 5) k3
          exact key a f2 r2 sc0 (vcg_c21_161_21 _ _ _ _ _ _ _ ⟨fun _ => ⟨fun q => absurd q y0, fun _ => ⟨fun _ => ⟨_, _, _, s1, rfl⟩, fun q => absurd rfl q⟩⟩, fun q => absurd q (Int.lt_irrefl _)⟩) (vcc21_213_21 (d' + 1) _ _ _ _ _ _ _ ⟨fun _ => ⟨fun _ => ⟨fun q => absurd rfl q, fun _ => ⟨_, _, _, s2, mGoEnd d' _ (fun q => absurd q (by decide))⟩⟩, fun q => absurd q y0⟩, fun q => absurd q (Int.lt_irrefl _)⟩)
        · by_cases y2 : y = 2
          · subst y2
            obtain ⟨a, f3, r3, s1, s2, s3⟩ := simSumh hW hC hL (d + 2) (d' + 2) k3 (LRM.frh hM1 k4)
            exact key a f3 r3 s3 (vcg_c21_161_21 _ _ _ _ _ _ _ ⟨fun _ => ⟨fun q => absurd q y0, fun _ => ⟨fun q => absurd q y1, fun _ => ⟨fun _ => ⟨_, _, _, s1, rfl⟩, fun q => absurd rfl q⟩⟩⟩, fun q => absurd q (Int.lt_irrefl _)⟩) (vcc21_213_21 (d' + 1) _ _ _ _ _ _ _ ⟨fun _ => ⟨fun _ => ⟨fun _ => ⟨fun q => absurd rfl q, fun _ => ⟨_, _, _, s2, mGoEnd d' _ (fun q => absurd q (by decide))⟩⟩, fun q => absurd q y1⟩, fun q => absurd q y0⟩, fun q => absurd q (Int.lt_irrefl _)⟩)
          · have y3 : y = 3 := by
              obtain ⟨u, rfl, u1, u2⟩ := nI_ofI cy.1
              rcases (show u = 0 ∨ u = 1 ∨ u = 2 ∨ u = 3 by omega) with rfl | rfl | rfl | rfl
              · exact absurd rfl y0
              · exact absurd rfl y1
              · exact absurd rfl y2
              · rfl
            subst y3
            obtain ⟨a, s1, s2⟩ := simCame (W := W) (d + 4) d' (some (vI (nI N))) k3 h61
            exact key a f2 r2 sc0 (vcg_c21_161_21 _ _ _ _ _ _ _ ⟨fun _ => ⟨fun q => absurd q y0, fun _ => ⟨fun q => absurd q y1, fun _ => ⟨fun q => absurd q y2, fun _ => ⟨_, _, _, s1, rfl⟩⟩⟩⟩, fun q => absurd q (Int.lt_irrefl _)⟩) (vcc21_213_21 (d' + 1) _ _ _ _ _ _ _ ⟨fun _ => ⟨fun _ => ⟨fun _ => ⟨fun _ => s2 _ (mGoEnd d' _ (fun _ => by rw [h61]; exact Int.le_refl _)), fun q => absurd q y2⟩, fun q => absurd q y1⟩, fun q => absurd q y0⟩, fun q => absurd q (Int.lt_irrefl _)⟩)
    · exact ⟨-100000, z, f, uZ zr 0 0, r, c, xcall_i (mq161 (cu := [])).2.2 rfl (vcg_161_0 (xcall (d + 7)) x y none z f _ ⟨fun _ => rfl, fun _ => ⟨fun _ => rfl, fun _ => ⟨fun _ => rfl, fun q => ⟨fun q2 => absurd ⟨q, q2⟩ cy, fun _ => rfl⟩⟩⟩⟩), mcall_i (mq213 (cu := [])).2.2 rfl (vc213_0 (d' + 1) x y none none zr r _ ⟨fun _ => ⟨fun q => absurd q cy, fun _ => rfl⟩, fun _ => rfl⟩), R0, G0, HF.z0 z f zr r⟩
  · exact ⟨-100000, z, f, uZ zr 0 0, r, c, xcall_i (mq161 (cu := [])).2.2 rfl (vcg_161_0 (xcall (d + 7)) x y none z f _ ⟨fun _ => rfl, fun q => ⟨fun _ => rfl, fun q2 => absurd ⟨q, q2⟩ cx⟩⟩), mcall_i (mq213 (cu := [])).2.2 rfl (vc213_0 (d' + 1) x y none none zr r _ ⟨fun q => absurd q cx, fun _ => rfl⟩), R0, G0, HF.z0 z f zr r⟩
end GOES
end TWs
