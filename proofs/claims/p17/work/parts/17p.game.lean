/-! game of the reference: it returns -/
set_option maxRecDepth 100000 in
theorem b71_1 (call : QC FA) (x1 : Int32) (x2 : Int32) (o3 : Option PV) (o4 : Option PV) (L : QH FA) (F : Nat) : rnG call 71 (F + 4) 0 [some (vR 0), some (vI x1), some (vI x2), o3, o4] [] L = rnG call 71 F 4 [some (vR 0), some (vI x1), some (vI x2), some (vI x1), o4] [vI 0, vR 0] L := rfl
set_option maxRecDepth 100000 in
theorem b71_2 (call : QC FA) (y : Int32) (ls : List (Option PV)) (z : Nat → Int32) (f : Nat → FA) (F : Nat) : rnG call 71 (F + 1) 4 ls [vI y, vR 0] (LR z f) = rnG call 71 F 5 ls [] (LR (uZ z 70 y) f) := rfl
set_option maxRecDepth 100000 in
theorem b71_3 (call : QC FA) (x1 : Int32) (x2 : Int32) (x3 : Int32) (o4 : Option PV) (L : QH FA) (F : Nat) : rnG call 71 (F + 2) 5 [some (vR 0), some (vI x1), some (vI x2), some (vI x3), o4] [] L = rnG call 71 F 7 [some (vR 0), some (vI x1), some (vI x2), some (vI x3), o4] [vI 0, vR 0] L := rfl
set_option maxRecDepth 100000 in
theorem b71_4 (call : QC FA) (y : Int32) (ls : List (Option PV)) (z : Nat → Int32) (f : Nat → FA) (F : Nat) : rnG call 71 (F + 1) 7 ls [vI y, vR 0] (LR z f) = rnG call 71 F 8 ls [] (LR (uZ z 71 y) f) := rfl
set_option maxRecDepth 100000 in
theorem b71_5 (call : QC FA) (x1 : Int32) (x2 : Int32) (x3 : Int32) (o4 : Option PV) (L : QH FA) (F : Nat) : rnG call 71 (F + 2) 8 [some (vR 0), some (vI x1), some (vI x2), some (vI x3), o4] [] L = rnG call 71 F 10 [some (vR 0), some (vI x1), some (vI x2), some (vI x3), some (vI 8)] [] L := rfl
theorem vc71_0 (call : QC FA) (x1 : Int32) (x2 : Int32) (o3 : Option PV) (o4 : Option PV) (z : Nat → Int32) (f : Nat → FA) (res : Option PV × QH FA) (H : RC call (mP 71) 10 [some (vR 0), some (vI x1), some (vI x2), some (vI x1), some (vI 8)] [] (LR (uZ (uZ z 70 0) 71 0) f) res) : RC call (mP 71) 0 [some (vR 0), some (vI x1), some (vI x2), o3, o4] [] (LR z f) res := by
  refine rc_b (i' := 4) (ls' := [some (vR 0), some (vI x1), some (vI x2), some (vI x1), o4]) (st' := [vI 0, vR 0]) (L' := LR z f) 4 (b71_1 call x1 x2 o3 o4 _) ?_
  refine rc_b (i' := 5) (ls' := [some (vR 0), some (vI x1), some (vI x2), some (vI x1), o4]) (st' := []) (L' := LR (uZ z 70 0) f) 1 (b71_2 call 0 _ z f) ?_
  refine rc_b (i' := 7) (ls' := [some (vR 0), some (vI x1), some (vI x2), some (vI x1), o4]) (st' := [vI 0, vR 0]) (L' := LR (uZ z 70 0) f) 2 (b71_3 call x1 x2 x1 o4 _) ?_
  refine rc_b (i' := 8) (ls' := [some (vR 0), some (vI x1), some (vI x2), some (vI x1), o4]) (st' := []) (L' := LR (uZ (uZ z 70 0) 71 0) f) 1 (b71_4 call 0 _ (uZ z 70 0) f) ?_
  refine rc_b (i' := 10) (ls' := [some (vR 0), some (vI x1), some (vI x2), some (vI x1), some (vI 8)]) (st' := []) (L' := LR (uZ (uZ z 70 0) 71 0) f) 2 (b71_5 call x1 x2 x1 o4 _) ?_
  exact H
set_option maxRecDepth 100000 in
theorem bc10_71_1 (call : QC FA) (o1 : Option PV) (x2 : Int32) (x3 : Int32) (x4 : Int32) (L : QH FA) (F : Nat) : rnG call 71 (F + 1) 10 [some (vR 0), o1, some (vI x2), some (vI x3), some (vI x4)] [] L = rnG call 71 F 11 [some (vR 0), o1, some (vI x2), some (vI x3), some (vI x4)] [vI x4] L := rfl
set_option maxRecDepth 100000 in
theorem bc10_71_2 (call : QC FA) (x : Int32) (ls : List (Option PV)) (L : QH FA) (F : Nat) : rnG call 71 (F + 1) 11 ls [vI x] L = bif pcmp 2 x 0 then rnG call 71 F 49 ls [] L else rnG call 71 F 12 ls [] L := rfl
set_option maxRecDepth 100000 in
theorem bc10_71_3 (call : QC FA) (ls : List (Option PV)) (L : QH FA) (F : Nat) : rnG call 71 (F + 1) 49 ls [] L = some (none, L) := rfl
set_option maxRecDepth 100000 in
theorem bc10_71_4 (call : QC FA) (o1 : Option PV) (x2 : Int32) (x3 : Int32) (x4 : Int32) (z : Nat → Int32) (f : Nat → FA) (F : Nat) : rnG call 71 (F + 5) 12 [some (vR 0), o1, some (vI x2), some (vI x3), some (vI x4)] [] (LR z f) = rnG call 71 F 17 [some (vR 0), o1, some (vI x2), some (vI x3), some (vI x4)] [vI x2, vI x3, vI x4, vR 41] (LR z f) := rfl
set_option maxRecDepth 100000 in
theorem bc10_71_5 (call : QC FA) (x y : Int32) (s0 : Int32) (ls : List (Option PV)) (L : QH FA) (F : Nat) : rnG call 71 (F + 1) 17 ls [vI y, vI x, vI s0, vR 41] L = bif pcmp 1 y 0 then rnG call 71 F 18 ls [vI (x - x / y * y), vI s0, vR 41] L else none := rfl
set_option maxRecDepth 100000 in
theorem bc10_71_6 (call : QC FA) (x y : Int32) (ls : List (Option PV)) (z : Nat → Int32) (f : Nat → FA) (F : Nat) : rnG call 71 (F + 1) 18 ls [vI y, vI x, vR 41] (LR z f) = bif (Nat.beq 0 0 && pin x 9) then rnG call 71 F 19 ls [] (LR z (uA f 41 (upd (f 41) (ix x) y))) else none := rfl
set_option maxRecDepth 100000 in
theorem bc10_71_7 (call : QC FA) (o1 : Option PV) (x2 : Int32) (x3 : Int32) (x4 : Int32) (L : QH FA) (F : Nat) : rnG call 71 (F + 2) 19 [some (vR 0), o1, some (vI x2), some (vI x3), some (vI x4)] [] L = rnG call 71 F 21 [some (vR 0), o1, some (vI x2), some (vI x3), some (vI x4)] [vI x2, vI x3] L := rfl
set_option maxRecDepth 100000 in
theorem bc10_71_8 (call : QC FA) (x y : Int32) (ls : List (Option PV)) (L : QH FA) (F : Nat) : rnG call 71 (F + 1) 21 ls [vI y, vI x] L = bif pcmp 1 y 0 then rnG call 71 F 22 ls [vI (x / y)] L else none := rfl
set_option maxRecDepth 100000 in
theorem bc10_71_9 (call : QC FA) (o1 : Option PV) (x2 : Int32) (x3 : Int32) (x4 : Int32) (s0 : Int32) (z : Nat → Int32) (f : Nat → FA) (F : Nat) : rnG call 71 (F + 4) 22 [some (vR 0), o1, some (vI x2), some (vI x3), some (vI x4)] [vI s0] (LR z f) = rnG call 71 F 26 [some (vR 0), o1, some (vI x2), some (vI s0), some (vI x4)] [vI x4, vR 41] (LR z f) := rfl
set_option maxRecDepth 100000 in
theorem bc10_71_10 (call : QC FA) (x : Int32) (ls : List (Option PV)) (z : Nat → Int32) (f : Nat → FA) (F : Nat) : rnG call 71 (F + 1) 26 ls [vI x, vR 41] (LR z f) = bif (Nat.beq 0 0 && pin x 9) then rnG call 71 F 27 ls [vI (f 41 (ix x))] (LR z f) else none := rfl
set_option maxRecDepth 100000 in
theorem bc10_71_11 (call : QC FA) (o1 : Option PV) (x2 : Int32) (x3 : Int32) (x4 : Int32) (s0 : Int32) (L : QH FA) (F : Nat) : rnG call 71 (F + 1) 27 [some (vR 0), o1, some (vI x2), some (vI x3), some (vI x4)] [vI s0] L = rnG call 71 F 28 [some (vR 0), o1, some (vI x2), some (vI x3), some (vI x4)] [vI 1, vI s0] L := rfl
set_option maxRecDepth 100000 in
theorem bc10_71_12 (call : QC FA) (x y : Int32) (ls : List (Option PV)) (L : QH FA) (F : Nat) : rnG call 71 (F + 1) 28 ls [vI y, vI x] L = bif pcmp 1 x y then rnG call 71 F 35 ls [] L else rnG call 71 F 29 ls [] L := rfl
set_option maxRecDepth 100000 in
theorem bc10_71_13 (call : QC FA) (o1 : Option PV) (x2 : Int32) (x3 : Int32) (x4 : Int32) (z : Nat → Int32) (f : Nat → FA) (F : Nat) : rnG call 71 (F + 3) 35 [some (vR 0), o1, some (vI x2), some (vI x3), some (vI x4)] [] (LR z f) = rnG call 71 F 38 [some (vR 0), o1, some (vI x2), some (vI x3), some (vI x4)] [vI x4, vR 41] (LR z f) := rfl
set_option maxRecDepth 100000 in
theorem bc10_71_14 (call : QC FA) (x : Int32) (ls : List (Option PV)) (z : Nat → Int32) (f : Nat → FA) (F : Nat) : rnG call 71 (F + 1) 38 ls [vI x, vR 41] (LR z f) = bif (Nat.beq 0 0 && pin x 9) then rnG call 71 F 39 ls [vI (f 41 (ix x))] (LR z f) else none := rfl
set_option maxRecDepth 100000 in
theorem bc10_71_15 (call : QC FA) (o1 : Option PV) (x2 : Int32) (x3 : Int32) (x4 : Int32) (s0 : Int32) (L : QH FA) (F : Nat) : rnG call 71 (F + 1) 39 [some (vR 0), o1, some (vI x2), some (vI x3), some (vI x4)] [vI s0] L = rnG call 71 F 40 [some (vR 0), o1, some (vI x2), some (vI x3), some (vI x4)] [vI 2, vI s0] L := rfl
set_option maxRecDepth 100000 in
theorem bc10_71_16 (call : QC FA) (x y : Int32) (ls : List (Option PV)) (L : QH FA) (F : Nat) : rnG call 71 (F + 1) 40 ls [vI y, vI x] L = bif pcmp 1 x y then rnG call 71 F 47 ls [] L else rnG call 71 F 41 ls [] L := rfl
theorem bc10_71_17i (ih : QK FA) (t : Nat) (v x : Int32) (l0 l1 l2 l3 : Option PV) (st : List PV) (L : QH FA) : p_iinc ih fzF 4 v t [l0, l1, l2, l3, some (vI x)] st L = ih t [l0, l1, l2, l3, some (vI (x + v))] st L := rfl
set_option maxRecDepth 100000 in
theorem bc10_71_17 (call : QC FA) (o1 : Option PV) (x2 : Int32) (x3 : Int32) (x4 : Int32) (L : QH FA) (F : Nat) : rnG call 71 (F + 1) 47 [some (vR 0), o1, some (vI x2), some (vI x3), some (vI x4)] [] L = rnG call 71 F 48 [some (vR 0), o1, some (vI x2), some (vI x3), some (vI (x4 + (-1)))] [] L := bc10_71_17i (rnG call 71 F) 48 (-1) x4 _ _ _ _ _ _
set_option maxRecDepth 100000 in
theorem bc10_71_18 (call : QC FA) (o1 : Option PV) (x2 : Int32) (x3 : Int32) (x4 : Int32) (L : QH FA) (F : Nat) : rnG call 71 (F + 1) 48 [some (vR 0), o1, some (vI x2), some (vI x3), some (vI x4)] [] L = rnG call 71 F 10 [some (vR 0), o1, some (vI x2), some (vI x3), some (vI x4)] [] L := rfl
set_option maxRecDepth 100000 in
theorem bc10_71_19 (call : QC FA) (o1 : Option PV) (x2 : Int32) (x3 : Int32) (x4 : Int32) (z : Nat → Int32) (f : Nat → FA) (F : Nat) : rnG call 71 (F + 5) 41 [some (vR 0), o1, some (vI x2), some (vI x3), some (vI x4)] [] (LR z f) = rnG call 71 F 46 [some (vR 0), o1, some (vI x2), some (vI x3), some (vI x4)] [vI ((z 71) + 1), vR 0] (LR z f) := rfl
set_option maxRecDepth 100000 in
theorem bc10_71_20 (call : QC FA) (y : Int32) (ls : List (Option PV)) (z : Nat → Int32) (f : Nat → FA) (F : Nat) : rnG call 71 (F + 1) 46 ls [vI y, vR 0] (LR z f) = rnG call 71 F 47 ls [] (LR (uZ z 71 y) f) := rfl
set_option maxRecDepth 100000 in
theorem bc10_71_21 (call : QC FA) (o1 : Option PV) (x2 : Int32) (x3 : Int32) (x4 : Int32) (z : Nat → Int32) (f : Nat → FA) (F : Nat) : rnG call 71 (F + 5) 29 [some (vR 0), o1, some (vI x2), some (vI x3), some (vI x4)] [] (LR z f) = rnG call 71 F 34 [some (vR 0), o1, some (vI x2), some (vI x3), some (vI x4)] [vI ((z 70) + 1), vR 0] (LR z f) := rfl
set_option maxRecDepth 100000 in
theorem bc10_71_22 (call : QC FA) (y : Int32) (ls : List (Option PV)) (z : Nat → Int32) (f : Nat → FA) (F : Nat) : rnG call 71 (F + 1) 34 ls [vI y, vR 0] (LR z f) = rnG call 71 F 35 ls [] (LR (uZ z 70 y) f) := rfl
theorem vcc10_71_10 (call : QC FA) (o1 : Option PV) (x2 : Int32) (x3 : Int32) (x4 : Int32) (z : Nat → Int32) (f : Nat → FA) (res : Option PV × QH FA) (H : ((I x4 < 0 → res = (none, LR z f)) ∧ (0 ≤ I x4 → (¬ x2 = 0 ∧ (pin x4 9 = true ∧ (¬ x2 = 0 ∧ (pin x4 9 = true ∧ ((¬ (upd (f 41) (ix x4) (x3 - x3 / x2 * x2)) (ix x4) = 1 → (pin x4 9 = true ∧ ((¬ (upd (f 41) (ix x4) (x3 - x3 / x2 * x2)) (ix x4) = 2 → RC call (mP 71) 10 [some (vR 0), o1, some (vI x2), some (vI (x3 / x2)), some (vI (x4 + (-1)))] [] (LR z (uA f 41 (upd (f 41) (ix x4) (x3 - x3 / x2 * x2)))) res) ∧ ((upd (f 41) (ix x4) (x3 - x3 / x2 * x2)) (ix x4) = 2 → RC call (mP 71) 10 [some (vR 0), o1, some (vI x2), some (vI (x3 / x2)), some (vI (x4 + (-1)))] [] (LR (uZ z 71 ((z 71) + 1)) (uA f 41 (upd (f 41) (ix x4) (x3 - x3 / x2 * x2)))) res)))) ∧ ((upd (f 41) (ix x4) (x3 - x3 / x2 * x2)) (ix x4) = 1 → (pin x4 9 = true ∧ ((¬ (upd (f 41) (ix x4) (x3 - x3 / x2 * x2)) (ix x4) = 2 → RC call (mP 71) 10 [some (vR 0), o1, some (vI x2), some (vI (x3 / x2)), some (vI (x4 + (-1)))] [] (LR (uZ z 70 ((z 70) + 1)) (uA f 41 (upd (f 41) (ix x4) (x3 - x3 / x2 * x2)))) res) ∧ ((upd (f 41) (ix x4) (x3 - x3 / x2 * x2)) (ix x4) = 2 → RC call (mP 71) 10 [some (vR 0), o1, some (vI x2), some (vI (x3 / x2)), some (vI (x4 + (-1)))] [] (LR (uZ (uZ z 70 ((z 70) + 1)) 71 ((z 71) + 1)) (uA f 41 (upd (f 41) (ix x4) (x3 - x3 / x2 * x2)))) res)))))))))))) : RC call (mP 71) 10 [some (vR 0), o1, some (vI x2), some (vI x3), some (vI x4)] [] (LR z f) res := by
  refine rc_b (i' := 11) (ls' := [some (vR 0), o1, some (vI x2), some (vI x3), some (vI x4)]) (st' := [vI x4]) (L' := LR z f) 1 (bc10_71_1 call o1 x2 x3 x4 _) ?_
  refine rc_if (it := 49) (ie := 12) (ls' := [some (vR 0), o1, some (vI x2), some (vI x3), some (vI x4)]) (st' := []) (bc10_71_2 call x4 _ _) (fun q1 => ?_) (fun q1 => ?_)
  · have H := H.1 (cI2t q1 rfl rfl)
    subst H
    exact rc_ret (bc10_71_3 call _ _)
  · have H := H.2 (cI2f q1 rfl rfl)
    refine rc_b (i' := 17) (ls' := [some (vR 0), o1, some (vI x2), some (vI x3), some (vI x4)]) (st' := [vI x2, vI x3, vI x4, vR 41]) (L' := LR z f) 5 (bc10_71_4 call o1 x2 x3 x4 z f) ?_
    obtain ⟨g1, H⟩ := H
    refine rc_g (i' := 18) (ls' := [some (vR 0), o1, some (vI x2), some (vI x3), some (vI x4)]) (st' := [vI (x3 - x3 / x2 * x2), vI x4, vR 41]) (L' := LR z f) (bc10_71_5 call x3 x2 x4 _ _) (cmp_ne.trans (decide_eq_true g1)) ?_
    obtain ⟨g1, H⟩ := H
    refine rc_g (i' := 19) (ls' := [some (vR 0), o1, some (vI x2), some (vI x3), some (vI x4)]) (st' := []) (L' := LR z (uA f 41 (upd (f 41) (ix x4) (x3 - x3 / x2 * x2)))) (bc10_71_6 call x4 (x3 - x3 / x2 * x2) _ z f) (pinG g1) ?_
    refine rc_b (i' := 21) (ls' := [some (vR 0), o1, some (vI x2), some (vI x3), some (vI x4)]) (st' := [vI x2, vI x3]) (L' := LR z (uA f 41 (upd (f 41) (ix x4) (x3 - x3 / x2 * x2)))) 2 (bc10_71_7 call o1 x2 x3 x4 _) ?_
    obtain ⟨g1, H⟩ := H
    refine rc_g (i' := 22) (ls' := [some (vR 0), o1, some (vI x2), some (vI x3), some (vI x4)]) (st' := [vI (x3 / x2)]) (L' := LR z (uA f 41 (upd (f 41) (ix x4) (x3 - x3 / x2 * x2)))) (bc10_71_8 call x3 x2 _ _) (cmp_ne.trans (decide_eq_true g1)) ?_
    refine rc_b (i' := 26) (ls' := [some (vR 0), o1, some (vI x2), some (vI (x3 / x2)), some (vI x4)]) (st' := [vI x4, vR 41]) (L' := LR z (uA f 41 (upd (f 41) (ix x4) (x3 - x3 / x2 * x2)))) 4 (bc10_71_9 call o1 x2 x3 x4 (x3 / x2) z (uA f 41 (upd (f 41) (ix x4) (x3 - x3 / x2 * x2)))) ?_
    obtain ⟨g1, H⟩ := H
    refine rc_g (i' := 27) (ls' := [some (vR 0), o1, some (vI x2), some (vI (x3 / x2)), some (vI x4)]) (st' := [vI ((upd (f 41) (ix x4) (x3 - x3 / x2 * x2)) (ix x4))]) (L' := LR z (uA f 41 (upd (f 41) (ix x4) (x3 - x3 / x2 * x2)))) (bc10_71_10 call x4 _ z (uA f 41 (upd (f 41) (ix x4) (x3 - x3 / x2 * x2)))) (pinG g1) ?_
    refine rc_b (i' := 28) (ls' := [some (vR 0), o1, some (vI x2), some (vI (x3 / x2)), some (vI x4)]) (st' := [vI 1, vI ((upd (f 41) (ix x4) (x3 - x3 / x2 * x2)) (ix x4))]) (L' := LR z (uA f 41 (upd (f 41) (ix x4) (x3 - x3 / x2 * x2)))) 1 (bc10_71_11 call o1 x2 (x3 / x2) x4 ((upd (f 41) (ix x4) (x3 - x3 / x2 * x2)) (ix x4)) _) ?_
    refine rc_if (it := 35) (ie := 29) (ls' := [some (vR 0), o1, some (vI x2), some (vI (x3 / x2)), some (vI x4)]) (st' := []) (bc10_71_12 call ((upd (f 41) (ix x4) (x3 - x3 / x2 * x2)) (ix x4)) 1 _ _) (fun q2 => ?_) (fun q2 => ?_)
    · have H := H.1 (cI1t q2)
      refine rc_b (i' := 38) (ls' := [some (vR 0), o1, some (vI x2), some (vI (x3 / x2)), some (vI x4)]) (st' := [vI x4, vR 41]) (L' := LR z (uA f 41 (upd (f 41) (ix x4) (x3 - x3 / x2 * x2)))) 3 (bc10_71_13 call o1 x2 (x3 / x2) x4 z (uA f 41 (upd (f 41) (ix x4) (x3 - x3 / x2 * x2)))) ?_
      obtain ⟨g1, H⟩ := H
      refine rc_g (i' := 39) (ls' := [some (vR 0), o1, some (vI x2), some (vI (x3 / x2)), some (vI x4)]) (st' := [vI ((upd (f 41) (ix x4) (x3 - x3 / x2 * x2)) (ix x4))]) (L' := LR z (uA f 41 (upd (f 41) (ix x4) (x3 - x3 / x2 * x2)))) (bc10_71_14 call x4 _ z (uA f 41 (upd (f 41) (ix x4) (x3 - x3 / x2 * x2)))) (pinG g1) ?_
      refine rc_b (i' := 40) (ls' := [some (vR 0), o1, some (vI x2), some (vI (x3 / x2)), some (vI x4)]) (st' := [vI 2, vI ((upd (f 41) (ix x4) (x3 - x3 / x2 * x2)) (ix x4))]) (L' := LR z (uA f 41 (upd (f 41) (ix x4) (x3 - x3 / x2 * x2)))) 1 (bc10_71_15 call o1 x2 (x3 / x2) x4 ((upd (f 41) (ix x4) (x3 - x3 / x2 * x2)) (ix x4)) _) ?_
      refine rc_if (it := 47) (ie := 41) (ls' := [some (vR 0), o1, some (vI x2), some (vI (x3 / x2)), some (vI x4)]) (st' := []) (bc10_71_16 call ((upd (f 41) (ix x4) (x3 - x3 / x2 * x2)) (ix x4)) 2 _ _) (fun q3 => ?_) (fun q3 => ?_)
      · have H := H.1 (cI1t q3)
        refine rc_b (i' := 48) (ls' := [some (vR 0), o1, some (vI x2), some (vI (x3 / x2)), some (vI (x4 + (-1)))]) (st' := []) (L' := LR z (uA f 41 (upd (f 41) (ix x4) (x3 - x3 / x2 * x2)))) 1 (bc10_71_17 call o1 x2 (x3 / x2) x4 _) ?_
        refine rc_b (i' := 10) (ls' := [some (vR 0), o1, some (vI x2), some (vI (x3 / x2)), some (vI (x4 + (-1)))]) (st' := []) (L' := LR z (uA f 41 (upd (f 41) (ix x4) (x3 - x3 / x2 * x2)))) 1 (bc10_71_18 call o1 x2 (x3 / x2) (x4 + (-1)) _) ?_
        exact H
      · have H := H.2 (cI1f q3)
        refine rc_b (i' := 46) (ls' := [some (vR 0), o1, some (vI x2), some (vI (x3 / x2)), some (vI x4)]) (st' := [vI ((z 71) + 1), vR 0]) (L' := LR z (uA f 41 (upd (f 41) (ix x4) (x3 - x3 / x2 * x2)))) 5 (bc10_71_19 call o1 x2 (x3 / x2) x4 z (uA f 41 (upd (f 41) (ix x4) (x3 - x3 / x2 * x2)))) ?_
        refine rc_b (i' := 47) (ls' := [some (vR 0), o1, some (vI x2), some (vI (x3 / x2)), some (vI x4)]) (st' := []) (L' := LR (uZ z 71 ((z 71) + 1)) (uA f 41 (upd (f 41) (ix x4) (x3 - x3 / x2 * x2)))) 1 (bc10_71_20 call ((z 71) + 1) _ z (uA f 41 (upd (f 41) (ix x4) (x3 - x3 / x2 * x2)))) ?_
        refine rc_b (i' := 48) (ls' := [some (vR 0), o1, some (vI x2), some (vI (x3 / x2)), some (vI (x4 + (-1)))]) (st' := []) (L' := LR (uZ z 71 ((z 71) + 1)) (uA f 41 (upd (f 41) (ix x4) (x3 - x3 / x2 * x2)))) 1 (bc10_71_17 call o1 x2 (x3 / x2) x4 _) ?_
        refine rc_b (i' := 10) (ls' := [some (vR 0), o1, some (vI x2), some (vI (x3 / x2)), some (vI (x4 + (-1)))]) (st' := []) (L' := LR (uZ z 71 ((z 71) + 1)) (uA f 41 (upd (f 41) (ix x4) (x3 - x3 / x2 * x2)))) 1 (bc10_71_18 call o1 x2 (x3 / x2) (x4 + (-1)) _) ?_
        exact H
    · have H := H.2 (cI1f q2)
      refine rc_b (i' := 34) (ls' := [some (vR 0), o1, some (vI x2), some (vI (x3 / x2)), some (vI x4)]) (st' := [vI ((z 70) + 1), vR 0]) (L' := LR z (uA f 41 (upd (f 41) (ix x4) (x3 - x3 / x2 * x2)))) 5 (bc10_71_21 call o1 x2 (x3 / x2) x4 z (uA f 41 (upd (f 41) (ix x4) (x3 - x3 / x2 * x2)))) ?_
      refine rc_b (i' := 35) (ls' := [some (vR 0), o1, some (vI x2), some (vI (x3 / x2)), some (vI x4)]) (st' := []) (L' := LR (uZ z 70 ((z 70) + 1)) (uA f 41 (upd (f 41) (ix x4) (x3 - x3 / x2 * x2)))) 1 (bc10_71_22 call ((z 70) + 1) _ z (uA f 41 (upd (f 41) (ix x4) (x3 - x3 / x2 * x2)))) ?_
      refine rc_b (i' := 38) (ls' := [some (vR 0), o1, some (vI x2), some (vI (x3 / x2)), some (vI x4)]) (st' := [vI x4, vR 41]) (L' := LR (uZ z 70 ((z 70) + 1)) (uA f 41 (upd (f 41) (ix x4) (x3 - x3 / x2 * x2)))) 3 (bc10_71_13 call o1 x2 (x3 / x2) x4 (uZ z 70 ((z 70) + 1)) (uA f 41 (upd (f 41) (ix x4) (x3 - x3 / x2 * x2)))) ?_
      obtain ⟨g1, H⟩ := H
      refine rc_g (i' := 39) (ls' := [some (vR 0), o1, some (vI x2), some (vI (x3 / x2)), some (vI x4)]) (st' := [vI ((upd (f 41) (ix x4) (x3 - x3 / x2 * x2)) (ix x4))]) (L' := LR (uZ z 70 ((z 70) + 1)) (uA f 41 (upd (f 41) (ix x4) (x3 - x3 / x2 * x2)))) (bc10_71_14 call x4 _ (uZ z 70 ((z 70) + 1)) (uA f 41 (upd (f 41) (ix x4) (x3 - x3 / x2 * x2)))) (pinG g1) ?_
      refine rc_b (i' := 40) (ls' := [some (vR 0), o1, some (vI x2), some (vI (x3 / x2)), some (vI x4)]) (st' := [vI 2, vI ((upd (f 41) (ix x4) (x3 - x3 / x2 * x2)) (ix x4))]) (L' := LR (uZ z 70 ((z 70) + 1)) (uA f 41 (upd (f 41) (ix x4) (x3 - x3 / x2 * x2)))) 1 (bc10_71_15 call o1 x2 (x3 / x2) x4 ((upd (f 41) (ix x4) (x3 - x3 / x2 * x2)) (ix x4)) _) ?_
      refine rc_if (it := 47) (ie := 41) (ls' := [some (vR 0), o1, some (vI x2), some (vI (x3 / x2)), some (vI x4)]) (st' := []) (bc10_71_16 call ((upd (f 41) (ix x4) (x3 - x3 / x2 * x2)) (ix x4)) 2 _ _) (fun q4 => ?_) (fun q4 => ?_)
      · have H := H.1 (cI1t q4)
        refine rc_b (i' := 48) (ls' := [some (vR 0), o1, some (vI x2), some (vI (x3 / x2)), some (vI (x4 + (-1)))]) (st' := []) (L' := LR (uZ z 70 ((z 70) + 1)) (uA f 41 (upd (f 41) (ix x4) (x3 - x3 / x2 * x2)))) 1 (bc10_71_17 call o1 x2 (x3 / x2) x4 _) ?_
        refine rc_b (i' := 10) (ls' := [some (vR 0), o1, some (vI x2), some (vI (x3 / x2)), some (vI (x4 + (-1)))]) (st' := []) (L' := LR (uZ z 70 ((z 70) + 1)) (uA f 41 (upd (f 41) (ix x4) (x3 - x3 / x2 * x2)))) 1 (bc10_71_18 call o1 x2 (x3 / x2) (x4 + (-1)) _) ?_
        exact H
      · have H := H.2 (cI1f q4)
        refine rc_b (i' := 46) (ls' := [some (vR 0), o1, some (vI x2), some (vI (x3 / x2)), some (vI x4)]) (st' := [vI ((z 71) + 1), vR 0]) (L' := LR (uZ z 70 ((z 70) + 1)) (uA f 41 (upd (f 41) (ix x4) (x3 - x3 / x2 * x2)))) 5 (bc10_71_19 call o1 x2 (x3 / x2) x4 (uZ z 70 ((z 70) + 1)) (uA f 41 (upd (f 41) (ix x4) (x3 - x3 / x2 * x2)))) ?_
        refine rc_b (i' := 47) (ls' := [some (vR 0), o1, some (vI x2), some (vI (x3 / x2)), some (vI x4)]) (st' := []) (L' := LR (uZ (uZ z 70 ((z 70) + 1)) 71 ((z 71) + 1)) (uA f 41 (upd (f 41) (ix x4) (x3 - x3 / x2 * x2)))) 1 (bc10_71_20 call ((z 71) + 1) _ (uZ z 70 ((z 70) + 1)) (uA f 41 (upd (f 41) (ix x4) (x3 - x3 / x2 * x2)))) ?_
        refine rc_b (i' := 48) (ls' := [some (vR 0), o1, some (vI x2), some (vI (x3 / x2)), some (vI (x4 + (-1)))]) (st' := []) (L' := LR (uZ (uZ z 70 ((z 70) + 1)) 71 ((z 71) + 1)) (uA f 41 (upd (f 41) (ix x4) (x3 - x3 / x2 * x2)))) 1 (bc10_71_17 call o1 x2 (x3 / x2) x4 _) ?_
        refine rc_b (i' := 10) (ls' := [some (vR 0), o1, some (vI x2), some (vI (x3 / x2)), some (vI (x4 + (-1)))]) (st' := []) (L' := LR (uZ (uZ z 70 ((z 70) + 1)) 71 ((z 71) + 1)) (uA f 41 (upd (f 41) (ix x4) (x3 - x3 / x2 * x2)))) 1 (bc10_71_18 call o1 x2 (x3 / x2) (x4 + (-1)) _) ?_
        exact H
/-- digit k of nine -/
def dgt (c b k : Nat) : Nat := c / b ^ (8 - k) % b
def kx (m : Nat) : Int32 := if m = 0 then -1 else nI (m - 1)
theorem kx_s (m : Nat) : kx (m + 1) = nI m := if_neg (by omega)
theorem kx_d {m : Nat} (hm : m < 2147483648) : nI m + (-1) = kx m := by
  cases m with
  | zero => decide
  | succ m =>
    rw [kx_s]
    have : nI (m + 1) - 1 = nI m := nsub (a := m) (c := 1) rfl rfl
    rw [← this, Int32.sub_eq_add_neg]
theorem div_step (c b m : Nat) (h : m < 9) : c / b ^ (8 - m) / b = c / b ^ (9 - m) := by
  rw [Nat.div_div_eq_div_mul, ← Nat.pow_succ]
  congr 2
  omega
theorem tn10 (call : QC FA) (c b : Nat) (hc : c < 2147483648) (hb : b = 3 ∨ b = 10) (o1 : Option PV) : ∀ m, m ≤ 9 → ∀ z f, (∀ i, m ≤ i → i < 9 → f 41 i = nI (dgt c b i)) → ∃ z' g, RC call (mP 71) 10 [some (vR 0), o1, some (vI (nI b)), some (vI (nI (c / b ^ (9 - m)))), some (vI (kx m))] [] (LR z f) (none, LR z' (uA f 41 g)) ∧ (∀ j, j ≠ 70 → j ≠ 71 → z' j = z j) ∧ (∀ i, i < 9 → g i = nI (dgt c b i)) := by
  intro m
  induction m with
  | zero =>
    intro _ z f h
    refine ⟨z, f 41, vcc10_71_10 _ _ _ _ _ _ _ _ ⟨fun _ => by rw [uA_id rfl], fun q => absurd q (by decide)⟩, fun _ _ _ => rfl, fun i hi => h i (by omega) hi⟩
  | succ m ih =>
    intro hm z f h
    have b0 : ¬ nI b = 0 := by rcases hb with rfl | rfl <;> decide
    have e9 : 9 - (m + 1) = 8 - m := by omega
    have hlt : c / b ^ (8 - m) < 2 ^ 31 := Nat.lt_of_le_of_lt (Nat.div_le_self _ _) hc
    have hb2 : b < 2 ^ 31 := by rcases hb with rfl | rfl <;> decide
    have hb0 : 0 < b := by rcases hb with rfl | rfl <;> decide
    have er : nI (c / b ^ (8 - m)) - nI (c / b ^ (8 - m)) / nI b * nI b = nI (dgt c b m) := nrem (x := nI (c / b ^ (8 - m))) (y := nI b) (a := c / b ^ (8 - m)) (b := b) rfl hlt hb0 hb2 rfl
    have ed : nI (c / b ^ (8 - m)) / nI b = nI (c / b ^ (9 - m)) := by rw [ndiv (x := nI (c / b ^ (8 - m))) (y := nI b) (a := c / b ^ (8 - m)) (b := b) rfl hlt hb0 hb2 rfl, div_step c b m (by omega)]
    have key : ∀ z1 : Nat → Int32, (∀ j, j ≠ 70 → j ≠ 71 → z1 j = z j) → ∃ z' g, RC call (mP 71) 10 [some (vR 0), o1, some (vI (nI b)), some (vI (nI (c / b ^ (9 - m)))), some (vI (kx m))] [] (LR z1 (uA f 41 (upd (f 41) m (nI (dgt c b m))))) (none, LR z' (uA f 41 g)) ∧ (∀ j, j ≠ 70 → j ≠ 71 → z' j = z j) ∧ (∀ i, i < 9 → g i = nI (dgt c b i)) := by
      intro z1 hz1
      obtain ⟨z', g, g1, g2, g3⟩ := ih (by omega) z1 (uA f 41 (upd (f 41) m (nI (dgt c b m)))) (fun i h1 h2 => by
        rw [uA_self]
        by_cases e : i = m
        · subst e; rw [pk_us]
        · rw [pk_un e]; exact h i (by omega) h2)
      rw [uA_uA] at g1
      exact ⟨z', g, g1, fun j q1 q2 => (g2 j q1 q2).trans (hz1 j q1 q2), g3⟩
    obtain ⟨za, ga, a1, a2⟩ := key z (fun _ _ _ => rfl)
    obtain ⟨zb, gb, b1, b2⟩ := key (uZ z 71 (z 71 + 1)) (fun j _ q => uZ_n q)
    obtain ⟨zc, gc, c1, c2⟩ := key (uZ z 70 (z 70 + 1)) (fun j q _ => uZ_n q)
    have hx : I (nI m) = m := I_nI (by omega)
    have go : ∀ res, _ → RC call (mP 71) 10 [some (vR 0), o1, some (vI (nI b)), some (vI (nI (c / b ^ (9 - (m + 1))))), some (vI (kx (m + 1)))] [] (LR z f) res := fun res H => vcc10_71_10 call o1 (nI b) (nI (c / b ^ (9 - (m + 1)))) (kx (m + 1)) z f res H
    rw [e9, kx_s, hx, ix_nI (by omega), er, ed, kx_d (by omega), pk_us] at go
    rw [e9, kx_s]
    by_cases d1 : nI (dgt c b m) = 1
    · have d2 : ¬ nI (dgt c b m) = 2 := by rw [d1]; decide
      exact ⟨zc, gc, go _ ⟨fun q => by omega, fun _ => ⟨b0, pin_nI (by omega) (by omega), b0, pin_nI (by omega) (by omega), fun q => absurd d1 q, fun _ => ⟨pin_nI (by omega) (by omega), fun _ => c1, fun q => absurd q d2⟩⟩⟩, c2⟩
    · by_cases d2 : nI (dgt c b m) = 2
      · exact ⟨zb, gb, go _ ⟨fun q => by omega, fun _ => ⟨b0, pin_nI (by omega) (by omega), b0, pin_nI (by omega) (by omega), fun _ => ⟨pin_nI (by omega) (by omega), fun q => absurd d2 q, fun _ => b1⟩, fun q => absurd q d1⟩⟩, b2⟩
      · exact ⟨za, ga, go _ ⟨fun q => by omega, fun _ => ⟨b0, pin_nI (by omega) (by omega), b0, pin_nI (by omega) (by omega), fun _ => ⟨pin_nI (by omega) (by omega), fun _ => a1, fun q => absurd q d2⟩, fun q => absurd q d1⟩⟩, a2⟩
theorem takesNine_r (d0 c b : Nat) (hc : c < 2147483648) (hb : b = 3 ∨ b = 10) (z : Nat → Int32) (f : Nat → FA) : ∃ z' g, mcall (d0 + 1) 71 [vR 0, vI (nI c), vI (nI b)] (LR z f) = some (none, LR z' (uA f 41 g)) ∧ (∀ j, j ≠ 70 → j ≠ 71 → z' j = z j) ∧ (∀ i, i < 9 → g i = nI (dgt c b i)) := by
  obtain ⟨z', g, g1, g2, g3⟩ := tn10 (mcall d0) c b hc hb (some (vI (nI c))) 9 (Nat.le_refl _) (uZ (uZ z 70 0) 71 0) f (fun i h1 h2 => by omega)
  rw [show c / b ^ (9 - 9) = c by rw [Nat.sub_self, Nat.pow_zero, Nat.div_one], kx_s] at g1
  exact ⟨z', g, mcall_i (mq71 (cu := [])).2.2 rfl (vc71_0 _ _ _ _ _ _ _ _ g1), fun j q1 q2 => (g2 j q1 q2).trans (by rw [uZ_n q2, uZ_n q1]), g3⟩
set_option maxRecDepth 100000 in
theorem b73_1 (call : QC FA) (x1 : Int32) (x2 : Int32) (x3 : Int32) (x4 : Int32) (z : Nat → Int32) (f : Nat → FA) (F : Nat) : rnG call 73 (F + 3) 0 [some (vR 0), some (vI x1), some (vI x2), some (vI x3), some (vI x4)] [] (LR z f) = rnG call 73 F 3 [some (vR 0), some (vI x1), some (vI x2), some (vI x3), some (vI x4)] [vI x1, vR 41] (LR z f) := rfl
set_option maxRecDepth 100000 in
theorem b73_2 (call : QC FA) (x : Int32) (ls : List (Option PV)) (z : Nat → Int32) (f : Nat → FA) (F : Nat) : rnG call 73 (F + 1) 3 ls [vI x, vR 41] (LR z f) = bif (Nat.beq 0 0 && pin x 9) then rnG call 73 F 4 ls [vI (f 41 (ix x))] (LR z f) else none := rfl
set_option maxRecDepth 100000 in
theorem b73_3 (call : QC FA) (x1 : Int32) (x2 : Int32) (x3 : Int32) (x4 : Int32) (s0 : Int32) (L : QH FA) (F : Nat) : rnG call 73 (F + 1) 4 [some (vR 0), some (vI x1), some (vI x2), some (vI x3), some (vI x4)] [vI s0] L = rnG call 73 F 5 [some (vR 0), some (vI x1), some (vI x2), some (vI x3), some (vI x4)] [vI x4, vI s0] L := rfl
set_option maxRecDepth 100000 in
theorem b73_4 (call : QC FA) (x y : Int32) (ls : List (Option PV)) (L : QH FA) (F : Nat) : rnG call 73 (F + 1) 5 ls [vI y, vI x] L = bif pcmp 1 x y then rnG call 73 F 20 ls [] L else rnG call 73 F 6 ls [] L := rfl
set_option maxRecDepth 100000 in
theorem b73_5 (call : QC FA) (x1 : Int32) (x2 : Int32) (x3 : Int32) (x4 : Int32) (L : QH FA) (F : Nat) : rnG call 73 (F + 1) 20 [some (vR 0), some (vI x1), some (vI x2), some (vI x3), some (vI x4)] [] L = rnG call 73 F 21 [some (vR 0), some (vI x1), some (vI x2), some (vI x3), some (vI x4)] [vI 0] L := rfl
set_option maxRecDepth 100000 in
theorem b73_6 (call : QC FA) (ls : List (Option PV)) (L : QH FA) (F : Nat) : rnG call 73 (F + 1) 21 ls [vI 0] L = some (some (vI 0), L) := rfl
set_option maxRecDepth 100000 in
theorem b73_7 (call : QC FA) (x1 : Int32) (x2 : Int32) (x3 : Int32) (x4 : Int32) (z : Nat → Int32) (f : Nat → FA) (F : Nat) : rnG call 73 (F + 3) 6 [some (vR 0), some (vI x1), some (vI x2), some (vI x3), some (vI x4)] [] (LR z f) = rnG call 73 F 9 [some (vR 0), some (vI x1), some (vI x2), some (vI x3), some (vI x4)] [vI x2, vR 41] (LR z f) := rfl
set_option maxRecDepth 100000 in
theorem b73_8 (call : QC FA) (x : Int32) (ls : List (Option PV)) (z : Nat → Int32) (f : Nat → FA) (F : Nat) : rnG call 73 (F + 1) 9 ls [vI x, vR 41] (LR z f) = bif (Nat.beq 0 0 && pin x 9) then rnG call 73 F 10 ls [vI (f 41 (ix x))] (LR z f) else none := rfl
set_option maxRecDepth 100000 in
theorem b73_9 (call : QC FA) (x1 : Int32) (x2 : Int32) (x3 : Int32) (x4 : Int32) (s0 : Int32) (L : QH FA) (F : Nat) : rnG call 73 (F + 1) 10 [some (vR 0), some (vI x1), some (vI x2), some (vI x3), some (vI x4)] [vI s0] L = rnG call 73 F 11 [some (vR 0), some (vI x1), some (vI x2), some (vI x3), some (vI x4)] [vI x4, vI s0] L := rfl
set_option maxRecDepth 100000 in
theorem b73_10 (call : QC FA) (x y : Int32) (ls : List (Option PV)) (L : QH FA) (F : Nat) : rnG call 73 (F + 1) 11 ls [vI y, vI x] L = bif pcmp 1 x y then rnG call 73 F 20 ls [] L else rnG call 73 F 12 ls [] L := rfl
set_option maxRecDepth 100000 in
theorem b73_11 (call : QC FA) (x1 : Int32) (x2 : Int32) (x3 : Int32) (x4 : Int32) (z : Nat → Int32) (f : Nat → FA) (F : Nat) : rnG call 73 (F + 3) 12 [some (vR 0), some (vI x1), some (vI x2), some (vI x3), some (vI x4)] [] (LR z f) = rnG call 73 F 15 [some (vR 0), some (vI x1), some (vI x2), some (vI x3), some (vI x4)] [vI x3, vR 41] (LR z f) := rfl
set_option maxRecDepth 100000 in
theorem b73_12 (call : QC FA) (x : Int32) (ls : List (Option PV)) (z : Nat → Int32) (f : Nat → FA) (F : Nat) : rnG call 73 (F + 1) 15 ls [vI x, vR 41] (LR z f) = bif (Nat.beq 0 0 && pin x 9) then rnG call 73 F 16 ls [vI (f 41 (ix x))] (LR z f) else none := rfl
set_option maxRecDepth 100000 in
theorem b73_13 (call : QC FA) (x1 : Int32) (x2 : Int32) (x3 : Int32) (x4 : Int32) (s0 : Int32) (L : QH FA) (F : Nat) : rnG call 73 (F + 1) 16 [some (vR 0), some (vI x1), some (vI x2), some (vI x3), some (vI x4)] [vI s0] L = rnG call 73 F 17 [some (vR 0), some (vI x1), some (vI x2), some (vI x3), some (vI x4)] [vI x4, vI s0] L := rfl
set_option maxRecDepth 100000 in
theorem b73_14 (call : QC FA) (x y : Int32) (ls : List (Option PV)) (L : QH FA) (F : Nat) : rnG call 73 (F + 1) 17 ls [vI y, vI x] L = bif pcmp 1 x y then rnG call 73 F 20 ls [] L else rnG call 73 F 18 ls [] L := rfl
set_option maxRecDepth 100000 in
theorem b73_15 (call : QC FA) (x1 : Int32) (x2 : Int32) (x3 : Int32) (x4 : Int32) (L : QH FA) (F : Nat) : rnG call 73 (F + 2) 18 [some (vR 0), some (vI x1), some (vI x2), some (vI x3), some (vI x4)] [] L = rnG call 73 F 21 [some (vR 0), some (vI x1), some (vI x2), some (vI x3), some (vI x4)] [vI 1] L := rfl
set_option maxRecDepth 100000 in
theorem b73_16 (call : QC FA) (ls : List (Option PV)) (L : QH FA) (F : Nat) : rnG call 73 (F + 1) 21 ls [vI 1] L = some (some (vI 1), L) := rfl
theorem vc73_0 (call : QC FA) (x1 : Int32) (x2 : Int32) (x3 : Int32) (x4 : Int32) (z : Nat → Int32) (f : Nat → FA) (res : Option PV × QH FA) (H : (pin x1 9 = true ∧ ((¬ f 41 (ix x1) = x4 → res = (some (vI 0), LR z f)) ∧ (f 41 (ix x1) = x4 → (pin x2 9 = true ∧ ((¬ f 41 (ix x2) = x4 → res = (some (vI 0), LR z f)) ∧ (f 41 (ix x2) = x4 → (pin x3 9 = true ∧ ((¬ f 41 (ix x3) = x4 → res = (some (vI 0), LR z f)) ∧ (f 41 (ix x3) = x4 → res = (some (vI 1), LR z f))))))))))) : RC call (mP 73) 0 [some (vR 0), some (vI x1), some (vI x2), some (vI x3), some (vI x4)] [] (LR z f) res := by
  refine rc_b (i' := 3) (ls' := [some (vR 0), some (vI x1), some (vI x2), some (vI x3), some (vI x4)]) (st' := [vI x1, vR 41]) (L' := LR z f) 3 (b73_1 call x1 x2 x3 x4 z f) ?_
  obtain ⟨g1, H⟩ := H
  refine rc_g (i' := 4) (ls' := [some (vR 0), some (vI x1), some (vI x2), some (vI x3), some (vI x4)]) (st' := [vI (f 41 (ix x1))]) (L' := LR z f) (b73_2 call x1 _ z f) (pinG g1) ?_
  refine rc_b (i' := 5) (ls' := [some (vR 0), some (vI x1), some (vI x2), some (vI x3), some (vI x4)]) (st' := [vI x4, vI (f 41 (ix x1))]) (L' := LR z f) 1 (b73_3 call x1 x2 x3 x4 (f 41 (ix x1)) _) ?_
  refine rc_if (it := 20) (ie := 6) (ls' := [some (vR 0), some (vI x1), some (vI x2), some (vI x3), some (vI x4)]) (st' := []) (b73_4 call (f 41 (ix x1)) x4 _ _) (fun q1 => ?_) (fun q1 => ?_)
  · have H := H.1 (cI1t q1)
    refine rc_b (i' := 21) (ls' := [some (vR 0), some (vI x1), some (vI x2), some (vI x3), some (vI x4)]) (st' := [vI 0]) (L' := LR z f) 1 (b73_5 call x1 x2 x3 x4 _) ?_
    subst H
    exact rc_ret (b73_6 call _ _)
  · have H := H.2 (cI1f q1)
    refine rc_b (i' := 9) (ls' := [some (vR 0), some (vI x1), some (vI x2), some (vI x3), some (vI x4)]) (st' := [vI x2, vR 41]) (L' := LR z f) 3 (b73_7 call x1 x2 x3 x4 z f) ?_
    obtain ⟨g1, H⟩ := H
    refine rc_g (i' := 10) (ls' := [some (vR 0), some (vI x1), some (vI x2), some (vI x3), some (vI x4)]) (st' := [vI (f 41 (ix x2))]) (L' := LR z f) (b73_8 call x2 _ z f) (pinG g1) ?_
    refine rc_b (i' := 11) (ls' := [some (vR 0), some (vI x1), some (vI x2), some (vI x3), some (vI x4)]) (st' := [vI x4, vI (f 41 (ix x2))]) (L' := LR z f) 1 (b73_9 call x1 x2 x3 x4 (f 41 (ix x2)) _) ?_
    refine rc_if (it := 20) (ie := 12) (ls' := [some (vR 0), some (vI x1), some (vI x2), some (vI x3), some (vI x4)]) (st' := []) (b73_10 call (f 41 (ix x2)) x4 _ _) (fun q2 => ?_) (fun q2 => ?_)
    · have H := H.1 (cI1t q2)
      refine rc_b (i' := 21) (ls' := [some (vR 0), some (vI x1), some (vI x2), some (vI x3), some (vI x4)]) (st' := [vI 0]) (L' := LR z f) 1 (b73_5 call x1 x2 x3 x4 _) ?_
      subst H
      exact rc_ret (b73_6 call _ _)
    · have H := H.2 (cI1f q2)
      refine rc_b (i' := 15) (ls' := [some (vR 0), some (vI x1), some (vI x2), some (vI x3), some (vI x4)]) (st' := [vI x3, vR 41]) (L' := LR z f) 3 (b73_11 call x1 x2 x3 x4 z f) ?_
      obtain ⟨g1, H⟩ := H
      refine rc_g (i' := 16) (ls' := [some (vR 0), some (vI x1), some (vI x2), some (vI x3), some (vI x4)]) (st' := [vI (f 41 (ix x3))]) (L' := LR z f) (b73_12 call x3 _ z f) (pinG g1) ?_
      refine rc_b (i' := 17) (ls' := [some (vR 0), some (vI x1), some (vI x2), some (vI x3), some (vI x4)]) (st' := [vI x4, vI (f 41 (ix x3))]) (L' := LR z f) 1 (b73_13 call x1 x2 x3 x4 (f 41 (ix x3)) _) ?_
      refine rc_if (it := 20) (ie := 18) (ls' := [some (vR 0), some (vI x1), some (vI x2), some (vI x3), some (vI x4)]) (st' := []) (b73_14 call (f 41 (ix x3)) x4 _ _) (fun q3 => ?_) (fun q3 => ?_)
      · have H := H.1 (cI1t q3)
        refine rc_b (i' := 21) (ls' := [some (vR 0), some (vI x1), some (vI x2), some (vI x3), some (vI x4)]) (st' := [vI 0]) (L' := LR z f) 1 (b73_5 call x1 x2 x3 x4 _) ?_
        subst H
        exact rc_ret (b73_6 call _ _)
      · have H := H.2 (cI1f q3)
        refine rc_b (i' := 21) (ls' := [some (vR 0), some (vI x1), some (vI x2), some (vI x3), some (vI x4)]) (st' := [vI 1]) (L' := LR z f) 2 (b73_15 call x1 x2 x3 x4 _) ?_
        subst H
        exact rc_ret (b73_16 call _ _)
theorem areThree_r (d0 a b c : Nat) (v : Int32) (ha : a < 9) (hb : b < 9) (hc : c < 9) (z : Nat → Int32) (f : Nat → FA) : ∃ r, mcall (d0 + 1) 73 [vR 0, vI (nI a), vI (nI b), vI (nI c), vI v] (LR z f) = some (some (vI r), LR z f) := by
  have go : ∀ res, _ → mcall (d0 + 1) 73 [vR 0, vI (nI a), vI (nI b), vI (nI c), vI v] (LR z f) = some res := fun res H => mcall_i (mq73 (cu := [])).2.2 rfl (vc73_0 (mcall d0) (nI a) (nI b) (nI c) v z f res H)
  have p1 : pin (nI a) 9 = true := pin_nI ha (by omega)
  have p2 : pin (nI b) 9 = true := pin_nI hb (by omega)
  have p3 : pin (nI c) 9 = true := pin_nI hc (by omega)
  by_cases c1 : f 41 (ix (nI a)) = v
  · by_cases c2 : f 41 (ix (nI b)) = v
    · by_cases c3 : f 41 (ix (nI c)) = v
      · exact ⟨1, go _ ⟨p1, fun q => absurd c1 q, fun _ => ⟨p2, fun q => absurd c2 q, fun _ => ⟨p3, fun q => absurd c3 q, fun _ => rfl⟩⟩⟩⟩
      · exact ⟨0, go _ ⟨p1, fun q => absurd c1 q, fun _ => ⟨p2, fun q => absurd c2 q, fun _ => ⟨p3, fun _ => rfl, fun q => absurd q c3⟩⟩⟩⟩
    · exact ⟨0, go _ ⟨p1, fun q => absurd c1 q, fun _ => ⟨p2, fun _ => rfl, fun q => absurd q c2⟩⟩⟩
  · exact ⟨0, go _ ⟨p1, fun _ => rfl, fun q => absurd q c1⟩⟩
set_option maxRecDepth 100000 in
theorem b72_1 (call : QC FA) (x1 : Int32) (o2 : Option PV) (L : QH FA) (F : Nat) : rnG call 72 (F + 2) 0 [some (vR 0), some (vI x1), o2] [] L = rnG call 72 F 2 [some (vR 0), some (vI x1), some (vI 0)] [] L := rfl
theorem vc72_0 (d : Nat) (x1 : Int32) (o2 : Option PV) (z : Nat → Int32) (f : Nat → FA) (res : Option PV × QH FA) (H : RC (mcall (d + 1)) (mP 72) 2 [some (vR 0), some (vI x1), some (vI 0)] [] (LR z f) res) : RC (mcall (d + 1)) (mP 72) 0 [some (vR 0), some (vI x1), o2] [] (LR z f) res := by
  refine rc_b (i' := 2) (ls' := [some (vR 0), some (vI x1), some (vI 0)]) (st' := []) (L' := LR z f) 2 (b72_1 (mcall (d + 1)) x1 o2 _) ?_
  exact H
set_option maxRecDepth 100000 in
theorem bc2_72_1 (call : QC FA) (x1 : Int32) (x2 : Int32) (L : QH FA) (F : Nat) : rnG call 72 (F + 2) 2 [some (vR 0), some (vI x1), some (vI x2)] [] L = rnG call 72 F 4 [some (vR 0), some (vI x1), some (vI x2)] [vI 3, vI x2] L := rfl
set_option maxRecDepth 100000 in
theorem bc2_72_2 (call : QC FA) (x y : Int32) (ls : List (Option PV)) (L : QH FA) (F : Nat) : rnG call 72 (F + 1) 4 ls [vI y, vI x] L = bif pcmp 3 x y then rnG call 72 F 37 ls [] L else rnG call 72 F 5 ls [] L := rfl
set_option maxRecDepth 100000 in
theorem bc2_72_3 (call : QC FA) (x1 : Int32) (x2 : Int32) (L : QH FA) (F : Nat) : rnG call 72 (F + 5) 37 [some (vR 0), some (vI x1), some (vI x2)] [] L = rnG call 72 F 42 [some (vR 0), some (vI x1), some (vI x2)] [vI x1, vI 8, vI 4, vI 0, vR 0] L := rfl
set_option maxRecDepth 100000 in
theorem bc2_72_4 (call : QC FA) (a0 : Int32) (a1 : Int32) (a2 : Int32) (a3 : Int32) (ls : List (Option PV)) (z : Nat → Int32) (f : Nat → FA) (F : Nat) : rnG call 72 (F + 1) 42 ls [vI a3, vI a2, vI a1, vI a0, vR 0] (LR z f) = cbd (call 73 [vR 0, vI a0, vI a1, vI a2, vI a3] (LR z f)) (fun r L' => rnG call 72 F 43 ls (r.toList ++ []) L') := pcY (ih := rnG call 72 F) (call := call) (a := 73) (b := 4) (v := 12) (t := 43) (x := 0) (ls := ls) (As := [vI a0, vI a1, vI a2, vI a3]) (st' := []) (L := LR z f) rfl rfl rfl
set_option maxRecDepth 100000 in
theorem bc2_72_5 (call : QC FA) (x : Int32) (ls : List (Option PV)) (L : QH FA) (F : Nat) : rnG call 72 (F + 1) 43 ls [vI x] L = bif pcmp 1 x 0 then rnG call 72 F 51 ls [] L else rnG call 72 F 44 ls [] L := rfl
set_option maxRecDepth 100000 in
theorem bc2_72_6 (call : QC FA) (x1 : Int32) (x2 : Int32) (L : QH FA) (F : Nat) : rnG call 72 (F + 2) 51 [some (vR 0), some (vI x1), some (vI x2)] [] L = rnG call 72 F 54 [some (vR 0), some (vI x1), some (vI x2)] [vI 1] L := rfl
set_option maxRecDepth 100000 in
theorem bc2_72_7 (call : QC FA) (ls : List (Option PV)) (L : QH FA) (F : Nat) : rnG call 72 (F + 1) 54 ls [vI 1] L = some (some (vI 1), L) := rfl
set_option maxRecDepth 100000 in
theorem bc2_72_8 (call : QC FA) (x1 : Int32) (x2 : Int32) (L : QH FA) (F : Nat) : rnG call 72 (F + 5) 44 [some (vR 0), some (vI x1), some (vI x2)] [] L = rnG call 72 F 49 [some (vR 0), some (vI x1), some (vI x2)] [vI x1, vI 6, vI 4, vI 2, vR 0] L := rfl
set_option maxRecDepth 100000 in
theorem bc2_72_9 (call : QC FA) (a0 : Int32) (a1 : Int32) (a2 : Int32) (a3 : Int32) (ls : List (Option PV)) (z : Nat → Int32) (f : Nat → FA) (F : Nat) : rnG call 72 (F + 1) 49 ls [vI a3, vI a2, vI a1, vI a0, vR 0] (LR z f) = cbd (call 73 [vR 0, vI a0, vI a1, vI a2, vI a3] (LR z f)) (fun r L' => rnG call 72 F 50 ls (r.toList ++ []) L') := pcY (ih := rnG call 72 F) (call := call) (a := 73) (b := 4) (v := 12) (t := 50) (x := 0) (ls := ls) (As := [vI a0, vI a1, vI a2, vI a3]) (st' := []) (L := LR z f) rfl rfl rfl
set_option maxRecDepth 100000 in
theorem bc2_72_10 (call : QC FA) (x : Int32) (ls : List (Option PV)) (L : QH FA) (F : Nat) : rnG call 72 (F + 1) 50 ls [vI x] L = bif pcmp 0 x 0 then rnG call 72 F 53 ls [] L else rnG call 72 F 51 ls [] L := rfl
set_option maxRecDepth 100000 in
theorem bc2_72_11 (call : QC FA) (x1 : Int32) (x2 : Int32) (L : QH FA) (F : Nat) : rnG call 72 (F + 1) 53 [some (vR 0), some (vI x1), some (vI x2)] [] L = rnG call 72 F 54 [some (vR 0), some (vI x1), some (vI x2)] [vI 0] L := rfl
set_option maxRecDepth 100000 in
theorem bc2_72_12 (call : QC FA) (ls : List (Option PV)) (L : QH FA) (F : Nat) : rnG call 72 (F + 1) 54 ls [vI 0] L = some (some (vI 0), L) := rfl
set_option maxRecDepth 100000 in
theorem bc2_72_13 (call : QC FA) (x1 : Int32) (x2 : Int32) (L : QH FA) (F : Nat) : rnG call 72 (F + 14) 5 [some (vR 0), some (vI x1), some (vI x2)] [] L = rnG call 72 F 19 [some (vR 0), some (vI x1), some (vI x2)] [vI ((3 * x2) + 2), vI ((3 * x2) + 1), vI (3 * x2), vR 0] L := rfl
set_option maxRecDepth 100000 in
theorem bc2_72_14 (call : QC FA) (x1 : Int32) (x2 : Int32) (s0 : Int32) (s1 : Int32) (s2 : Int32) (L : QH FA) (F : Nat) : rnG call 72 (F + 1) 19 [some (vR 0), some (vI x1), some (vI x2)] [vI s0, vI s1, vI s2, vR 0] L = rnG call 72 F 20 [some (vR 0), some (vI x1), some (vI x2)] [vI x1, vI s0, vI s1, vI s2, vR 0] L := rfl
set_option maxRecDepth 100000 in
theorem bc2_72_15 (call : QC FA) (a0 : Int32) (a1 : Int32) (a2 : Int32) (a3 : Int32) (ls : List (Option PV)) (z : Nat → Int32) (f : Nat → FA) (F : Nat) : rnG call 72 (F + 1) 20 ls [vI a3, vI a2, vI a1, vI a0, vR 0] (LR z f) = cbd (call 73 [vR 0, vI a0, vI a1, vI a2, vI a3] (LR z f)) (fun r L' => rnG call 72 F 21 ls (r.toList ++ []) L') := pcY (ih := rnG call 72 F) (call := call) (a := 73) (b := 4) (v := 12) (t := 21) (x := 0) (ls := ls) (As := [vI a0, vI a1, vI a2, vI a3]) (st' := []) (L := LR z f) rfl rfl rfl
set_option maxRecDepth 100000 in
theorem bc2_72_16 (call : QC FA) (x : Int32) (ls : List (Option PV)) (L : QH FA) (F : Nat) : rnG call 72 (F + 1) 21 ls [vI x] L = bif pcmp 1 x 0 then rnG call 72 F 33 ls [] L else rnG call 72 F 22 ls [] L := rfl
set_option maxRecDepth 100000 in
theorem bc2_72_17 (call : QC FA) (x1 : Int32) (x2 : Int32) (L : QH FA) (F : Nat) : rnG call 72 (F + 1) 33 [some (vR 0), some (vI x1), some (vI x2)] [] L = rnG call 72 F 34 [some (vR 0), some (vI x1), some (vI x2)] [vI 1] L := rfl
set_option maxRecDepth 100000 in
theorem bc2_72_18 (call : QC FA) (ls : List (Option PV)) (L : QH FA) (F : Nat) : rnG call 72 (F + 1) 34 ls [vI 1] L = some (some (vI 1), L) := rfl
set_option maxRecDepth 100000 in
theorem bc2_72_19 (call : QC FA) (x1 : Int32) (x2 : Int32) (L : QH FA) (F : Nat) : rnG call 72 (F + 9) 22 [some (vR 0), some (vI x1), some (vI x2)] [] L = rnG call 72 F 31 [some (vR 0), some (vI x1), some (vI x2)] [vI x1, vI (x2 + 6), vI (x2 + 3), vI x2, vR 0] L := rfl
set_option maxRecDepth 100000 in
theorem bc2_72_20 (call : QC FA) (a0 : Int32) (a1 : Int32) (a2 : Int32) (a3 : Int32) (ls : List (Option PV)) (z : Nat → Int32) (f : Nat → FA) (F : Nat) : rnG call 72 (F + 1) 31 ls [vI a3, vI a2, vI a1, vI a0, vR 0] (LR z f) = cbd (call 73 [vR 0, vI a0, vI a1, vI a2, vI a3] (LR z f)) (fun r L' => rnG call 72 F 32 ls (r.toList ++ []) L') := pcY (ih := rnG call 72 F) (call := call) (a := 73) (b := 4) (v := 12) (t := 32) (x := 0) (ls := ls) (As := [vI a0, vI a1, vI a2, vI a3]) (st' := []) (L := LR z f) rfl rfl rfl
set_option maxRecDepth 100000 in
theorem bc2_72_21 (call : QC FA) (x : Int32) (ls : List (Option PV)) (L : QH FA) (F : Nat) : rnG call 72 (F + 1) 32 ls [vI x] L = bif pcmp 0 x 0 then rnG call 72 F 35 ls [] L else rnG call 72 F 33 ls [] L := rfl
set_option maxRecDepth 100000 in
theorem bc2_72_22 (call : QC FA) (x1 : Int32) (x2 : Int32) (L : QH FA) (F : Nat) : rnG call 72 (F + 1) 35 [some (vR 0), some (vI x1), some (vI x2)] [] L = rnG call 72 F 36 [some (vR 0), some (vI x1), some (vI (x2 + 1))] [] L := rfl
set_option maxRecDepth 100000 in
theorem bc2_72_23 (call : QC FA) (x1 : Int32) (x2 : Int32) (L : QH FA) (F : Nat) : rnG call 72 (F + 1) 36 [some (vR 0), some (vI x1), some (vI x2)] [] L = rnG call 72 F 2 [some (vR 0), some (vI x1), some (vI x2)] [] L := rfl
theorem vcc2_72_2 (d : Nat) (x1 : Int32) (x2 : Int32) (z : Nat → Int32) (f : Nat → FA) (res : Option PV × QH FA) (H : ((3 ≤ I x2 → (∃ (r1 : Int32) (z1 : Nat → Int32) (f1 : Nat → FA), (mcall (d + 1)) 73 [vR 0, vI 0, vI 4, vI 8, vI x1] (LR z f) = some (some (vI r1), LR z1 f1) ∧ ((¬ r1 = 0 → res = (some (vI 1), LR z1 f1)) ∧ (r1 = 0 → (∃ (r2 : Int32) (z2 : Nat → Int32) (f2 : Nat → FA), (mcall (d + 1)) 73 [vR 0, vI 2, vI 4, vI 6, vI x1] (LR z1 f1) = some (some (vI r2), LR z2 f2) ∧ ((r2 = 0 → res = (some (vI 0), LR z2 f2)) ∧ (¬ r2 = 0 → res = (some (vI 1), LR z2 f2)))))))) ∧ (I x2 < 3 → (∃ (r3 : Int32) (z3 : Nat → Int32) (f3 : Nat → FA), (mcall (d + 1)) 73 [vR 0, vI (3 * x2), vI ((3 * x2) + 1), vI ((3 * x2) + 2), vI x1] (LR z f) = some (some (vI r3), LR z3 f3) ∧ ((¬ r3 = 0 → res = (some (vI 1), LR z3 f3)) ∧ (r3 = 0 → (∃ (r4 : Int32) (z4 : Nat → Int32) (f4 : Nat → FA), (mcall (d + 1)) 73 [vR 0, vI x2, vI (x2 + 3), vI (x2 + 6), vI x1] (LR z3 f3) = some (some (vI r4), LR z4 f4) ∧ ((r4 = 0 → RC (mcall (d + 1)) (mP 72) 2 [some (vR 0), some (vI x1), some (vI (x2 + 1))] [] (LR z4 f4) res) ∧ (¬ r4 = 0 → res = (some (vI 1), LR z4 f4)))))))))) : RC (mcall (d + 1)) (mP 72) 2 [some (vR 0), some (vI x1), some (vI x2)] [] (LR z f) res := by
  refine rc_b (i' := 4) (ls' := [some (vR 0), some (vI x1), some (vI x2)]) (st' := [vI 3, vI x2]) (L' := LR z f) 2 (bc2_72_1 (mcall (d + 1)) x1 x2 _) ?_
  refine rc_if (it := 37) (ie := 5) (ls' := [some (vR 0), some (vI x1), some (vI x2)]) (st' := []) (bc2_72_2 (mcall (d + 1)) x2 3 _ _) (fun q1 => ?_) (fun q1 => ?_)
  · have H := H.1 (cI3t q1 rfl rfl)
    refine rc_b (i' := 42) (ls' := [some (vR 0), some (vI x1), some (vI x2)]) (st' := [vI x1, vI 8, vI 4, vI 0, vR 0]) (L' := LR z f) 5 (bc2_72_3 (mcall (d + 1)) x1 x2 _) ?_
    obtain ⟨r1, z1, f1, hc, H⟩ := H
    refine rc_call (t := 43) (ls' := [some (vR 0), some (vI x1), some (vI x2)]) (st' := []) (bc2_72_4 (mcall (d + 1)) 0 4 8 x1 _ z f) hc ?_
    show RC (mcall (d + 1)) (mP 72) 43 [some (vR 0), some (vI x1), some (vI x2)] [vI r1] (LR z1 f1) res
    refine rc_if (it := 51) (ie := 44) (ls' := [some (vR 0), some (vI x1), some (vI x2)]) (st' := []) (bc2_72_5 (mcall (d + 1)) r1 _ _) (fun q2 => ?_) (fun q2 => ?_)
    · have H := H.1 (cI1t q2)
      refine rc_b (i' := 54) (ls' := [some (vR 0), some (vI x1), some (vI x2)]) (st' := [vI 1]) (L' := LR z1 f1) 2 (bc2_72_6 (mcall (d + 1)) x1 x2 _) ?_
      subst H
      exact rc_ret (bc2_72_7 (mcall (d + 1)) _ _)
    · have H := H.2 (cI1f q2)
      refine rc_b (i' := 49) (ls' := [some (vR 0), some (vI x1), some (vI x2)]) (st' := [vI x1, vI 6, vI 4, vI 2, vR 0]) (L' := LR z1 f1) 5 (bc2_72_8 (mcall (d + 1)) x1 x2 _) ?_
      obtain ⟨r2, z2, f2, hc, H⟩ := H
      refine rc_call (t := 50) (ls' := [some (vR 0), some (vI x1), some (vI x2)]) (st' := []) (bc2_72_9 (mcall (d + 1)) 2 4 6 x1 _ z1 f1) hc ?_
      show RC (mcall (d + 1)) (mP 72) 50 [some (vR 0), some (vI x1), some (vI x2)] [vI r2] (LR z2 f2) res
      refine rc_if (it := 53) (ie := 51) (ls' := [some (vR 0), some (vI x1), some (vI x2)]) (st' := []) (bc2_72_10 (mcall (d + 1)) r2 _ _) (fun q3 => ?_) (fun q3 => ?_)
      · have H := H.1 (cI0t q3)
        refine rc_b (i' := 54) (ls' := [some (vR 0), some (vI x1), some (vI x2)]) (st' := [vI 0]) (L' := LR z2 f2) 1 (bc2_72_11 (mcall (d + 1)) x1 x2 _) ?_
        subst H
        exact rc_ret (bc2_72_12 (mcall (d + 1)) _ _)
      · have H := H.2 (cI0f q3)
        refine rc_b (i' := 54) (ls' := [some (vR 0), some (vI x1), some (vI x2)]) (st' := [vI 1]) (L' := LR z2 f2) 2 (bc2_72_6 (mcall (d + 1)) x1 x2 _) ?_
        subst H
        exact rc_ret (bc2_72_7 (mcall (d + 1)) _ _)
  · have H := H.2 (cI3f q1 rfl rfl)
    refine rc_b (i' := 19) (ls' := [some (vR 0), some (vI x1), some (vI x2)]) (st' := [vI ((3 * x2) + 2), vI ((3 * x2) + 1), vI (3 * x2), vR 0]) (L' := LR z f) 14 (bc2_72_13 (mcall (d + 1)) x1 x2 _) ?_
    refine rc_b (i' := 20) (ls' := [some (vR 0), some (vI x1), some (vI x2)]) (st' := [vI x1, vI ((3 * x2) + 2), vI ((3 * x2) + 1), vI (3 * x2), vR 0]) (L' := LR z f) 1 (bc2_72_14 (mcall (d + 1)) x1 x2 ((3 * x2) + 2) ((3 * x2) + 1) (3 * x2) _) ?_
    obtain ⟨r3, z3, f3, hc, H⟩ := H
    refine rc_call (t := 21) (ls' := [some (vR 0), some (vI x1), some (vI x2)]) (st' := []) (bc2_72_15 (mcall (d + 1)) (3 * x2) ((3 * x2) + 1) ((3 * x2) + 2) x1 _ z f) hc ?_
    show RC (mcall (d + 1)) (mP 72) 21 [some (vR 0), some (vI x1), some (vI x2)] [vI r3] (LR z3 f3) res
    refine rc_if (it := 33) (ie := 22) (ls' := [some (vR 0), some (vI x1), some (vI x2)]) (st' := []) (bc2_72_16 (mcall (d + 1)) r3 _ _) (fun q4 => ?_) (fun q4 => ?_)
    · have H := H.1 (cI1t q4)
      refine rc_b (i' := 34) (ls' := [some (vR 0), some (vI x1), some (vI x2)]) (st' := [vI 1]) (L' := LR z3 f3) 1 (bc2_72_17 (mcall (d + 1)) x1 x2 _) ?_
      subst H
      exact rc_ret (bc2_72_18 (mcall (d + 1)) _ _)
    · have H := H.2 (cI1f q4)
      refine rc_b (i' := 31) (ls' := [some (vR 0), some (vI x1), some (vI x2)]) (st' := [vI x1, vI (x2 + 6), vI (x2 + 3), vI x2, vR 0]) (L' := LR z3 f3) 9 (bc2_72_19 (mcall (d + 1)) x1 x2 _) ?_
      obtain ⟨r4, z4, f4, hc, H⟩ := H
      refine rc_call (t := 32) (ls' := [some (vR 0), some (vI x1), some (vI x2)]) (st' := []) (bc2_72_20 (mcall (d + 1)) x2 (x2 + 3) (x2 + 6) x1 _ z3 f3) hc ?_
      show RC (mcall (d + 1)) (mP 72) 32 [some (vR 0), some (vI x1), some (vI x2)] [vI r4] (LR z4 f4) res
      refine rc_if (it := 35) (ie := 33) (ls' := [some (vR 0), some (vI x1), some (vI x2)]) (st' := []) (bc2_72_21 (mcall (d + 1)) r4 _ _) (fun q5 => ?_) (fun q5 => ?_)
      · have H := H.1 (cI0t q5)
        refine rc_b (i' := 36) (ls' := [some (vR 0), some (vI x1), some (vI (x2 + 1))]) (st' := []) (L' := LR z4 f4) 1 (bc2_72_22 (mcall (d + 1)) x1 x2 _) ?_
        refine rc_b (i' := 2) (ls' := [some (vR 0), some (vI x1), some (vI (x2 + 1))]) (st' := []) (L' := LR z4 f4) 1 (bc2_72_23 (mcall (d + 1)) x1 (x2 + 1) _) ?_
        exact H
      · have H := H.2 (cI0f q5)
        refine rc_b (i' := 34) (ls' := [some (vR 0), some (vI x1), some (vI x2)]) (st' := [vI 1]) (L' := LR z4 f4) 1 (bc2_72_17 (mcall (d + 1)) x1 x2 _) ?_
        subst H
        exact rc_ret (bc2_72_18 (mcall (d + 1)) _ _)
theorem ht2 (d0 : Nat) (v : Int32) (z : Nat → Int32) (f : Nat → FA) : ∀ t k, k + t = 3 → ∃ r, RC (mcall (d0 + 1)) (mP 72) 2 [some (vR 0), some (vI v), some (vI (nI k))] [] (LR z f) (some (vI r), LR z f) := by
  intro t
  induction t with
  | zero =>
    intro k hk
    obtain rfl : k = 3 := by omega
    obtain ⟨r1, h1⟩ := areThree_r d0 0 4 8 v (by omega) (by omega) (by omega) z f
    obtain ⟨r2, h2⟩ := areThree_r d0 2 4 6 v (by omega) (by omega) (by omega) z f
    by_cases c1 : r1 = 0
    · by_cases c2 : r2 = 0
      · exact ⟨0, vcc2_72_2 _ _ _ _ _ _ ⟨fun _ => ⟨r1, z, f, h1, fun q => absurd c1 q, fun _ => ⟨r2, z, f, h2, fun _ => rfl, fun q => absurd c2 q⟩⟩, fun q => absurd q (by decide)⟩⟩
      · exact ⟨1, vcc2_72_2 _ _ _ _ _ _ ⟨fun _ => ⟨r1, z, f, h1, fun q => absurd c1 q, fun _ => ⟨r2, z, f, h2, fun q => absurd q c2, fun _ => rfl⟩⟩, fun q => absurd q (by decide)⟩⟩
    · exact ⟨1, vcc2_72_2 _ _ _ _ _ _ ⟨fun _ => ⟨r1, z, f, h1, fun _ => rfl, fun q => absurd q c1⟩, fun q => absurd q (by decide)⟩⟩
  | succ t ih =>
    intro k hk
    obtain ⟨r1, h1⟩ := areThree_r d0 (3 * k) (3 * k + 1) (3 * k + 2) v (by omega) (by omega) (by omega) z f
    obtain ⟨r2, h2⟩ := areThree_r d0 k (k + 3) (k + 6) v (by omega) (by omega) (by omega) z f
    have go : ∀ res, _ → RC (mcall (d0 + 1)) (mP 72) 2 [some (vR 0), some (vI v), some (vI (nI k))] [] (LR z f) res := fun res H => vcc2_72_2 d0 v (nI k) z f res H
    rw [I_nI (by omega), nmul (x := 3) (y := nI k) (a := 3) (b := k) rfl rfl, show nI (3 * k) + 1 = nI (3 * k + 1) from nI_add _ 1, show nI (3 * k) + 2 = nI (3 * k + 2) from nI_add _ 2, show nI k + 3 = nI (k + 3) from nI_add _ 3, show nI k + 6 = nI (k + 6) from nI_add _ 6, show nI k + 1 = nI (k + 1) from nI_add _ 1] at go
    by_cases c1 : r1 = 0
    · by_cases c2 : r2 = 0
      · obtain ⟨r, hr⟩ := ih (k + 1) (by omega)
        exact ⟨r, go _ ⟨fun q => by omega, fun _ => ⟨r1, z, f, h1, fun q => absurd c1 q, fun _ => ⟨r2, z, f, h2, fun _ => hr, fun q => absurd c2 q⟩⟩⟩⟩
      · exact ⟨1, go _ ⟨fun q => by omega, fun _ => ⟨r1, z, f, h1, fun q => absurd c1 q, fun _ => ⟨r2, z, f, h2, fun q => absurd q c2, fun _ => rfl⟩⟩⟩⟩
    · exact ⟨1, go _ ⟨fun q => by omega, fun _ => ⟨r1, z, f, h1, fun _ => rfl, fun q => absurd q c1⟩⟩⟩
theorem hasThree_r (d0 : Nat) (v : Int32) (z : Nat → Int32) (f : Nat → FA) : ∃ r, mcall (d0 + 2) 72 [vR 0, vI v] (LR z f) = some (some (vI r), LR z f) := by
  obtain ⟨r, hr⟩ := ht2 d0 v z f 3 0 (by omega)
  exact ⟨r, mcall_i (mq72 (cu := [])).2.2 rfl (vc72_0 _ _ _ _ _ _ hr)⟩
set_option maxRecDepth 100000 in
theorem b76_1 (call : QC FA) (z : Nat → Int32) (f : Nat → FA) (F : Nat) : rnG call 76 (F + 4) 0 [some (vR 0)] [] (LR z f) = rnG call 76 F 4 [some (vR 0)] [vI (z 71), vI (z 70)] (LR z f) := rfl
set_option maxRecDepth 100000 in
theorem b76_2 (call : QC FA) (x y : Int32) (ls : List (Option PV)) (L : QH FA) (F : Nat) : rnG call 76 (F + 1) 4 ls [vI y, vI x] L = bif pcmp 1 x y then rnG call 76 F 7 ls [] L else rnG call 76 F 5 ls [] L := rfl
set_option maxRecDepth 100000 in
theorem b76_3 (call : QC FA) (L : QH FA) (F : Nat) : rnG call 76 (F + 1) 7 [some (vR 0)] [] L = rnG call 76 F 8 [some (vR 0)] [vI 2] L := rfl
set_option maxRecDepth 100000 in
theorem b76_4 (call : QC FA) (x : Int32) (ls : List (Option PV)) (L : QH FA) (F : Nat) : rnG call 76 (F + 1) 8 ls [vI x] L = some (some (vI x), L) := rfl
set_option maxRecDepth 100000 in
theorem b76_5 (call : QC FA) (L : QH FA) (F : Nat) : rnG call 76 (F + 2) 5 [some (vR 0)] [] L = rnG call 76 F 8 [some (vR 0)] [vI 1] L := rfl
theorem vc76_0 (call : QC FA) (z : Nat → Int32) (f : Nat → FA) (res : Option PV × QH FA) (H : ((¬ z 70 = z 71 → res = (some (vI 2), LR z f)) ∧ (z 70 = z 71 → res = (some (vI 1), LR z f)))) : RC call (mP 76) 0 [some (vR 0)] [] (LR z f) res := by
  refine rc_b (i' := 4) (ls' := [some (vR 0)]) (st' := [vI (z 71), vI (z 70)]) (L' := LR z f) 4 (b76_1 call z f) ?_
  refine rc_if (it := 7) (ie := 5) (ls' := [some (vR 0)]) (st' := []) (b76_2 call (z 70) (z 71) _ _) (fun q1 => ?_) (fun q1 => ?_)
  · have H := H.1 (cI1t q1)
    refine rc_b (i' := 8) (ls' := [some (vR 0)]) (st' := [vI 2]) (L' := LR z f) 1 (b76_3 call _) ?_
    subst H
    exact rc_ret (b76_4 call _ _ _)
  · have H := H.2 (cI1f q1)
    refine rc_b (i' := 8) (ls' := [some (vR 0)]) (st' := [vI 1]) (L' := LR z f) 2 (b76_5 call _) ?_
    subst H
    exact rc_ret (b76_4 call _ _ _)
theorem nextUp_r (d0 : Nat) (z : Nat → Int32) (f : Nat → FA) : ∃ w, (w = 1 ∨ w = 2) ∧ mcall (d0 + 1) 76 [vR 0] (LR z f) = some (some (vI (nI w)), LR z f) := by
  by_cases c : z 70 = z 71
  · exact ⟨1, Or.inl rfl, mcall_i (mq76 (cu := [])).2.2 rfl (vc76_0 _ _ _ _ ⟨fun q => absurd c q, fun _ => rfl⟩)⟩
  · exact ⟨2, Or.inr rfl, mcall_i (mq76 (cu := [])).2.2 rfl (vc76_0 _ _ _ _ ⟨fun _ => rfl, fun q => absurd q c⟩)⟩
set_option maxRecDepth 100000 in
theorem b77_1 (call : QC FA) (x1 : Int32) (o2 : Option PV) (o3 : Option PV) (L : QH FA) (F : Nat) : rnG call 77 (F + 4) 0 [some (vR 0), some (vI x1), o2, o3] [] L = rnG call 77 F 4 [some (vR 0), some (vI x1), some (vI 1), some (vI 8)] [] L := rfl
theorem vc77_0 (call : QC FA) (x1 : Int32) (o2 : Option PV) (o3 : Option PV) (z : Nat → Int32) (f : Nat → FA) (res : Option PV × QH FA) (H : RC call (mP 77) 4 [some (vR 0), some (vI x1), some (vI 1), some (vI 8)] [] (LR z f) res) : RC call (mP 77) 0 [some (vR 0), some (vI x1), o2, o3] [] (LR z f) res := by
  refine rc_b (i' := 4) (ls' := [some (vR 0), some (vI x1), some (vI 1), some (vI 8)]) (st' := []) (L' := LR z f) 4 (b77_1 call x1 o2 o3 _) ?_
  exact H
set_option maxRecDepth 100000 in
theorem bc4_77_1 (call : QC FA) (x1 : Int32) (x2 : Int32) (x3 : Int32) (L : QH FA) (F : Nat) : rnG call 77 (F + 2) 4 [some (vR 0), some (vI x1), some (vI x2), some (vI x3)] [] L = rnG call 77 F 6 [some (vR 0), some (vI x1), some (vI x2), some (vI x3)] [vI x1, vI x3] L := rfl
set_option maxRecDepth 100000 in
theorem bc4_77_2 (call : QC FA) (x y : Int32) (ls : List (Option PV)) (L : QH FA) (F : Nat) : rnG call 77 (F + 1) 6 ls [vI y, vI x] L = bif pcmp 5 x y then rnG call 77 F 13 ls [] L else rnG call 77 F 7 ls [] L := rfl
set_option maxRecDepth 100000 in
theorem bc4_77_3 (call : QC FA) (x1 : Int32) (x2 : Int32) (x3 : Int32) (L : QH FA) (F : Nat) : rnG call 77 (F + 1) 13 [some (vR 0), some (vI x1), some (vI x2), some (vI x3)] [] L = rnG call 77 F 14 [some (vR 0), some (vI x1), some (vI x2), some (vI x3)] [vI x2] L := rfl
set_option maxRecDepth 100000 in
theorem bc4_77_4 (call : QC FA) (x : Int32) (ls : List (Option PV)) (L : QH FA) (F : Nat) : rnG call 77 (F + 1) 14 ls [vI x] L = some (some (vI x), L) := rfl
set_option maxRecDepth 100000 in
theorem bc4_77_5 (call : QC FA) (x1 : Int32) (x2 : Int32) (x3 : Int32) (L : QH FA) (F : Nat) : rnG call 77 (F + 4) 7 [some (vR 0), some (vI x1), some (vI x2), some (vI x3)] [] L = rnG call 77 F 11 [some (vR 0), some (vI x1), some (vI (x2 * 3)), some (vI x3)] [] L := rfl
theorem bc4_77_6i (ih : QK FA) (t : Nat) (v x : Int32) (l0 l1 l2 : Option PV) (st : List PV) (L : QH FA) : p_iinc ih fzF 3 v t [l0, l1, l2, some (vI x)] st L = ih t [l0, l1, l2, some (vI (x + v))] st L := rfl
set_option maxRecDepth 100000 in
theorem bc4_77_6 (call : QC FA) (x1 : Int32) (x2 : Int32) (x3 : Int32) (L : QH FA) (F : Nat) : rnG call 77 (F + 1) 11 [some (vR 0), some (vI x1), some (vI x2), some (vI x3)] [] L = rnG call 77 F 12 [some (vR 0), some (vI x1), some (vI x2), some (vI (x3 + (-1)))] [] L := bc4_77_6i (rnG call 77 F) 12 (-1) x3 _ _ _ _ _
set_option maxRecDepth 100000 in
theorem bc4_77_7 (call : QC FA) (x1 : Int32) (x2 : Int32) (x3 : Int32) (L : QH FA) (F : Nat) : rnG call 77 (F + 1) 12 [some (vR 0), some (vI x1), some (vI x2), some (vI x3)] [] L = rnG call 77 F 4 [some (vR 0), some (vI x1), some (vI x2), some (vI x3)] [] L := rfl
theorem vcc4_77_4 (call : QC FA) (x1 : Int32) (x2 : Int32) (x3 : Int32) (z : Nat → Int32) (f : Nat → FA) (res : Option PV × QH FA) (H : ((I x3 ≤ I x1 → res = (some (vI x2), LR z f)) ∧ (I x1 < I x3 → RC call (mP 77) 4 [some (vR 0), some (vI x1), some (vI (x2 * 3)), some (vI (x3 + (-1)))] [] (LR z f) res))) : RC call (mP 77) 4 [some (vR 0), some (vI x1), some (vI x2), some (vI x3)] [] (LR z f) res := by
  refine rc_b (i' := 6) (ls' := [some (vR 0), some (vI x1), some (vI x2), some (vI x3)]) (st' := [vI x1, vI x3]) (L' := LR z f) 2 (bc4_77_1 call x1 x2 x3 _) ?_
  refine rc_if (it := 13) (ie := 7) (ls' := [some (vR 0), some (vI x1), some (vI x2), some (vI x3)]) (st' := []) (bc4_77_2 call x3 x1 _ _) (fun q1 => ?_) (fun q1 => ?_)
  · have H := H.1 (cI5t q1 rfl rfl)
    refine rc_b (i' := 14) (ls' := [some (vR 0), some (vI x1), some (vI x2), some (vI x3)]) (st' := [vI x2]) (L' := LR z f) 1 (bc4_77_3 call x1 x2 x3 _) ?_
    subst H
    exact rc_ret (bc4_77_4 call _ _ _)
  · have H := H.2 (cI5f q1 rfl rfl)
    refine rc_b (i' := 11) (ls' := [some (vR 0), some (vI x1), some (vI (x2 * 3)), some (vI x3)]) (st' := []) (L' := LR z f) 4 (bc4_77_5 call x1 x2 x3 _) ?_
    refine rc_b (i' := 12) (ls' := [some (vR 0), some (vI x1), some (vI (x2 * 3)), some (vI (x3 + (-1)))]) (st' := []) (L' := LR z f) 1 (bc4_77_6 call x1 (x2 * 3) x3 _) ?_
    refine rc_b (i' := 4) (ls' := [some (vR 0), some (vI x1), some (vI (x2 * 3)), some (vI (x3 + (-1)))]) (st' := []) (L' := LR z f) 1 (bc4_77_7 call x1 (x2 * 3) (x3 + (-1)) _) ?_
    exact H
theorem pw4 (call : QC FA) (k : Nat) (hk : k < 9) (z : Nat → Int32) (f : Nat → FA) : ∀ t i, k + t = i → i ≤ 8 → RC call (mP 77) 4 [some (vR 0), some (vI (nI k)), some (vI (nI (3 ^ (8 - i)))), some (vI (nI i))] [] (LR z f) (some (vI (nI (3 ^ (8 - k)))), LR z f) := by
  intro t
  induction t with
  | zero =>
    intro i hi h8
    obtain rfl : i = k := by omega
    refine vcc4_77_4 _ _ _ _ _ _ _ ?_
    rw [I_nI (by omega)]
    exact ⟨fun _ => rfl, fun q => by omega⟩
  | succ t ih =>
    intro i hi h8
    have key := ih (i - 1) (by omega) (by omega)
    refine vcc4_77_4 _ _ _ _ _ _ _ ?_
    rw [I_nI (n := i) (by omega), I_nI (n := k) (by omega), nmul (x := nI (3 ^ (8 - i))) (y := 3) (a := 3 ^ (8 - i)) (b := 3) rfl rfl, ← Nat.pow_succ, show (8 - i).succ = 8 - (i - 1) by omega, kx_d (by omega), show kx i = nI (i - 1) from if_neg (by omega)]
    exact ⟨fun q => by omega, fun _ => key⟩
theorem powerOf_r (d0 k : Nat) (hk : k < 9) (z : Nat → Int32) (f : Nat → FA) : mcall (d0 + 1) 77 [vR 0, vI (nI k)] (LR z f) = some (some (vI (nI (3 ^ (8 - k)))), LR z f) := mcall_i (mq77 (cu := [])).2.2 rfl (vc77_0 _ _ _ _ _ _ _ (pw4 (mcall d0) k hk z f (8 - k) 8 (by omega) (by omega)))
set_option maxRecDepth 100000 in
theorem b68_1 (call : QC FA) (x1 : Int32) (x2 : Int32) (L : QH FA) (F : Nat) : rnG call 68 (F + 2) 0 [some (vR 0), some (vI x1), some (vI x2)] [] L = rnG call 68 F 2 [some (vR 0), some (vI x1), some (vI x2)] [vI x2, vI x1] L := rfl
set_option maxRecDepth 100000 in
theorem b68_2 (call : QC FA) (x y : Int32) (ls : List (Option PV)) (L : QH FA) (F : Nat) : rnG call 68 (F + 1) 2 ls [vI y, vI x] L = bif pcmp 5 x y then rnG call 68 F 5 ls [] L else rnG call 68 F 3 ls [] L := rfl
set_option maxRecDepth 100000 in
theorem b68_3 (call : QC FA) (x1 : Int32) (x2 : Int32) (L : QH FA) (F : Nat) : rnG call 68 (F + 1) 5 [some (vR 0), some (vI x1), some (vI x2)] [] L = rnG call 68 F 6 [some (vR 0), some (vI x1), some (vI x2)] [vI x2] L := rfl
set_option maxRecDepth 100000 in
theorem b68_4 (call : QC FA) (x : Int32) (ls : List (Option PV)) (L : QH FA) (F : Nat) : rnG call 68 (F + 1) 6 ls [vI x] L = some (some (vI x), L) := rfl
set_option maxRecDepth 100000 in
theorem b68_5 (call : QC FA) (x1 : Int32) (x2 : Int32) (L : QH FA) (F : Nat) : rnG call 68 (F + 2) 3 [some (vR 0), some (vI x1), some (vI x2)] [] L = rnG call 68 F 6 [some (vR 0), some (vI x1), some (vI x2)] [vI x1] L := rfl
theorem vc68_0 (call : QC FA) (x1 : Int32) (x2 : Int32) (z : Nat → Int32) (f : Nat → FA) (res : Option PV × QH FA) (H : ((I x1 ≤ I x2 → res = (some (vI x2), LR z f)) ∧ (I x2 < I x1 → res = (some (vI x1), LR z f)))) : RC call (mP 68) 0 [some (vR 0), some (vI x1), some (vI x2)] [] (LR z f) res := by
  refine rc_b (i' := 2) (ls' := [some (vR 0), some (vI x1), some (vI x2)]) (st' := [vI x2, vI x1]) (L' := LR z f) 2 (b68_1 call x1 x2 _) ?_
  refine rc_if (it := 5) (ie := 3) (ls' := [some (vR 0), some (vI x1), some (vI x2)]) (st' := []) (b68_2 call x1 x2 _ _) (fun q1 => ?_) (fun q1 => ?_)
  · have H := H.1 (cI5t q1 rfl rfl)
    refine rc_b (i' := 6) (ls' := [some (vR 0), some (vI x1), some (vI x2)]) (st' := [vI x2]) (L' := LR z f) 1 (b68_3 call x1 x2 _) ?_
    subst H
    exact rc_ret (b68_4 call _ _ _)
  · have H := H.2 (cI5f q1 rfl rfl)
    refine rc_b (i' := 6) (ls' := [some (vR 0), some (vI x1), some (vI x2)]) (st' := [vI x1]) (L' := LR z f) 2 (b68_5 call x1 x2 _) ?_
    subst H
    exact rc_ret (b68_4 call _ _ _)
theorem greater_r (d0 : Nat) (x y : Int32) (z : Nat → Int32) (f : Nat → FA) : ∃ r, mcall (d0 + 1) 68 [vR 0, vI x, vI y] (LR z f) = some (some (vI r), LR z f) := by
  by_cases c : I x ≤ I y
  · exact ⟨y, mcall_i (mq68 (cu := [])).2.2 rfl (vc68_0 _ _ _ _ _ _ ⟨fun _ => rfl, fun q => by omega⟩)⟩
  · exact ⟨x, mcall_i (mq68 (cu := [])).2.2 rfl (vc68_0 _ _ _ _ _ _ ⟨fun q => absurd q c, fun _ => rfl⟩)⟩
set_option maxRecDepth 100000 in
theorem b78_1 (call : QC FA) (L : QH FA) (F : Nat) : rnG call 78 (F + 2) 0 [some (vR 0)] [] L = rnG call 78 F 2 [some (vR 0)] [vI 1, vR 0] L := rfl
set_option maxRecDepth 100000 in
theorem b78_2 (call : QC FA) (a0 : Int32) (ls : List (Option PV)) (z : Nat → Int32) (f : Nat → FA) (F : Nat) : rnG call 78 (F + 1) 2 ls [vI a0, vR 0] (LR z f) = cbd (call 72 [vR 0, vI a0] (LR z f)) (fun r L' => rnG call 78 F 3 ls (r.toList ++ []) L') := pcY (ih := rnG call 78 F) (call := call) (a := 72) (b := 1) (v := 12) (t := 3) (x := 0) (ls := ls) (As := [vI a0]) (st' := []) (L := LR z f) rfl rfl rfl
set_option maxRecDepth 100000 in
theorem b78_3 (call : QC FA) (x : Int32) (ls : List (Option PV)) (L : QH FA) (F : Nat) : rnG call 78 (F + 1) 3 ls [vI x] L = bif pcmp 1 x 0 then rnG call 78 F 15 ls [] L else rnG call 78 F 4 ls [] L := rfl
set_option maxRecDepth 100000 in
theorem b78_4 (call : QC FA) (L : QH FA) (F : Nat) : rnG call 78 (F + 2) 15 [some (vR 0)] [] L = rnG call 78 F 18 [some (vR 0)] [vI 1] L := rfl
set_option maxRecDepth 100000 in
theorem b78_5 (call : QC FA) (ls : List (Option PV)) (L : QH FA) (F : Nat) : rnG call 78 (F + 1) 18 ls [vI 1] L = some (some (vI 1), L) := rfl
set_option maxRecDepth 100000 in
theorem b78_6 (call : QC FA) (L : QH FA) (F : Nat) : rnG call 78 (F + 2) 4 [some (vR 0)] [] L = rnG call 78 F 6 [some (vR 0)] [vI 2, vR 0] L := rfl
set_option maxRecDepth 100000 in
theorem b78_7 (call : QC FA) (a0 : Int32) (ls : List (Option PV)) (z : Nat → Int32) (f : Nat → FA) (F : Nat) : rnG call 78 (F + 1) 6 ls [vI a0, vR 0] (LR z f) = cbd (call 72 [vR 0, vI a0] (LR z f)) (fun r L' => rnG call 78 F 7 ls (r.toList ++ []) L') := pcY (ih := rnG call 78 F) (call := call) (a := 72) (b := 1) (v := 12) (t := 7) (x := 0) (ls := ls) (As := [vI a0]) (st' := []) (L := LR z f) rfl rfl rfl
set_option maxRecDepth 100000 in
theorem b78_8 (call : QC FA) (x : Int32) (ls : List (Option PV)) (L : QH FA) (F : Nat) : rnG call 78 (F + 1) 7 ls [vI x] L = bif pcmp 1 x 0 then rnG call 78 F 15 ls [] L else rnG call 78 F 8 ls [] L := rfl
set_option maxRecDepth 100000 in
theorem b78_9 (call : QC FA) (z : Nat → Int32) (f : Nat → FA) (F : Nat) : rnG call 78 (F + 6) 8 [some (vR 0)] [] (LR z f) = rnG call 78 F 14 [some (vR 0)] [vI 9, vI ((z 70) + (z 71))] (LR z f) := rfl
set_option maxRecDepth 100000 in
theorem b78_10 (call : QC FA) (x y : Int32) (ls : List (Option PV)) (L : QH FA) (F : Nat) : rnG call 78 (F + 1) 14 ls [vI y, vI x] L = bif pcmp 1 x y then rnG call 78 F 17 ls [] L else rnG call 78 F 15 ls [] L := rfl
set_option maxRecDepth 100000 in
theorem b78_11 (call : QC FA) (L : QH FA) (F : Nat) : rnG call 78 (F + 1) 17 [some (vR 0)] [] L = rnG call 78 F 18 [some (vR 0)] [vI 0] L := rfl
set_option maxRecDepth 100000 in
theorem b78_12 (call : QC FA) (ls : List (Option PV)) (L : QH FA) (F : Nat) : rnG call 78 (F + 1) 18 ls [vI 0] L = some (some (vI 0), L) := rfl
theorem vc78_0 (d : Nat) (z : Nat → Int32) (f : Nat → FA) (res : Option PV × QH FA) (H : (∃ (r1 : Int32) (z1 : Nat → Int32) (f1 : Nat → FA), (mcall (d + 2)) 72 [vR 0, vI 1] (LR z f) = some (some (vI r1), LR z1 f1) ∧ ((¬ r1 = 0 → res = (some (vI 1), LR z1 f1)) ∧ (r1 = 0 → (∃ (r2 : Int32) (z2 : Nat → Int32) (f2 : Nat → FA), (mcall (d + 2)) 72 [vR 0, vI 2] (LR z1 f1) = some (some (vI r2), LR z2 f2) ∧ ((¬ r2 = 0 → res = (some (vI 1), LR z2 f2)) ∧ (r2 = 0 → ((¬ (z2 70) + (z2 71) = 9 → res = (some (vI 0), LR z2 f2)) ∧ ((z2 70) + (z2 71) = 9 → res = (some (vI 1), LR z2 f2)))))))))) : RC (mcall (d + 2)) (mP 78) 0 [some (vR 0)] [] (LR z f) res := by
  refine rc_b (i' := 2) (ls' := [some (vR 0)]) (st' := [vI 1, vR 0]) (L' := LR z f) 2 (b78_1 (mcall (d + 2)) _) ?_
  obtain ⟨r1, z1, f1, hc, H⟩ := H
  refine rc_call (t := 3) (ls' := [some (vR 0)]) (st' := []) (b78_2 (mcall (d + 2)) 1 _ z f) hc ?_
  show RC (mcall (d + 2)) (mP 78) 3 [some (vR 0)] [vI r1] (LR z1 f1) res
  refine rc_if (it := 15) (ie := 4) (ls' := [some (vR 0)]) (st' := []) (b78_3 (mcall (d + 2)) r1 _ _) (fun q1 => ?_) (fun q1 => ?_)
  · have H := H.1 (cI1t q1)
    refine rc_b (i' := 18) (ls' := [some (vR 0)]) (st' := [vI 1]) (L' := LR z1 f1) 2 (b78_4 (mcall (d + 2)) _) ?_
    subst H
    exact rc_ret (b78_5 (mcall (d + 2)) _ _)
  · have H := H.2 (cI1f q1)
    refine rc_b (i' := 6) (ls' := [some (vR 0)]) (st' := [vI 2, vR 0]) (L' := LR z1 f1) 2 (b78_6 (mcall (d + 2)) _) ?_
    obtain ⟨r2, z2, f2, hc, H⟩ := H
    refine rc_call (t := 7) (ls' := [some (vR 0)]) (st' := []) (b78_7 (mcall (d + 2)) 2 _ z1 f1) hc ?_
    show RC (mcall (d + 2)) (mP 78) 7 [some (vR 0)] [vI r2] (LR z2 f2) res
    refine rc_if (it := 15) (ie := 8) (ls' := [some (vR 0)]) (st' := []) (b78_8 (mcall (d + 2)) r2 _ _) (fun q2 => ?_) (fun q2 => ?_)
    · have H := H.1 (cI1t q2)
      refine rc_b (i' := 18) (ls' := [some (vR 0)]) (st' := [vI 1]) (L' := LR z2 f2) 2 (b78_4 (mcall (d + 2)) _) ?_
      subst H
      exact rc_ret (b78_5 (mcall (d + 2)) _ _)
    · have H := H.2 (cI1f q2)
      refine rc_b (i' := 14) (ls' := [some (vR 0)]) (st' := [vI 9, vI ((z2 70) + (z2 71))]) (L' := LR z2 f2) 6 (b78_9 (mcall (d + 2)) z2 f2) ?_
      refine rc_if (it := 17) (ie := 15) (ls' := [some (vR 0)]) (st' := []) (b78_10 (mcall (d + 2)) ((z2 70) + (z2 71)) 9 _ _) (fun q3 => ?_) (fun q3 => ?_)
      · have H := H.1 (cI1t q3)
        refine rc_b (i' := 18) (ls' := [some (vR 0)]) (st' := [vI 0]) (L' := LR z2 f2) 1 (b78_11 (mcall (d + 2)) _) ?_
        subst H
        exact rc_ret (b78_12 (mcall (d + 2)) _ _)
      · have H := H.2 (cI1f q3)
        refine rc_b (i' := 18) (ls' := [some (vR 0)]) (st' := [vI 1]) (L' := LR z2 f2) 2 (b78_4 (mcall (d + 2)) _) ?_
        subst H
        exact rc_ret (b78_5 (mcall (d + 2)) _ _)
theorem isOver_r (d0 : Nat) (z : Nat → Int32) (f : Nat → FA) : ∃ r, mcall (d0 + 3) 78 [vR 0] (LR z f) = some (some (vI r), LR z f) := by
  obtain ⟨r1, h1⟩ := hasThree_r d0 1 z f
  obtain ⟨r2, h2⟩ := hasThree_r d0 2 z f
  by_cases c1 : r1 = 0
  · by_cases c2 : r2 = 0
    · by_cases c3 : z 70 + z 71 = 9
      · exact ⟨1, mcall_i (mq78 (cu := [])).2.2 rfl (vc78_0 _ _ _ _ ⟨r1, z, f, h1, fun q => absurd c1 q, fun _ => ⟨r2, z, f, h2, fun q => absurd c2 q, fun _ => ⟨fun q => absurd c3 q, fun _ => rfl⟩⟩⟩)⟩
      · exact ⟨0, mcall_i (mq78 (cu := [])).2.2 rfl (vc78_0 _ _ _ _ ⟨r1, z, f, h1, fun q => absurd c1 q, fun _ => ⟨r2, z, f, h2, fun q => absurd c2 q, fun _ => ⟨fun _ => rfl, fun q => absurd q c3⟩⟩⟩)⟩
    · exact ⟨1, mcall_i (mq78 (cu := [])).2.2 rfl (vc78_0 _ _ _ _ ⟨r1, z, f, h1, fun q => absurd c1 q, fun _ => ⟨r2, z, f, h2, fun _ => rfl, fun q => absurd q c2⟩⟩)⟩
  · exact ⟨1, mcall_i (mq78 (cu := [])).2.2 rfl (vc78_0 _ _ _ _ ⟨r1, z, f, h1, fun _ => rfl, fun q => absurd q c1⟩)⟩
/-- where digit k is 0, one or two may be put -/
theorem room (c k w : Nat) (hc : c < 19683) (hk : k < 9) (hd : dgt c 3 k = 0) (hw : w = 1 ∨ w = 2) : c + w * 3 ^ (8 - k) < 19683 := by
  unfold dgt at hd
  have hk' : k = 0 ∨ k = 1 ∨ k = 2 ∨ k = 3 ∨ k = 4 ∨ k = 5 ∨ k = 6 ∨ k = 7 ∨ k = 8 := by omega
  rcases hk' with rfl | rfl | rfl | rfl | rfl | rfl | rfl | rfl | rfl <;> simp only [Nat.reduceSub, Nat.reducePow] at hd ⊢ <;> omega
theorem nI_z0 {n : Nat} (hn : n < 2147483648) : nI n = 0 ↔ n = 0 := ⟨fun q => nI_inj (b := 0) hn (by omega) q, fun q => by rw [q]; rfl⟩
set_option maxRecDepth 100000 in
theorem b75_1 (call : QC FA) (x1 : Int32) (o2 : Option PV) (o3 : Option PV) (o4 : Option PV) (L : QH FA) (F : Nat) : rnG call 75 (F + 1) 0 [some (vR 0), some (vI x1), o2, o3, o4] [] L = rnG call 75 F 1 [some (vR 0), some (vI x1), o2, o3, o4] [vR 0] L := rfl
set_option maxRecDepth 100000 in
theorem b75_2 (call : QC FA) (ls : List (Option PV)) (z : Nat → Int32) (f : Nat → FA) (F : Nat) : rnG call 75 (F + 1) 1 ls [vR 0] (LR z f) = cbd (call 76 [vR 0] (LR z f)) (fun r L' => rnG call 75 F 2 ls (r.toList ++ []) L') := pcY (ih := rnG call 75 F) (call := call) (a := 76) (b := 0) (v := 12) (t := 2) (x := 0) (ls := ls) (As := []) (st' := []) (L := LR z f) rfl rfl rfl
set_option maxRecDepth 100000 in
theorem b75_3 (call : QC FA) (x1 : Int32) (o2 : Option PV) (o3 : Option PV) (o4 : Option PV) (s0 : Int32) (L : QH FA) (F : Nat) : rnG call 75 (F + 3) 2 [some (vR 0), some (vI x1), o2, o3, o4] [vI s0] L = rnG call 75 F 5 [some (vR 0), some (vI x1), some (vI s0), o3, o4] [vI s0, vR 0] L := rfl
set_option maxRecDepth 100000 in
theorem b75_4 (call : QC FA) (a0 : Int32) (ls : List (Option PV)) (z : Nat → Int32) (f : Nat → FA) (F : Nat) : rnG call 75 (F + 1) 5 ls [vI a0, vR 0] (LR z f) = cbd (call 72 [vR 0, vI a0] (LR z f)) (fun r L' => rnG call 75 F 6 ls (r.toList ++ []) L') := pcY (ih := rnG call 75 F) (call := call) (a := 72) (b := 1) (v := 12) (t := 6) (x := 0) (ls := ls) (As := [vI a0]) (st' := []) (L := LR z f) rfl rfl rfl
set_option maxRecDepth 100000 in
theorem b75_5 (call : QC FA) (x : Int32) (ls : List (Option PV)) (L : QH FA) (F : Nat) : rnG call 75 (F + 1) 6 ls [vI x] L = bif pcmp 0 x 0 then rnG call 75 F 9 ls [] L else rnG call 75 F 7 ls [] L := rfl
set_option maxRecDepth 100000 in
theorem b75_6 (call : QC FA) (x1 : Int32) (x2 : Int32) (o3 : Option PV) (o4 : Option PV) (L : QH FA) (F : Nat) : rnG call 75 (F + 4) 9 [some (vR 0), some (vI x1), some (vI x2), o3, o4] [] L = rnG call 75 F 13 [some (vR 0), some (vI x1), some (vI x2), o3, o4] [vI (3 - x2), vR 0] L := rfl
set_option maxRecDepth 100000 in
theorem b75_7 (call : QC FA) (a0 : Int32) (ls : List (Option PV)) (z : Nat → Int32) (f : Nat → FA) (F : Nat) : rnG call 75 (F + 1) 13 ls [vI a0, vR 0] (LR z f) = cbd (call 72 [vR 0, vI a0] (LR z f)) (fun r L' => rnG call 75 F 14 ls (r.toList ++ []) L') := pcY (ih := rnG call 75 F) (call := call) (a := 72) (b := 1) (v := 12) (t := 14) (x := 0) (ls := ls) (As := [vI a0]) (st' := []) (L := LR z f) rfl rfl rfl
set_option maxRecDepth 100000 in
theorem b75_8 (call : QC FA) (x : Int32) (ls : List (Option PV)) (L : QH FA) (F : Nat) : rnG call 75 (F + 1) 14 ls [vI x] L = bif pcmp 0 x 0 then rnG call 75 F 17 ls [] L else rnG call 75 F 15 ls [] L := rfl
set_option maxRecDepth 100000 in
theorem b75_9 (call : QC FA) (x1 : Int32) (x2 : Int32) (o3 : Option PV) (o4 : Option PV) (z : Nat → Int32) (f : Nat → FA) (F : Nat) : rnG call 75 (F + 6) 17 [some (vR 0), some (vI x1), some (vI x2), o3, o4] [] (LR z f) = rnG call 75 F 23 [some (vR 0), some (vI x1), some (vI x2), o3, o4] [vI 9, vI ((z 70) + (z 71))] (LR z f) := rfl
set_option maxRecDepth 100000 in
theorem b75_10 (call : QC FA) (x y : Int32) (ls : List (Option PV)) (L : QH FA) (F : Nat) : rnG call 75 (F + 1) 23 ls [vI y, vI x] L = bif pcmp 1 x y then rnG call 75 F 26 ls [] L else rnG call 75 F 24 ls [] L := rfl
set_option maxRecDepth 100000 in
theorem b75_11 (call : QC FA) (x1 : Int32) (x2 : Int32) (o3 : Option PV) (o4 : Option PV) (L : QH FA) (F : Nat) : rnG call 75 (F + 4) 26 [some (vR 0), some (vI x1), some (vI x2), o3, o4] [] L = rnG call 75 F 30 [some (vR 0), some (vI x1), some (vI x2), some (vI ((-1))), some (vI 0)] [] L := rfl
set_option maxRecDepth 100000 in
theorem b75_12 (call : QC FA) (x1 : Int32) (x2 : Int32) (o3 : Option PV) (o4 : Option PV) (L : QH FA) (F : Nat) : rnG call 75 (F + 1) 24 [some (vR 0), some (vI x1), some (vI x2), o3, o4] [] L = rnG call 75 F 25 [some (vR 0), some (vI x1), some (vI x2), o3, o4] [vI 0] L := rfl
set_option maxRecDepth 100000 in
theorem b75_13 (call : QC FA) (x : Int32) (ls : List (Option PV)) (L : QH FA) (F : Nat) : rnG call 75 (F + 1) 25 ls [vI x] L = some (some (vI x), L) := rfl
set_option maxRecDepth 100000 in
theorem b75_14 (call : QC FA) (x1 : Int32) (x2 : Int32) (o3 : Option PV) (o4 : Option PV) (L : QH FA) (F : Nat) : rnG call 75 (F + 1) 15 [some (vR 0), some (vI x1), some (vI x2), o3, o4] [] L = rnG call 75 F 16 [some (vR 0), some (vI x1), some (vI x2), o3, o4] [vI ((-1))] L := rfl
set_option maxRecDepth 100000 in
theorem b75_15 (call : QC FA) (x : Int32) (ls : List (Option PV)) (L : QH FA) (F : Nat) : rnG call 75 (F + 1) 16 ls [vI x] L = some (some (vI x), L) := rfl
set_option maxRecDepth 100000 in
theorem b75_16 (call : QC FA) (x1 : Int32) (x2 : Int32) (o3 : Option PV) (o4 : Option PV) (L : QH FA) (F : Nat) : rnG call 75 (F + 1) 7 [some (vR 0), some (vI x1), some (vI x2), o3, o4] [] L = rnG call 75 F 8 [some (vR 0), some (vI x1), some (vI x2), o3, o4] [vI 1] L := rfl
set_option maxRecDepth 100000 in
theorem b75_17 (call : QC FA) (x : Int32) (ls : List (Option PV)) (L : QH FA) (F : Nat) : rnG call 75 (F + 1) 8 ls [vI x] L = some (some (vI x), L) := rfl
theorem vc75_0 (d : Nat) (x1 : Int32) (o2 : Option PV) (o3 : Option PV) (o4 : Option PV) (z : Nat → Int32) (f : Nat → FA) (res : Option PV × QH FA) (H : (∃ (r1 : Int32) (z1 : Nat → Int32) (f1 : Nat → FA), (mcall (d + 2)) 76 [vR 0] (LR z f) = some (some (vI r1), LR z1 f1) ∧ (∃ (r2 : Int32) (z2 : Nat → Int32) (f2 : Nat → FA), (mcall (d + 2)) 72 [vR 0, vI r1] (LR z1 f1) = some (some (vI r2), LR z2 f2) ∧ ((r2 = 0 → (∃ (r3 : Int32) (z3 : Nat → Int32) (f3 : Nat → FA), (mcall (d + 2)) 72 [vR 0, vI (3 - r1)] (LR z2 f2) = some (some (vI r3), LR z3 f3) ∧ ((r3 = 0 → ((¬ (z3 70) + (z3 71) = 9 → RC (mcall (d + 2)) (mP 75) 30 [some (vR 0), some (vI x1), some (vI r1), some (vI ((-1))), some (vI 0)] [] (LR z3 f3) res) ∧ ((z3 70) + (z3 71) = 9 → res = (some (vI 0), LR z3 f3)))) ∧ (¬ r3 = 0 → res = (some (vI ((-1))), LR z3 f3))))) ∧ (¬ r2 = 0 → res = (some (vI 1), LR z2 f2)))))) : RC (mcall (d + 2)) (mP 75) 0 [some (vR 0), some (vI x1), o2, o3, o4] [] (LR z f) res := by
  refine rc_b (i' := 1) (ls' := [some (vR 0), some (vI x1), o2, o3, o4]) (st' := [vR 0]) (L' := LR z f) 1 (b75_1 (mcall (d + 2)) x1 o2 o3 o4 _) ?_
  obtain ⟨r1, z1, f1, hc, H⟩ := H
  refine rc_call (t := 2) (ls' := [some (vR 0), some (vI x1), o2, o3, o4]) (st' := []) (b75_2 (mcall (d + 2)) _ z f) hc ?_
  show RC (mcall (d + 2)) (mP 75) 2 [some (vR 0), some (vI x1), o2, o3, o4] [vI r1] (LR z1 f1) res
  refine rc_b (i' := 5) (ls' := [some (vR 0), some (vI x1), some (vI r1), o3, o4]) (st' := [vI r1, vR 0]) (L' := LR z1 f1) 3 (b75_3 (mcall (d + 2)) x1 o2 o3 o4 r1 _) ?_
  obtain ⟨r2, z2, f2, hc, H⟩ := H
  refine rc_call (t := 6) (ls' := [some (vR 0), some (vI x1), some (vI r1), o3, o4]) (st' := []) (b75_4 (mcall (d + 2)) r1 _ z1 f1) hc ?_
  show RC (mcall (d + 2)) (mP 75) 6 [some (vR 0), some (vI x1), some (vI r1), o3, o4] [vI r2] (LR z2 f2) res
  refine rc_if (it := 9) (ie := 7) (ls' := [some (vR 0), some (vI x1), some (vI r1), o3, o4]) (st' := []) (b75_5 (mcall (d + 2)) r2 _ _) (fun q1 => ?_) (fun q1 => ?_)
  · have H := H.1 (cI0t q1)
    refine rc_b (i' := 13) (ls' := [some (vR 0), some (vI x1), some (vI r1), o3, o4]) (st' := [vI (3 - r1), vR 0]) (L' := LR z2 f2) 4 (b75_6 (mcall (d + 2)) x1 r1 o3 o4 _) ?_
    obtain ⟨r3, z3, f3, hc, H⟩ := H
    refine rc_call (t := 14) (ls' := [some (vR 0), some (vI x1), some (vI r1), o3, o4]) (st' := []) (b75_7 (mcall (d + 2)) (3 - r1) _ z2 f2) hc ?_
    show RC (mcall (d + 2)) (mP 75) 14 [some (vR 0), some (vI x1), some (vI r1), o3, o4] [vI r3] (LR z3 f3) res
    refine rc_if (it := 17) (ie := 15) (ls' := [some (vR 0), some (vI x1), some (vI r1), o3, o4]) (st' := []) (b75_8 (mcall (d + 2)) r3 _ _) (fun q2 => ?_) (fun q2 => ?_)
    · have H := H.1 (cI0t q2)
      refine rc_b (i' := 23) (ls' := [some (vR 0), some (vI x1), some (vI r1), o3, o4]) (st' := [vI 9, vI ((z3 70) + (z3 71))]) (L' := LR z3 f3) 6 (b75_9 (mcall (d + 2)) x1 r1 o3 o4 z3 f3) ?_
      refine rc_if (it := 26) (ie := 24) (ls' := [some (vR 0), some (vI x1), some (vI r1), o3, o4]) (st' := []) (b75_10 (mcall (d + 2)) ((z3 70) + (z3 71)) 9 _ _) (fun q3 => ?_) (fun q3 => ?_)
      · have H := H.1 (cI1t q3)
        refine rc_b (i' := 30) (ls' := [some (vR 0), some (vI x1), some (vI r1), some (vI ((-1))), some (vI 0)]) (st' := []) (L' := LR z3 f3) 4 (b75_11 (mcall (d + 2)) x1 r1 o3 o4 _) ?_
        exact H
      · have H := H.2 (cI1f q3)
        refine rc_b (i' := 25) (ls' := [some (vR 0), some (vI x1), some (vI r1), o3, o4]) (st' := [vI 0]) (L' := LR z3 f3) 1 (b75_12 (mcall (d + 2)) x1 r1 o3 o4 _) ?_
        subst H
        exact rc_ret (b75_13 (mcall (d + 2)) _ _ _)
    · have H := H.2 (cI0f q2)
      refine rc_b (i' := 16) (ls' := [some (vR 0), some (vI x1), some (vI r1), o3, o4]) (st' := [vI ((-1))]) (L' := LR z3 f3) 1 (b75_14 (mcall (d + 2)) x1 r1 o3 o4 _) ?_
      subst H
      exact rc_ret (b75_15 (mcall (d + 2)) _ _ _)
  · have H := H.2 (cI0f q1)
    refine rc_b (i' := 8) (ls' := [some (vR 0), some (vI x1), some (vI r1), o3, o4]) (st' := [vI 1]) (L' := LR z2 f2) 1 (b75_16 (mcall (d + 2)) x1 r1 o3 o4 _) ?_
    subst H
    exact rc_ret (b75_17 (mcall (d + 2)) _ _ _)
set_option maxRecDepth 100000 in
theorem bc30_75_1 (call : QC FA) (x1 : Int32) (x2 : Int32) (x3 : Int32) (x4 : Int32) (L : QH FA) (F : Nat) : rnG call 75 (F + 2) 30 [some (vR 0), some (vI x1), some (vI x2), some (vI x3), some (vI x4)] [] L = rnG call 75 F 32 [some (vR 0), some (vI x1), some (vI x2), some (vI x3), some (vI x4)] [vI 9, vI x4] L := rfl
set_option maxRecDepth 100000 in
theorem bc30_75_2 (call : QC FA) (x y : Int32) (ls : List (Option PV)) (L : QH FA) (F : Nat) : rnG call 75 (F + 1) 32 ls [vI y, vI x] L = bif pcmp 3 x y then rnG call 75 F 55 ls [] L else rnG call 75 F 33 ls [] L := rfl
set_option maxRecDepth 100000 in
theorem bc30_75_3 (call : QC FA) (x1 : Int32) (x2 : Int32) (x3 : Int32) (x4 : Int32) (L : QH FA) (F : Nat) : rnG call 75 (F + 1) 55 [some (vR 0), some (vI x1), some (vI x2), some (vI x3), some (vI x4)] [] L = rnG call 75 F 56 [some (vR 0), some (vI x1), some (vI x2), some (vI x3), some (vI x4)] [vI x3] L := rfl
set_option maxRecDepth 100000 in
theorem bc30_75_4 (call : QC FA) (x : Int32) (ls : List (Option PV)) (L : QH FA) (F : Nat) : rnG call 75 (F + 1) 56 ls [vI x] L = some (some (vI x), L) := rfl
set_option maxRecDepth 100000 in
theorem bc30_75_5 (call : QC FA) (x1 : Int32) (x2 : Int32) (x3 : Int32) (x4 : Int32) (z : Nat → Int32) (f : Nat → FA) (F : Nat) : rnG call 75 (F + 3) 33 [some (vR 0), some (vI x1), some (vI x2), some (vI x3), some (vI x4)] [] (LR z f) = rnG call 75 F 36 [some (vR 0), some (vI x1), some (vI x2), some (vI x3), some (vI x4)] [vI x4, vR 41] (LR z f) := rfl
set_option maxRecDepth 100000 in
theorem bc30_75_6 (call : QC FA) (x : Int32) (ls : List (Option PV)) (z : Nat → Int32) (f : Nat → FA) (F : Nat) : rnG call 75 (F + 1) 36 ls [vI x, vR 41] (LR z f) = bif (Nat.beq 0 0 && pin x 9) then rnG call 75 F 37 ls [vI (f 41 (ix x))] (LR z f) else none := rfl
set_option maxRecDepth 100000 in
theorem bc30_75_7 (call : QC FA) (x : Int32) (ls : List (Option PV)) (L : QH FA) (F : Nat) : rnG call 75 (F + 1) 37 ls [vI x] L = bif pcmp 1 x 0 then rnG call 75 F 53 ls [] L else rnG call 75 F 38 ls [] L := rfl
set_option maxRecDepth 100000 in
theorem bc30_75_8 (call : QC FA) (x1 : Int32) (x2 : Int32) (x3 : Int32) (x4 : Int32) (L : QH FA) (F : Nat) : rnG call 75 (F + 1) 53 [some (vR 0), some (vI x1), some (vI x2), some (vI x3), some (vI x4)] [] L = rnG call 75 F 54 [some (vR 0), some (vI x1), some (vI x2), some (vI x3), some (vI (x4 + 1))] [] L := rfl
set_option maxRecDepth 100000 in
theorem bc30_75_9 (call : QC FA) (x1 : Int32) (x2 : Int32) (x3 : Int32) (x4 : Int32) (L : QH FA) (F : Nat) : rnG call 75 (F + 1) 54 [some (vR 0), some (vI x1), some (vI x2), some (vI x3), some (vI x4)] [] L = rnG call 75 F 30 [some (vR 0), some (vI x1), some (vI x2), some (vI x3), some (vI x4)] [] L := rfl
set_option maxRecDepth 100000 in
theorem bc30_75_10 (call : QC FA) (x1 : Int32) (x2 : Int32) (x3 : Int32) (x4 : Int32) (z : Nat → Int32) (f : Nat → FA) (F : Nat) : rnG call 75 (F + 8) 38 [some (vR 0), some (vI x1), some (vI x2), some (vI x3), some (vI x4)] [] (LR z f) = rnG call 75 F 46 [some (vR 0), some (vI x1), some (vI x2), some (vI x3), some (vI x4)] [vI x4, vR 0, vI x2, vI x1, vR 40, vI x3, vR 0] (LR z f) := rfl
set_option maxRecDepth 100000 in
theorem bc30_75_11 (call : QC FA) (a0 : Int32) (s0 : Int32) (s1 : Int32) (s3 : Int32) (ls : List (Option PV)) (z : Nat → Int32) (f : Nat → FA) (F : Nat) : rnG call 75 (F + 1) 46 ls [vI a0, vR 0, vI s0, vI s1, vR 40, vI s3, vR 0] (LR z f) = cbd (call 77 [vR 0, vI a0] (LR z f)) (fun r L' => rnG call 75 F 47 ls (r.toList ++ [vI s0, vI s1, vR 40, vI s3, vR 0]) L') := pcY (ih := rnG call 75 F) (call := call) (a := 77) (b := 1) (v := 12) (t := 47) (x := 0) (ls := ls) (As := [vI a0]) (st' := [vI s0, vI s1, vR 40, vI s3, vR 0]) (L := LR z f) rfl rfl rfl
set_option maxRecDepth 100000 in
theorem bc30_75_12 (call : QC FA) (x1 : Int32) (x2 : Int32) (x3 : Int32) (x4 : Int32) (s0 : Int32) (s1 : Int32) (s2 : Int32) (s4 : Int32) (L : QH FA) (F : Nat) : rnG call 75 (F + 2) 47 [some (vR 0), some (vI x1), some (vI x2), some (vI x3), some (vI x4)] [vI s0, vI s1, vI s2, vR 40, vI s4, vR 0] L = rnG call 75 F 49 [some (vR 0), some (vI x1), some (vI x2), some (vI x3), some (vI x4)] [vI (s2 + (s1 * s0)), vR 40, vI s4, vR 0] L := rfl
set_option maxRecDepth 100000 in
theorem bc30_75_13 (call : QC FA) (x : Int32) (s0 : Int32) (ls : List (Option PV)) (z : Nat → Int32) (f : Nat → FA) (F : Nat) : rnG call 75 (F + 1) 49 ls [vI x, vR 40, vI s0, vR 0] (LR z f) = bif (Nat.beq 0 0 && pin x 19683) then rnG call 75 F 50 ls [vI (f 40 (ix x)), vI s0, vR 0] (LR z f) else none := rfl
set_option maxRecDepth 100000 in
theorem bc30_75_14 (call : QC FA) (x1 : Int32) (x2 : Int32) (x3 : Int32) (x4 : Int32) (s0 : Int32) (s1 : Int32) (L : QH FA) (F : Nat) : rnG call 75 (F + 1) 50 [some (vR 0), some (vI x1), some (vI x2), some (vI x3), some (vI x4)] [vI s0, vI s1, vR 0] L = rnG call 75 F 51 [some (vR 0), some (vI x1), some (vI x2), some (vI x3), some (vI x4)] [vI (-s0), vI s1, vR 0] L := rfl
set_option maxRecDepth 100000 in
theorem bc30_75_15 (call : QC FA) (a0 : Int32) (a1 : Int32) (ls : List (Option PV)) (z : Nat → Int32) (f : Nat → FA) (F : Nat) : rnG call 75 (F + 1) 51 ls [vI a1, vI a0, vR 0] (LR z f) = cbd (call 68 [vR 0, vI a0, vI a1] (LR z f)) (fun r L' => rnG call 75 F 52 ls (r.toList ++ []) L') := pcY (ih := rnG call 75 F) (call := call) (a := 68) (b := 2) (v := 12) (t := 52) (x := 0) (ls := ls) (As := [vI a0, vI a1]) (st' := []) (L := LR z f) rfl rfl rfl
set_option maxRecDepth 100000 in
theorem bc30_75_16 (call : QC FA) (x1 : Int32) (x2 : Int32) (x3 : Int32) (x4 : Int32) (s0 : Int32) (L : QH FA) (F : Nat) : rnG call 75 (F + 1) 52 [some (vR 0), some (vI x1), some (vI x2), some (vI x3), some (vI x4)] [vI s0] L = rnG call 75 F 53 [some (vR 0), some (vI x1), some (vI x2), some (vI s0), some (vI x4)] [] L := rfl
theorem vcc30_75_30 (d : Nat) (x1 : Int32) (x2 : Int32) (x3 : Int32) (x4 : Int32) (z : Nat → Int32) (f : Nat → FA) (res : Option PV × QH FA) (H : ((9 ≤ I x4 → res = (some (vI x3), LR z f)) ∧ (I x4 < 9 → (pin x4 9 = true ∧ ((¬ f 41 (ix x4) = 0 → RC (mcall (d + 2)) (mP 75) 30 [some (vR 0), some (vI x1), some (vI x2), some (vI x3), some (vI (x4 + 1))] [] (LR z f) res) ∧ (f 41 (ix x4) = 0 → (∃ (r1 : Int32) (z1 : Nat → Int32) (f1 : Nat → FA), (mcall (d + 2)) 77 [vR 0, vI x4] (LR z f) = some (some (vI r1), LR z1 f1) ∧ (pin (x1 + (x2 * r1)) 19683 = true ∧ (∃ (r2 : Int32) (z2 : Nat → Int32) (f2 : Nat → FA), (mcall (d + 2)) 68 [vR 0, vI x3, vI (-(f1 40 (ix (x1 + (x2 * r1)))))] (LR z1 f1) = some (some (vI r2), LR z2 f2) ∧ RC (mcall (d + 2)) (mP 75) 30 [some (vR 0), some (vI x1), some (vI x2), some (vI r2), some (vI (x4 + 1))] [] (LR z2 f2) res))))))))) : RC (mcall (d + 2)) (mP 75) 30 [some (vR 0), some (vI x1), some (vI x2), some (vI x3), some (vI x4)] [] (LR z f) res := by
  refine rc_b (i' := 32) (ls' := [some (vR 0), some (vI x1), some (vI x2), some (vI x3), some (vI x4)]) (st' := [vI 9, vI x4]) (L' := LR z f) 2 (bc30_75_1 (mcall (d + 2)) x1 x2 x3 x4 _) ?_
  refine rc_if (it := 55) (ie := 33) (ls' := [some (vR 0), some (vI x1), some (vI x2), some (vI x3), some (vI x4)]) (st' := []) (bc30_75_2 (mcall (d + 2)) x4 9 _ _) (fun q1 => ?_) (fun q1 => ?_)
  · have H := H.1 (cI3t q1 rfl rfl)
    refine rc_b (i' := 56) (ls' := [some (vR 0), some (vI x1), some (vI x2), some (vI x3), some (vI x4)]) (st' := [vI x3]) (L' := LR z f) 1 (bc30_75_3 (mcall (d + 2)) x1 x2 x3 x4 _) ?_
    subst H
    exact rc_ret (bc30_75_4 (mcall (d + 2)) _ _ _)
  · have H := H.2 (cI3f q1 rfl rfl)
    refine rc_b (i' := 36) (ls' := [some (vR 0), some (vI x1), some (vI x2), some (vI x3), some (vI x4)]) (st' := [vI x4, vR 41]) (L' := LR z f) 3 (bc30_75_5 (mcall (d + 2)) x1 x2 x3 x4 z f) ?_
    obtain ⟨g1, H⟩ := H
    refine rc_g (i' := 37) (ls' := [some (vR 0), some (vI x1), some (vI x2), some (vI x3), some (vI x4)]) (st' := [vI (f 41 (ix x4))]) (L' := LR z f) (bc30_75_6 (mcall (d + 2)) x4 _ z f) (pinG g1) ?_
    refine rc_if (it := 53) (ie := 38) (ls' := [some (vR 0), some (vI x1), some (vI x2), some (vI x3), some (vI x4)]) (st' := []) (bc30_75_7 (mcall (d + 2)) (f 41 (ix x4)) _ _) (fun q2 => ?_) (fun q2 => ?_)
    · have H := H.1 (cI1t q2)
      refine rc_b (i' := 54) (ls' := [some (vR 0), some (vI x1), some (vI x2), some (vI x3), some (vI (x4 + 1))]) (st' := []) (L' := LR z f) 1 (bc30_75_8 (mcall (d + 2)) x1 x2 x3 x4 _) ?_
      refine rc_b (i' := 30) (ls' := [some (vR 0), some (vI x1), some (vI x2), some (vI x3), some (vI (x4 + 1))]) (st' := []) (L' := LR z f) 1 (bc30_75_9 (mcall (d + 2)) x1 x2 x3 (x4 + 1) _) ?_
      exact H
    · have H := H.2 (cI1f q2)
      refine rc_b (i' := 46) (ls' := [some (vR 0), some (vI x1), some (vI x2), some (vI x3), some (vI x4)]) (st' := [vI x4, vR 0, vI x2, vI x1, vR 40, vI x3, vR 0]) (L' := LR z f) 8 (bc30_75_10 (mcall (d + 2)) x1 x2 x3 x4 z f) ?_
      obtain ⟨r1, z1, f1, hc, H⟩ := H
      refine rc_call (t := 47) (ls' := [some (vR 0), some (vI x1), some (vI x2), some (vI x3), some (vI x4)]) (st' := [vI x2, vI x1, vR 40, vI x3, vR 0]) (bc30_75_11 (mcall (d + 2)) x4 x2 x1 x3 _ z f) hc ?_
      show RC (mcall (d + 2)) (mP 75) 47 [some (vR 0), some (vI x1), some (vI x2), some (vI x3), some (vI x4)] [vI r1, vI x2, vI x1, vR 40, vI x3, vR 0] (LR z1 f1) res
      refine rc_b (i' := 49) (ls' := [some (vR 0), some (vI x1), some (vI x2), some (vI x3), some (vI x4)]) (st' := [vI (x1 + (x2 * r1)), vR 40, vI x3, vR 0]) (L' := LR z1 f1) 2 (bc30_75_12 (mcall (d + 2)) x1 x2 x3 x4 r1 x2 x1 x3 _) ?_
      obtain ⟨g1, H⟩ := H
      refine rc_g (i' := 50) (ls' := [some (vR 0), some (vI x1), some (vI x2), some (vI x3), some (vI x4)]) (st' := [vI (f1 40 (ix (x1 + (x2 * r1)))), vI x3, vR 0]) (L' := LR z1 f1) (bc30_75_13 (mcall (d + 2)) (x1 + (x2 * r1)) x3 _ z1 f1) (pinG g1) ?_
      refine rc_b (i' := 51) (ls' := [some (vR 0), some (vI x1), some (vI x2), some (vI x3), some (vI x4)]) (st' := [vI (-(f1 40 (ix (x1 + (x2 * r1))))), vI x3, vR 0]) (L' := LR z1 f1) 1 (bc30_75_14 (mcall (d + 2)) x1 x2 x3 x4 (f1 40 (ix (x1 + (x2 * r1)))) x3 _) ?_
      obtain ⟨r2, z2, f2, hc, H⟩ := H
      refine rc_call (t := 52) (ls' := [some (vR 0), some (vI x1), some (vI x2), some (vI x3), some (vI x4)]) (st' := []) (bc30_75_15 (mcall (d + 2)) x3 (-(f1 40 (ix (x1 + (x2 * r1))))) _ z1 f1) hc ?_
      show RC (mcall (d + 2)) (mP 75) 52 [some (vR 0), some (vI x1), some (vI x2), some (vI x3), some (vI x4)] [vI r2] (LR z2 f2) res
      refine rc_b (i' := 53) (ls' := [some (vR 0), some (vI x1), some (vI x2), some (vI r2), some (vI x4)]) (st' := []) (L' := LR z2 f2) 1 (bc30_75_16 (mcall (d + 2)) x1 x2 x3 x4 r2 _) ?_
      refine rc_b (i' := 54) (ls' := [some (vR 0), some (vI x1), some (vI x2), some (vI r2), some (vI (x4 + 1))]) (st' := []) (L' := LR z2 f2) 1 (bc30_75_8 (mcall (d + 2)) x1 x2 r2 x4 _) ?_
      refine rc_b (i' := 30) (ls' := [some (vR 0), some (vI x1), some (vI x2), some (vI r2), some (vI (x4 + 1))]) (st' := []) (L' := LR z2 f2) 1 (bc30_75_9 (mcall (d + 2)) x1 x2 r2 (x4 + 1) _) ?_
      exact H
theorem wn30 (d0 c w : Nat) (hc : c < 19683) (hw : w = 1 ∨ w = 2) (z : Nat → Int32) (f : Nat → FA) (hf : ∀ i, i < 9 → f 41 i = nI (dgt c 3 i)) : ∀ t k, k + t = 9 → ∀ b : Int32, ∃ r, RC (mcall (d0 + 2)) (mP 75) 30 [some (vR 0), some (vI (nI c)), some (vI (nI w)), some (vI b), some (vI (nI k))] [] (LR z f) (some (vI r), LR z f) := by
  intro t
  induction t with
  | zero =>
    intro k hk b
    obtain rfl : k = 9 := by omega
    exact ⟨b, vcc30_75_30 _ _ _ _ _ _ _ _ ⟨fun _ => rfl, fun q => absurd q (by decide)⟩⟩
  | succ t ih =>
    intro k hk b
    have hlt : dgt c 3 k < 2147483648 := Nat.lt_of_lt_of_le (Nat.mod_lt _ (by decide)) (by decide)
    have go : ∀ res, _ → RC (mcall (d0 + 2)) (mP 75) 30 [some (vR 0), some (vI (nI c)), some (vI (nI w)), some (vI b), some (vI (nI k))] [] (LR z f) res := fun res H => vcc30_75_30 d0 (nI c) (nI w) b (nI k) z f res H
    rw [I_nI (by omega), ix_nI (j := k) (by omega), hf k (by omega), show nI k + 1 = nI (k + 1) from nI_add _ 1] at go
    by_cases c1 : nI (dgt c 3 k) = 0
    · have hr := room c k w hc (by omega) ((nI_z0 hlt).mp c1) hw
      have e1 : nI c + nI w * nI (3 ^ (8 - k)) = nI (c + w * 3 ^ (8 - k)) := by rw [nmul (x := nI w) (y := nI (3 ^ (8 - k))) (a := w) (b := 3 ^ (8 - k)) rfl rfl]; exact nI_add _ _
      obtain ⟨r2, h2⟩ := greater_r (d0 + 1) b (-(f 40 (ix (nI c + nI w * nI (3 ^ (8 - k)))))) z f
      obtain ⟨r, hr2⟩ := ih (k + 1) (by omega) r2
      exact ⟨r, go _ ⟨fun q => by omega, fun _ => ⟨pin_nI (by omega) (by omega), fun q => absurd c1 q, fun _ => ⟨_, z, f, powerOf_r (d0 + 1) k (by omega) z f, by rw [e1]; exact pin_nI hr (by omega), r2, z, f, h2, hr2⟩⟩⟩⟩
    · obtain ⟨r, hr⟩ := ih (k + 1) (by omega) b
      exact ⟨r, go _ ⟨fun q => by omega, fun _ => ⟨pin_nI (by omega) (by omega), fun _ => hr, fun q => absurd q c1⟩⟩⟩
theorem worthNow_r (d0 c : Nat) (hc : c < 19683) (z : Nat → Int32) (f : Nat → FA) (hf : ∀ i, i < 9 → f 41 i = nI (dgt c 3 i)) : ∃ r, mcall (d0 + 3) 75 [vR 0, vI (nI c)] (LR z f) = some (some (vI r), LR z f) := by
  have go : ∀ res, _ → mcall (d0 + 3) 75 [vR 0, vI (nI c)] (LR z f) = some res := fun res H => mcall_i (mq75 (cu := [])).2.2 rfl (vc75_0 d0 (nI c) none none none z f res H)
  obtain ⟨w, hw, h1⟩ := nextUp_r (d0 + 1) z f
  obtain ⟨r2, h2⟩ := hasThree_r d0 (nI w) z f
  obtain ⟨r3, h3⟩ := hasThree_r d0 (3 - nI w) z f
  obtain ⟨r, hr⟩ := wn30 d0 c w hc hw z f hf 9 0 (by omega) (-1)
  by_cases c2 : r2 = 0
  · by_cases c3 : r3 = 0
    · by_cases c4 : z 70 + z 71 = 9
      · exact ⟨0, go _ ⟨_, z, f, h1, r2, z, f, h2, fun _ => ⟨r3, z, f, h3, fun _ => ⟨fun q => absurd c4 q, fun _ => rfl⟩, fun q => absurd c3 q⟩, fun q => absurd c2 q⟩⟩
      · exact ⟨r, go _ ⟨_, z, f, h1, r2, z, f, h2, fun _ => ⟨r3, z, f, h3, fun _ => ⟨fun _ => hr, fun q => absurd q c4⟩, fun q => absurd c3 q⟩, fun q => absurd c2 q⟩⟩
    · exact ⟨-1, go _ ⟨_, z, f, h1, r2, z, f, h2, fun _ => ⟨r3, z, f, h3, fun q => absurd q c3, fun _ => rfl⟩, fun q => absurd c2 q⟩⟩
  · exact ⟨1, go _ ⟨_, z, f, h1, r2, z, f, h2, fun q => absurd q c2, fun _ => rfl⟩⟩
set_option maxRecDepth 100000 in
theorem b74_1 (call : QC FA) (x1 : Int32) (o2 : Option PV) (L : QH FA) (F : Nat) : rnG call 74 (F + 2) 0 [some (vR 0), some (vI x1), o2] [] L = rnG call 74 F 2 [some (vR 0), some (vI x1), some (vI 19682)] [] L := rfl
theorem vc74_0 (d : Nat) (x1 : Int32) (o2 : Option PV) (z : Nat → Int32) (f : Nat → FA) (res : Option PV × QH FA) (H : RC (mcall (d + 3)) (mP 74) 2 [some (vR 0), some (vI x1), some (vI 19682)] [] (LR z f) res) : RC (mcall (d + 3)) (mP 74) 0 [some (vR 0), some (vI x1), o2] [] (LR z f) res := by
  refine rc_b (i' := 2) (ls' := [some (vR 0), some (vI x1), some (vI 19682)]) (st' := []) (L' := LR z f) 2 (b74_1 (mcall (d + 3)) x1 o2 _) ?_
  exact H
set_option maxRecDepth 100000 in
theorem bc2_74_1 (call : QC FA) (x1 : Int32) (x2 : Int32) (L : QH FA) (F : Nat) : rnG call 74 (F + 2) 2 [some (vR 0), some (vI x1), some (vI x2)] [] L = rnG call 74 F 4 [some (vR 0), some (vI x1), some (vI x2)] [vI x1, vI x2] L := rfl
set_option maxRecDepth 100000 in
theorem bc2_74_2 (call : QC FA) (x y : Int32) (ls : List (Option PV)) (L : QH FA) (F : Nat) : rnG call 74 (F + 1) 4 ls [vI y, vI x] L = bif pcmp 2 x y then rnG call 74 F 32 ls [] L else rnG call 74 F 5 ls [] L := rfl
set_option maxRecDepth 100000 in
theorem bc2_74_3 (call : QC FA) (ls : List (Option PV)) (L : QH FA) (F : Nat) : rnG call 74 (F + 1) 32 ls [] L = some (none, L) := rfl
set_option maxRecDepth 100000 in
theorem bc2_74_4 (call : QC FA) (x1 : Int32) (x2 : Int32) (L : QH FA) (F : Nat) : rnG call 74 (F + 3) 5 [some (vR 0), some (vI x1), some (vI x2)] [] L = rnG call 74 F 8 [some (vR 0), some (vI x1), some (vI x2)] [vI 3, vI x2, vR 0] L := rfl
set_option maxRecDepth 100000 in
theorem bc2_74_5 (call : QC FA) (a0 : Int32) (a1 : Int32) (ls : List (Option PV)) (z : Nat → Int32) (f : Nat → FA) (F : Nat) : rnG call 74 (F + 1) 8 ls [vI a1, vI a0, vR 0] (LR z f) = cbd (call 71 [vR 0, vI a0, vI a1] (LR z f)) (fun r L' => rnG call 74 F 9 ls (r.toList ++ []) L') := pcY (ih := rnG call 74 F) (call := call) (a := 71) (b := 2) (v := 12) (t := 9) (x := 0) (ls := ls) (As := [vI a0, vI a1]) (st' := []) (L := LR z f) rfl rfl rfl
set_option maxRecDepth 100000 in
theorem bc2_74_6 (call : QC FA) (x1 : Int32) (x2 : Int32) (z : Nat → Int32) (f : Nat → FA) (F : Nat) : rnG call 74 (F + 7) 9 [some (vR 0), some (vI x1), some (vI x2)] [] (LR z f) = rnG call 74 F 16 [some (vR 0), some (vI x1), some (vI x2)] [vI (z 71), vI (z 70), vI x2, vR 40] (LR z f) := rfl
set_option maxRecDepth 100000 in
theorem bc2_74_7 (call : QC FA) (x y : Int32) (s0 : Int32) (ls : List (Option PV)) (L : QH FA) (F : Nat) : rnG call 74 (F + 1) 16 ls [vI y, vI x, vI s0, vR 40] L = bif pcmp 0 x y then rnG call 74 F 24 ls [vI s0, vR 40] L else rnG call 74 F 17 ls [vI s0, vR 40] L := rfl
set_option maxRecDepth 100000 in
theorem bc2_74_8 (call : QC FA) (x1 : Int32) (x2 : Int32) (s0 : Int32) (L : QH FA) (F : Nat) : rnG call 74 (F + 2) 24 [some (vR 0), some (vI x1), some (vI x2)] [vI s0, vR 40] L = rnG call 74 F 26 [some (vR 0), some (vI x1), some (vI x2)] [vI x2, vR 0, vI s0, vR 40] L := rfl
set_option maxRecDepth 100000 in
theorem bc2_74_9 (call : QC FA) (a0 : Int32) (s0 : Int32) (ls : List (Option PV)) (z : Nat → Int32) (f : Nat → FA) (F : Nat) : rnG call 74 (F + 1) 26 ls [vI a0, vR 0, vI s0, vR 40] (LR z f) = cbd (call 75 [vR 0, vI a0] (LR z f)) (fun r L' => rnG call 74 F 27 ls (r.toList ++ [vI s0, vR 40]) L') := pcY (ih := rnG call 74 F) (call := call) (a := 75) (b := 1) (v := 12) (t := 27) (x := 0) (ls := ls) (As := [vI a0]) (st' := [vI s0, vR 40]) (L := LR z f) rfl rfl rfl
set_option maxRecDepth 100000 in
theorem bc2_74_10 (call : QC FA) (x1 : Int32) (x2 : Int32) (s0 : Int32) (s1 : Int32) (L : QH FA) (F : Nat) : rnG call 74 (F + 1) 27 [some (vR 0), some (vI x1), some (vI x2)] [vI s0, vI s1, vR 40] L = rnG call 74 F 29 [some (vR 0), some (vI x1), some (vI x2)] [vI s0, vI s1, vR 40] L := rfl
set_option maxRecDepth 100000 in
theorem bc2_74_11 (call : QC FA) (x y : Int32) (ls : List (Option PV)) (z : Nat → Int32) (f : Nat → FA) (F : Nat) : rnG call 74 (F + 1) 29 ls [vI y, vI x, vR 40] (LR z f) = bif (Nat.beq 0 0 && pin x 19683) then rnG call 74 F 30 ls [] (LR z (uA f 40 (upd (f 40) (ix x) y))) else none := rfl
theorem bc2_74_12i (ih : QK FA) (t : Nat) (v x : Int32) (l0 l1 : Option PV) (st : List PV) (L : QH FA) : p_iinc ih fzF 2 v t [l0, l1, some (vI x)] st L = ih t [l0, l1, some (vI (x + v))] st L := rfl
set_option maxRecDepth 100000 in
theorem bc2_74_12 (call : QC FA) (x1 : Int32) (x2 : Int32) (L : QH FA) (F : Nat) : rnG call 74 (F + 1) 30 [some (vR 0), some (vI x1), some (vI x2)] [] L = rnG call 74 F 31 [some (vR 0), some (vI x1), some (vI (x2 + (-1)))] [] L := bc2_74_12i (rnG call 74 F) 31 (-1) x2 _ _ _ _
set_option maxRecDepth 100000 in
theorem bc2_74_13 (call : QC FA) (x1 : Int32) (x2 : Int32) (L : QH FA) (F : Nat) : rnG call 74 (F + 1) 31 [some (vR 0), some (vI x1), some (vI x2)] [] L = rnG call 74 F 2 [some (vR 0), some (vI x1), some (vI x2)] [] L := rfl
set_option maxRecDepth 100000 in
theorem bc2_74_14 (call : QC FA) (x1 : Int32) (x2 : Int32) (s0 : Int32) (z : Nat → Int32) (f : Nat → FA) (F : Nat) : rnG call 74 (F + 6) 17 [some (vR 0), some (vI x1), some (vI x2)] [vI s0, vR 40] (LR z f) = rnG call 74 F 23 [some (vR 0), some (vI x1), some (vI x2)] [vI ((z 71) + 1), vI (z 70), vI s0, vR 40] (LR z f) := rfl
set_option maxRecDepth 100000 in
theorem bc2_74_15 (call : QC FA) (x y : Int32) (s0 : Int32) (ls : List (Option PV)) (L : QH FA) (F : Nat) : rnG call 74 (F + 1) 23 ls [vI y, vI x, vI s0, vR 40] L = bif pcmp 1 x y then rnG call 74 F 28 ls [vI s0, vR 40] L else rnG call 74 F 24 ls [vI s0, vR 40] L := rfl
set_option maxRecDepth 100000 in
theorem bc2_74_16 (call : QC FA) (x1 : Int32) (x2 : Int32) (s0 : Int32) (L : QH FA) (F : Nat) : rnG call 74 (F + 1) 28 [some (vR 0), some (vI x1), some (vI x2)] [vI s0, vR 40] L = rnG call 74 F 29 [some (vR 0), some (vI x1), some (vI x2)] [vI 0, vI s0, vR 40] L := rfl
theorem vcc2_74_2 (d : Nat) (x1 : Int32) (x2 : Int32) (z : Nat → Int32) (f : Nat → FA) (res : Option PV × QH FA) (H : ((I x2 < I x1 → res = (none, LR z f)) ∧ (I x1 ≤ I x2 → (∃ (z1 : Nat → Int32) (f1 : Nat → FA), (mcall (d + 3)) 71 [vR 0, vI x2, vI 3] (LR z f) = some (none, LR z1 f1) ∧ ((z1 70 = z1 71 → (∃ (r2 : Int32) (z2 : Nat → Int32) (f2 : Nat → FA), (mcall (d + 3)) 75 [vR 0, vI x2] (LR z1 f1) = some (some (vI r2), LR z2 f2) ∧ (pin x2 19683 = true ∧ RC (mcall (d + 3)) (mP 74) 2 [some (vR 0), some (vI x1), some (vI (x2 + (-1)))] [] (LR z2 (uA f2 40 (upd (f2 40) (ix x2) r2))) res))) ∧ (¬ z1 70 = z1 71 → ((¬ z1 70 = (z1 71) + 1 → (pin x2 19683 = true ∧ RC (mcall (d + 3)) (mP 74) 2 [some (vR 0), some (vI x1), some (vI (x2 + (-1)))] [] (LR z1 (uA f1 40 (upd (f1 40) (ix x2) 0))) res)) ∧ (z1 70 = (z1 71) + 1 → (∃ (r3 : Int32) (z3 : Nat → Int32) (f3 : Nat → FA), (mcall (d + 3)) 75 [vR 0, vI x2] (LR z1 f1) = some (some (vI r3), LR z3 f3) ∧ (pin x2 19683 = true ∧ RC (mcall (d + 3)) (mP 74) 2 [some (vR 0), some (vI x1), some (vI (x2 + (-1)))] [] (LR z3 (uA f3 40 (upd (f3 40) (ix x2) r3))) res)))))))))) : RC (mcall (d + 3)) (mP 74) 2 [some (vR 0), some (vI x1), some (vI x2)] [] (LR z f) res := by
  refine rc_b (i' := 4) (ls' := [some (vR 0), some (vI x1), some (vI x2)]) (st' := [vI x1, vI x2]) (L' := LR z f) 2 (bc2_74_1 (mcall (d + 3)) x1 x2 _) ?_
  refine rc_if (it := 32) (ie := 5) (ls' := [some (vR 0), some (vI x1), some (vI x2)]) (st' := []) (bc2_74_2 (mcall (d + 3)) x2 x1 _ _) (fun q1 => ?_) (fun q1 => ?_)
  · have H := H.1 (cI2t q1 rfl rfl)
    subst H
    exact rc_ret (bc2_74_3 (mcall (d + 3)) _ _)
  · have H := H.2 (cI2f q1 rfl rfl)
    refine rc_b (i' := 8) (ls' := [some (vR 0), some (vI x1), some (vI x2)]) (st' := [vI 3, vI x2, vR 0]) (L' := LR z f) 3 (bc2_74_4 (mcall (d + 3)) x1 x2 _) ?_
    obtain ⟨z1, f1, hc, H⟩ := H
    refine rc_call (t := 9) (ls' := [some (vR 0), some (vI x1), some (vI x2)]) (st' := []) (bc2_74_5 (mcall (d + 3)) x2 3 _ z f) hc ?_
    show RC (mcall (d + 3)) (mP 74) 9 [some (vR 0), some (vI x1), some (vI x2)] [] (LR z1 f1) res
    refine rc_b (i' := 16) (ls' := [some (vR 0), some (vI x1), some (vI x2)]) (st' := [vI (z1 71), vI (z1 70), vI x2, vR 40]) (L' := LR z1 f1) 7 (bc2_74_6 (mcall (d + 3)) x1 x2 z1 f1) ?_
    refine rc_if (it := 24) (ie := 17) (ls' := [some (vR 0), some (vI x1), some (vI x2)]) (st' := [vI x2, vR 40]) (bc2_74_7 (mcall (d + 3)) (z1 70) (z1 71) x2 _ _) (fun q2 => ?_) (fun q2 => ?_)
    · have H := H.1 (cI0t q2)
      refine rc_b (i' := 26) (ls' := [some (vR 0), some (vI x1), some (vI x2)]) (st' := [vI x2, vR 0, vI x2, vR 40]) (L' := LR z1 f1) 2 (bc2_74_8 (mcall (d + 3)) x1 x2 x2 _) ?_
      obtain ⟨r2, z2, f2, hc, H⟩ := H
      refine rc_call (t := 27) (ls' := [some (vR 0), some (vI x1), some (vI x2)]) (st' := [vI x2, vR 40]) (bc2_74_9 (mcall (d + 3)) x2 x2 _ z1 f1) hc ?_
      show RC (mcall (d + 3)) (mP 74) 27 [some (vR 0), some (vI x1), some (vI x2)] [vI r2, vI x2, vR 40] (LR z2 f2) res
      refine rc_b (i' := 29) (ls' := [some (vR 0), some (vI x1), some (vI x2)]) (st' := [vI r2, vI x2, vR 40]) (L' := LR z2 f2) 1 (bc2_74_10 (mcall (d + 3)) x1 x2 r2 x2 _) ?_
      obtain ⟨g1, H⟩ := H
      refine rc_g (i' := 30) (ls' := [some (vR 0), some (vI x1), some (vI x2)]) (st' := []) (L' := LR z2 (uA f2 40 (upd (f2 40) (ix x2) r2))) (bc2_74_11 (mcall (d + 3)) x2 r2 _ z2 f2) (pinG g1) ?_
      refine rc_b (i' := 31) (ls' := [some (vR 0), some (vI x1), some (vI (x2 + (-1)))]) (st' := []) (L' := LR z2 (uA f2 40 (upd (f2 40) (ix x2) r2))) 1 (bc2_74_12 (mcall (d + 3)) x1 x2 _) ?_
      refine rc_b (i' := 2) (ls' := [some (vR 0), some (vI x1), some (vI (x2 + (-1)))]) (st' := []) (L' := LR z2 (uA f2 40 (upd (f2 40) (ix x2) r2))) 1 (bc2_74_13 (mcall (d + 3)) x1 (x2 + (-1)) _) ?_
      exact H
    · have H := H.2 (cI0f q2)
      refine rc_b (i' := 23) (ls' := [some (vR 0), some (vI x1), some (vI x2)]) (st' := [vI ((z1 71) + 1), vI (z1 70), vI x2, vR 40]) (L' := LR z1 f1) 6 (bc2_74_14 (mcall (d + 3)) x1 x2 x2 z1 f1) ?_
      refine rc_if (it := 28) (ie := 24) (ls' := [some (vR 0), some (vI x1), some (vI x2)]) (st' := [vI x2, vR 40]) (bc2_74_15 (mcall (d + 3)) (z1 70) ((z1 71) + 1) x2 _ _) (fun q3 => ?_) (fun q3 => ?_)
      · have H := H.1 (cI1t q3)
        refine rc_b (i' := 29) (ls' := [some (vR 0), some (vI x1), some (vI x2)]) (st' := [vI 0, vI x2, vR 40]) (L' := LR z1 f1) 1 (bc2_74_16 (mcall (d + 3)) x1 x2 x2 _) ?_
        obtain ⟨g1, H⟩ := H
        refine rc_g (i' := 30) (ls' := [some (vR 0), some (vI x1), some (vI x2)]) (st' := []) (L' := LR z1 (uA f1 40 (upd (f1 40) (ix x2) 0))) (bc2_74_11 (mcall (d + 3)) x2 0 _ z1 f1) (pinG g1) ?_
        refine rc_b (i' := 31) (ls' := [some (vR 0), some (vI x1), some (vI (x2 + (-1)))]) (st' := []) (L' := LR z1 (uA f1 40 (upd (f1 40) (ix x2) 0))) 1 (bc2_74_12 (mcall (d + 3)) x1 x2 _) ?_
        refine rc_b (i' := 2) (ls' := [some (vR 0), some (vI x1), some (vI (x2 + (-1)))]) (st' := []) (L' := LR z1 (uA f1 40 (upd (f1 40) (ix x2) 0))) 1 (bc2_74_13 (mcall (d + 3)) x1 (x2 + (-1)) _) ?_
        exact H
      · have H := H.2 (cI1f q3)
        refine rc_b (i' := 26) (ls' := [some (vR 0), some (vI x1), some (vI x2)]) (st' := [vI x2, vR 0, vI x2, vR 40]) (L' := LR z1 f1) 2 (bc2_74_8 (mcall (d + 3)) x1 x2 x2 _) ?_
        obtain ⟨r3, z3, f3, hc, H⟩ := H
        refine rc_call (t := 27) (ls' := [some (vR 0), some (vI x1), some (vI x2)]) (st' := [vI x2, vR 40]) (bc2_74_9 (mcall (d + 3)) x2 x2 _ z1 f1) hc ?_
        show RC (mcall (d + 3)) (mP 74) 27 [some (vR 0), some (vI x1), some (vI x2)] [vI r3, vI x2, vR 40] (LR z3 f3) res
        refine rc_b (i' := 29) (ls' := [some (vR 0), some (vI x1), some (vI x2)]) (st' := [vI r3, vI x2, vR 40]) (L' := LR z3 f3) 1 (bc2_74_10 (mcall (d + 3)) x1 x2 r3 x2 _) ?_
        obtain ⟨g1, H⟩ := H
        refine rc_g (i' := 30) (ls' := [some (vR 0), some (vI x1), some (vI x2)]) (st' := []) (L' := LR z3 (uA f3 40 (upd (f3 40) (ix x2) r3))) (bc2_74_11 (mcall (d + 3)) x2 r3 _ z3 f3) (pinG g1) ?_
        refine rc_b (i' := 31) (ls' := [some (vR 0), some (vI x1), some (vI (x2 + (-1)))]) (st' := []) (L' := LR z3 (uA f3 40 (upd (f3 40) (ix x2) r3))) 1 (bc2_74_12 (mcall (d + 3)) x1 x2 _) ?_
        refine rc_b (i' := 2) (ls' := [some (vR 0), some (vI x1), some (vI (x2 + (-1)))]) (st' := []) (L' := LR z3 (uA f3 40 (upd (f3 40) (ix x2) r3))) 1 (bc2_74_13 (mcall (d + 3)) x1 (x2 + (-1)) _) ?_
        exact H
def GMf (z : Nat → Int32) (f : Nat → FA) (z' : Nat → Int32) (f' : Nat → FA) : Prop := (∀ j, j ≠ 70 → j ≠ 71 → z' j = z j) ∧ (∀ k, k ≠ 40 → k ≠ 41 → f' k = f k)
theorem GMf.trans {z z1 z2 : Nat → Int32} {f f1 f2 : Nat → FA} (h1 : GMf z f z1 f1) (h2 : GMf z1 f1 z2 f2) : GMf z f z2 f2 := ⟨fun j q1 q2 => (h2.1 j q1 q2).trans (h1.1 j q1 q2), fun k q1 q2 => (h2.2 k q1 q2).trans (h1.2 k q1 q2)⟩
theorem GMf.refl {z : Nat → Int32} {f : Nat → FA} : GMf z f z f := ⟨fun _ _ _ => rfl, fun _ _ _ => rfl⟩
theorem GMf.g {z : Nat → Int32} {f : Nat → FA} {g : FA} {k : Nat} (hk : k = 40 ∨ k = 41) : GMf z f z (uA f k g) := ⟨fun _ _ _ => rfl, fun j q1 q2 => uA_ne (by omega)⟩
theorem GMf.n {z z1 : Nat → Int32} {f : Nat → FA} {g : FA} (h : ∀ j, j ≠ 70 → j ≠ 71 → z1 j = z j) : GMf z f z1 (uA f 41 g) := ⟨h, fun j q1 q2 => uA_ne q2⟩
theorem fw2 (d0 a : Nat) (ha : a < 19683) : ∀ t m, a + t = m → m ≤ 19683 → ∀ z f, ∃ z' f', RC (mcall (d0 + 3)) (mP 74) 2 [some (vR 0), some (vI (nI a)), some (vI (kx m))] [] (LR z f) (none, LR z' f') ∧ GMf z f z' f' := by
  intro t
  induction t with
  | zero =>
    intro m hm h z f
    obtain rfl : m = a := by omega
    refine ⟨z, f, vcc2_74_2 _ _ _ _ _ _ ⟨fun _ => rfl, fun q => ?_⟩, GMf.refl⟩
    cases m with
    | zero => exact absurd q (by decide)
    | succ m =>
      rw [kx_s, I_nI (by omega), I_nI (by omega)] at q
      omega
  | succ t ih =>
    intro m hm h z f
    obtain ⟨c, rfl⟩ : ∃ c, m = c + 1 := ⟨m - 1, by omega⟩
    have go : ∀ res, _ → RC (mcall (d0 + 3)) (mP 74) 2 [some (vR 0), some (vI (nI a)), some (vI (kx (c + 1)))] [] (LR z f) res := fun res H => vcc2_74_2 d0 (nI a) (kx (c + 1)) z f res H
    rw [kx_s, I_nI (n := c) (by omega), I_nI (n := a) (by omega), ix_nI (j := c) (by omega), kx_d (by omega)] at go
    rw [kx_s]
    obtain ⟨z1, g, h1, h2, h3⟩ := takesNine_r (d0 + 2) c 3 (by omega) (Or.inl rfl) z f
    obtain ⟨r, hr⟩ := worthNow_r d0 c (by omega) z1 (uA f 41 g) (fun i hi => by rw [uA_self]; exact h3 i hi)
    have pc : pin (nI c) 19683 = true := pin_nI (by omega) (by omega)
    have key : ∀ v : Int32, ∃ z' f', RC (mcall (d0 + 3)) (mP 74) 2 [some (vR 0), some (vI (nI a)), some (vI (kx c))] [] (LR z1 (uA (uA f 41 g) 40 (upd ((uA f 41 g) 40) c v))) (none, LR z' f') ∧ GMf z f z' f' := by
      intro v
      obtain ⟨z', f', v1, v2⟩ := ih c (by omega) (by omega) z1 (uA (uA f 41 g) 40 (upd ((uA f 41 g) 40) c v))
      exact ⟨z', f', v1, ((GMf.n h2).trans (GMf.g (Or.inl rfl))).trans v2⟩
    by_cases c1 : z1 70 = z1 71
    · obtain ⟨z', f', v1, v2⟩ := key r
      exact ⟨z', f', go _ ⟨fun q => by omega, fun _ => ⟨z1, _, h1, fun _ => ⟨r, z1, _, hr, pc, v1⟩, fun q => absurd c1 q⟩⟩, v2⟩
    · by_cases c2 : z1 70 = z1 71 + 1
      · obtain ⟨z', f', v1, v2⟩ := key r
        exact ⟨z', f', go _ ⟨fun q => by omega, fun _ => ⟨z1, _, h1, fun q => absurd q c1, fun _ => ⟨fun q => absurd c2 q, fun _ => ⟨r, z1, _, hr, pc, v1⟩⟩⟩⟩, v2⟩
      · obtain ⟨z', f', v1, v2⟩ := key 0
        exact ⟨z', f', go _ ⟨fun q => by omega, fun _ => ⟨z1, _, h1, fun q => absurd q c1, fun _ => ⟨fun _ => ⟨pc, v1⟩, fun q => absurd q c2⟩⟩⟩, v2⟩
theorem findsWorth_r (d0 a : Nat) (ha : a < 19683) (z : Nat → Int32) (f : Nat → FA) : ∃ z' f', mcall (d0 + 4) 74 [vR 0, vI (nI a)] (LR z f) = some (none, LR z' f') ∧ GMf z f z' f' := by
  obtain ⟨z', f', v1, v2⟩ := fw2 d0 a ha (19683 - a) 19683 (by omega) (Nat.le_refl _) z f
  rw [kx_s] at v1
  exact ⟨z', f', mcall_i (mq74 (cu := [])).2.2 rfl (vc74_0 _ _ _ _ _ _ v1), v2⟩
set_option maxRecDepth 100000 in
theorem b70_1 (call : QC FA) (x1 : Int32) (o2 : Option PV) (L : QH FA) (F : Nat) : rnG call 70 (F + 4) 0 [some (vR 0), some (vI x1), o2] [] L = rnG call 70 F 4 [some (vR 0), some (vI x1), o2] [vI 222222222, vI 0, vI x1, vR 0] L := rfl
set_option maxRecDepth 100000 in
theorem b70_2 (call : QC FA) (a0 : Int32) (a1 : Int32) (a2 : Int32) (ls : List (Option PV)) (z : Nat → Int32) (f : Nat → FA) (F : Nat) : rnG call 70 (F + 1) 4 ls [vI a2, vI a1, vI a0, vR 0] (LR z f) = cbd (call 47 [vR 0, vI a0, vI a1, vI a2] (LR z f)) (fun r L' => rnG call 70 F 5 ls (r.toList ++ []) L') := pcY (ih := rnG call 70 F) (call := call) (a := 47) (b := 3) (v := 12) (t := 5) (x := 0) (ls := ls) (As := [vI a0, vI a1, vI a2]) (st' := []) (L := LR z f) rfl rfl rfl
set_option maxRecDepth 100000 in
theorem b70_3 (call : QC FA) (x : Int32) (ls : List (Option PV)) (L : QH FA) (F : Nat) : rnG call 70 (F + 1) 5 ls [vI x] L = bif pcmp 1 x 0 then rnG call 70 F 8 ls [] L else rnG call 70 F 6 ls [] L := rfl
set_option maxRecDepth 100000 in
theorem b70_4 (call : QC FA) (x1 : Int32) (o2 : Option PV) (L : QH FA) (F : Nat) : rnG call 70 (F + 3) 8 [some (vR 0), some (vI x1), o2] [] L = rnG call 70 F 11 [some (vR 0), some (vI x1), o2] [vI 10, vI x1, vR 0] L := rfl
set_option maxRecDepth 100000 in
theorem b70_5 (call : QC FA) (a0 : Int32) (a1 : Int32) (ls : List (Option PV)) (z : Nat → Int32) (f : Nat → FA) (F : Nat) : rnG call 70 (F + 1) 11 ls [vI a1, vI a0, vR 0] (LR z f) = cbd (call 71 [vR 0, vI a0, vI a1] (LR z f)) (fun r L' => rnG call 70 F 12 ls (r.toList ++ []) L') := pcY (ih := rnG call 70 F) (call := call) (a := 71) (b := 2) (v := 12) (t := 12) (x := 0) (ls := ls) (As := [vI a0, vI a1]) (st' := []) (L := LR z f) rfl rfl rfl
set_option maxRecDepth 100000 in
theorem b70_6 (call : QC FA) (x1 : Int32) (o2 : Option PV) (L : QH FA) (F : Nat) : rnG call 70 (F + 2) 12 [some (vR 0), some (vI x1), o2] [] L = rnG call 70 F 14 [some (vR 0), some (vI x1), some (vI 0)] [] L := rfl
set_option maxRecDepth 100000 in
theorem b70_7 (call : QC FA) (x1 : Int32) (o2 : Option PV) (L : QH FA) (F : Nat) : rnG call 70 (F + 1) 6 [some (vR 0), some (vI x1), o2] [] L = rnG call 70 F 7 [some (vR 0), some (vI x1), o2] [vI 0] L := rfl
set_option maxRecDepth 100000 in
theorem b70_8 (call : QC FA) (ls : List (Option PV)) (L : QH FA) (F : Nat) : rnG call 70 (F + 1) 7 ls [vI 0] L = some (some (vI 0), L) := rfl
theorem vc70_0 (d : Nat) (x1 : Int32) (o2 : Option PV) (z : Nat → Int32) (f : Nat → FA) (res : Option PV × QH FA) (H : (((0 ≤ I x1 ∧ I x1 ≤ 222222222) → (∃ (z1 : Nat → Int32) (f1 : Nat → FA), (mcall (d + 2)) 71 [vR 0, vI x1, vI 10] (LR z f) = some (none, LR z1 f1) ∧ RC (mcall (d + 2)) (mP 70) 14 [some (vR 0), some (vI x1), some (vI 0)] [] (LR z1 f1) res)) ∧ ((¬ (0 ≤ I x1 ∧ I x1 ≤ 222222222)) → res = (some (vI 0), LR z f)))) : RC (mcall (d + 2)) (mP 70) 0 [some (vR 0), some (vI x1), o2] [] (LR z f) res := by
  refine rc_b (i' := 4) (ls' := [some (vR 0), some (vI x1), o2]) (st' := [vI 222222222, vI 0, vI x1, vR 0]) (L' := LR z f) 4 (b70_1 (mcall (d + 2)) x1 o2 _) ?_
  refine rc_call (t := 5) (ls' := [some (vR 0), some (vI x1), o2]) (st' := []) (b70_2 (mcall (d + 2)) x1 0 222222222 _ z f) (isIn_r _ x1 0 222222222 z f) ?_
  show RC (mcall (d + 2)) (mP 70) 5 [some (vR 0), some (vI x1), o2] [vI (bI (0 ≤ I x1 ∧ I x1 ≤ 222222222))] (LR z f) res
  refine rc_bn (it := 8) (ie := 6) (ls' := [some (vR 0), some (vI x1), o2]) (st' := []) (b70_3 (mcall (d + 2)) (bI (0 ≤ I x1 ∧ I x1 ≤ 222222222)) _ _) (fun q1 => ?_) (fun q1 => ?_)
  · have H := H.1 q1
    refine rc_b (i' := 11) (ls' := [some (vR 0), some (vI x1), o2]) (st' := [vI 10, vI x1, vR 0]) (L' := LR z f) 3 (b70_4 (mcall (d + 2)) x1 o2 _) ?_
    obtain ⟨z1, f1, hc, H⟩ := H
    refine rc_call (t := 12) (ls' := [some (vR 0), some (vI x1), o2]) (st' := []) (b70_5 (mcall (d + 2)) x1 10 _ z f) hc ?_
    show RC (mcall (d + 2)) (mP 70) 12 [some (vR 0), some (vI x1), o2] [] (LR z1 f1) res
    refine rc_b (i' := 14) (ls' := [some (vR 0), some (vI x1), some (vI 0)]) (st' := []) (L' := LR z1 f1) 2 (b70_6 (mcall (d + 2)) x1 o2 _) ?_
    exact H
  · have H := H.2 q1
    refine rc_b (i' := 7) (ls' := [some (vR 0), some (vI x1), o2]) (st' := [vI 0]) (L' := LR z f) 1 (b70_7 (mcall (d + 2)) x1 o2 _) ?_
    subst H
    exact rc_ret (b70_8 (mcall (d + 2)) _ _)
set_option maxRecDepth 100000 in
theorem bc14_70_1 (call : QC FA) (o1 : Option PV) (x2 : Int32) (L : QH FA) (F : Nat) : rnG call 70 (F + 2) 14 [some (vR 0), o1, some (vI x2)] [] L = rnG call 70 F 16 [some (vR 0), o1, some (vI x2)] [vI 9, vI x2] L := rfl
set_option maxRecDepth 100000 in
theorem bc14_70_2 (call : QC FA) (x y : Int32) (ls : List (Option PV)) (L : QH FA) (F : Nat) : rnG call 70 (F + 1) 16 ls [vI y, vI x] L = bif pcmp 3 x y then rnG call 70 F 27 ls [] L else rnG call 70 F 17 ls [] L := rfl
set_option maxRecDepth 100000 in
theorem bc14_70_3 (call : QC FA) (o1 : Option PV) (x2 : Int32) (z : Nat → Int32) (f : Nat → FA) (F : Nat) : rnG call 70 (F + 3) 17 [some (vR 0), o1, some (vI x2)] [] (LR z f) = rnG call 70 F 20 [some (vR 0), o1, some (vI x2)] [vI x2, vR 41] (LR z f) := rfl
set_option maxRecDepth 100000 in
theorem bc14_70_4 (call : QC FA) (x : Int32) (ls : List (Option PV)) (z : Nat → Int32) (f : Nat → FA) (F : Nat) : rnG call 70 (F + 1) 20 ls [vI x, vR 41] (LR z f) = bif (Nat.beq 0 0 && pin x 9) then rnG call 70 F 21 ls [vI (f 41 (ix x))] (LR z f) else none := rfl
set_option maxRecDepth 100000 in
theorem bc14_70_5 (call : QC FA) (o1 : Option PV) (x2 : Int32) (s0 : Int32) (L : QH FA) (F : Nat) : rnG call 70 (F + 1) 21 [some (vR 0), o1, some (vI x2)] [vI s0] L = rnG call 70 F 22 [some (vR 0), o1, some (vI x2)] [vI 2, vI s0] L := rfl
set_option maxRecDepth 100000 in
theorem bc14_70_6 (call : QC FA) (x y : Int32) (ls : List (Option PV)) (L : QH FA) (F : Nat) : rnG call 70 (F + 1) 22 ls [vI y, vI x] L = bif pcmp 5 x y then rnG call 70 F 25 ls [] L else rnG call 70 F 23 ls [] L := rfl
set_option maxRecDepth 100000 in
theorem bc14_70_7 (call : QC FA) (o1 : Option PV) (x2 : Int32) (L : QH FA) (F : Nat) : rnG call 70 (F + 1) 25 [some (vR 0), o1, some (vI x2)] [] L = rnG call 70 F 26 [some (vR 0), o1, some (vI (x2 + 1))] [] L := rfl
set_option maxRecDepth 100000 in
theorem bc14_70_8 (call : QC FA) (o1 : Option PV) (x2 : Int32) (L : QH FA) (F : Nat) : rnG call 70 (F + 1) 26 [some (vR 0), o1, some (vI x2)] [] L = rnG call 70 F 14 [some (vR 0), o1, some (vI x2)] [] L := rfl
set_option maxRecDepth 100000 in
theorem bc14_70_9 (call : QC FA) (o1 : Option PV) (x2 : Int32) (L : QH FA) (F : Nat) : rnG call 70 (F + 1) 23 [some (vR 0), o1, some (vI x2)] [] L = rnG call 70 F 24 [some (vR 0), o1, some (vI x2)] [vI 0] L := rfl
set_option maxRecDepth 100000 in
theorem bc14_70_10 (call : QC FA) (ls : List (Option PV)) (L : QH FA) (F : Nat) : rnG call 70 (F + 1) 24 ls [vI 0] L = some (some (vI 0), L) := rfl
theorem vcc14_70_14 (d : Nat) (o1 : Option PV) (x2 : Int32) (z : Nat → Int32) (f : Nat → FA) (res : Option PV × QH FA) (H : ((9 ≤ I x2 → RC (mcall (d + 2)) (mP 70) 27 [some (vR 0), o1, some (vI x2)] [] (LR z f) res) ∧ (I x2 < 9 → (pin x2 9 = true ∧ ((I (f 41 (ix x2)) ≤ 2 → RC (mcall (d + 2)) (mP 70) 14 [some (vR 0), o1, some (vI (x2 + 1))] [] (LR z f) res) ∧ (2 < I (f 41 (ix x2)) → res = (some (vI 0), LR z f))))))) : RC (mcall (d + 2)) (mP 70) 14 [some (vR 0), o1, some (vI x2)] [] (LR z f) res := by
  refine rc_b (i' := 16) (ls' := [some (vR 0), o1, some (vI x2)]) (st' := [vI 9, vI x2]) (L' := LR z f) 2 (bc14_70_1 (mcall (d + 2)) o1 x2 _) ?_
  refine rc_if (it := 27) (ie := 17) (ls' := [some (vR 0), o1, some (vI x2)]) (st' := []) (bc14_70_2 (mcall (d + 2)) x2 9 _ _) (fun q1 => ?_) (fun q1 => ?_)
  · have H := H.1 (cI3t q1 rfl rfl)
    exact H
  · have H := H.2 (cI3f q1 rfl rfl)
    refine rc_b (i' := 20) (ls' := [some (vR 0), o1, some (vI x2)]) (st' := [vI x2, vR 41]) (L' := LR z f) 3 (bc14_70_3 (mcall (d + 2)) o1 x2 z f) ?_
    obtain ⟨g1, H⟩ := H
    refine rc_g (i' := 21) (ls' := [some (vR 0), o1, some (vI x2)]) (st' := [vI (f 41 (ix x2))]) (L' := LR z f) (bc14_70_4 (mcall (d + 2)) x2 _ z f) (pinG g1) ?_
    refine rc_b (i' := 22) (ls' := [some (vR 0), o1, some (vI x2)]) (st' := [vI 2, vI (f 41 (ix x2))]) (L' := LR z f) 1 (bc14_70_5 (mcall (d + 2)) o1 x2 (f 41 (ix x2)) _) ?_
    refine rc_if (it := 25) (ie := 23) (ls' := [some (vR 0), o1, some (vI x2)]) (st' := []) (bc14_70_6 (mcall (d + 2)) (f 41 (ix x2)) 2 _ _) (fun q2 => ?_) (fun q2 => ?_)
    · have H := H.1 (cI5t q2 rfl rfl)
      refine rc_b (i' := 26) (ls' := [some (vR 0), o1, some (vI (x2 + 1))]) (st' := []) (L' := LR z f) 1 (bc14_70_7 (mcall (d + 2)) o1 x2 _) ?_
      refine rc_b (i' := 14) (ls' := [some (vR 0), o1, some (vI (x2 + 1))]) (st' := []) (L' := LR z f) 1 (bc14_70_8 (mcall (d + 2)) o1 (x2 + 1) _) ?_
      exact H
    · have H := H.2 (cI5f q2 rfl rfl)
      refine rc_b (i' := 24) (ls' := [some (vR 0), o1, some (vI x2)]) (st' := [vI 0]) (L' := LR z f) 1 (bc14_70_9 (mcall (d + 2)) o1 x2 _) ?_
      subst H
      exact rc_ret (bc14_70_10 (mcall (d + 2)) _ _)
set_option maxRecDepth 100000 in
theorem bc27_70_1 (call : QC FA) (o1 : Option PV) (o2 : Option PV) (z : Nat → Int32) (f : Nat → FA) (F : Nat) : rnG call 70 (F + 4) 27 [some (vR 0), o1, o2] [] (LR z f) = rnG call 70 F 31 [some (vR 0), o1, o2] [vI (z 71), vI (z 70)] (LR z f) := rfl
set_option maxRecDepth 100000 in
theorem bc27_70_2 (call : QC FA) (x y : Int32) (ls : List (Option PV)) (L : QH FA) (F : Nat) : rnG call 70 (F + 1) 31 ls [vI y, vI x] L = bif pcmp 0 x y then rnG call 70 F 39 ls [] L else rnG call 70 F 32 ls [] L := rfl
set_option maxRecDepth 100000 in
theorem bc27_70_3 (call : QC FA) (o1 : Option PV) (o2 : Option PV) (L : QH FA) (F : Nat) : rnG call 70 (F + 2) 39 [some (vR 0), o1, o2] [] L = rnG call 70 F 41 [some (vR 0), o1, o2] [vI 1, vR 0] L := rfl
set_option maxRecDepth 100000 in
theorem bc27_70_4 (call : QC FA) (a0 : Int32) (ls : List (Option PV)) (z : Nat → Int32) (f : Nat → FA) (F : Nat) : rnG call 70 (F + 1) 41 ls [vI a0, vR 0] (LR z f) = cbd (call 72 [vR 0, vI a0] (LR z f)) (fun r L' => rnG call 70 F 42 ls (r.toList ++ []) L') := pcY (ih := rnG call 70 F) (call := call) (a := 72) (b := 1) (v := 12) (t := 42) (x := 0) (ls := ls) (As := [vI a0]) (st' := []) (L := LR z f) rfl rfl rfl
set_option maxRecDepth 100000 in
theorem bc27_70_5 (call : QC FA) (x : Int32) (ls : List (Option PV)) (L : QH FA) (F : Nat) : rnG call 70 (F + 1) 42 ls [vI x] L = bif pcmp 0 x 0 then rnG call 70 F 47 ls [] L else rnG call 70 F 43 ls [] L := rfl
set_option maxRecDepth 100000 in
theorem bc27_70_6 (call : QC FA) (o1 : Option PV) (o2 : Option PV) (L : QH FA) (F : Nat) : rnG call 70 (F + 2) 47 [some (vR 0), o1, o2] [] L = rnG call 70 F 50 [some (vR 0), o1, o2] [vI 1] L := rfl
set_option maxRecDepth 100000 in
theorem bc27_70_7 (call : QC FA) (ls : List (Option PV)) (L : QH FA) (F : Nat) : rnG call 70 (F + 1) 50 ls [vI 1] L = some (some (vI 1), L) := rfl
set_option maxRecDepth 100000 in
theorem bc27_70_8 (call : QC FA) (o1 : Option PV) (o2 : Option PV) (L : QH FA) (F : Nat) : rnG call 70 (F + 2) 43 [some (vR 0), o1, o2] [] L = rnG call 70 F 45 [some (vR 0), o1, o2] [vI 2, vR 0] L := rfl
set_option maxRecDepth 100000 in
theorem bc27_70_9 (call : QC FA) (a0 : Int32) (ls : List (Option PV)) (z : Nat → Int32) (f : Nat → FA) (F : Nat) : rnG call 70 (F + 1) 45 ls [vI a0, vR 0] (LR z f) = cbd (call 72 [vR 0, vI a0] (LR z f)) (fun r L' => rnG call 70 F 46 ls (r.toList ++ []) L') := pcY (ih := rnG call 70 F) (call := call) (a := 72) (b := 1) (v := 12) (t := 46) (x := 0) (ls := ls) (As := [vI a0]) (st' := []) (L := LR z f) rfl rfl rfl
set_option maxRecDepth 100000 in
theorem bc27_70_10 (call : QC FA) (x : Int32) (ls : List (Option PV)) (L : QH FA) (F : Nat) : rnG call 70 (F + 1) 46 ls [vI x] L = bif pcmp 1 x 0 then rnG call 70 F 49 ls [] L else rnG call 70 F 47 ls [] L := rfl
set_option maxRecDepth 100000 in
theorem bc27_70_11 (call : QC FA) (o1 : Option PV) (o2 : Option PV) (L : QH FA) (F : Nat) : rnG call 70 (F + 1) 49 [some (vR 0), o1, o2] [] L = rnG call 70 F 50 [some (vR 0), o1, o2] [vI 0] L := rfl
set_option maxRecDepth 100000 in
theorem bc27_70_12 (call : QC FA) (ls : List (Option PV)) (L : QH FA) (F : Nat) : rnG call 70 (F + 1) 50 ls [vI 0] L = some (some (vI 0), L) := rfl
set_option maxRecDepth 100000 in
theorem bc27_70_13 (call : QC FA) (o1 : Option PV) (o2 : Option PV) (z : Nat → Int32) (f : Nat → FA) (F : Nat) : rnG call 70 (F + 6) 32 [some (vR 0), o1, o2] [] (LR z f) = rnG call 70 F 38 [some (vR 0), o1, o2] [vI ((z 71) + 1), vI (z 70)] (LR z f) := rfl
set_option maxRecDepth 100000 in
theorem bc27_70_14 (call : QC FA) (x y : Int32) (ls : List (Option PV)) (L : QH FA) (F : Nat) : rnG call 70 (F + 1) 38 ls [vI y, vI x] L = bif pcmp 1 x y then rnG call 70 F 49 ls [] L else rnG call 70 F 39 ls [] L := rfl
theorem vcc27_70_27 (d : Nat) (o1 : Option PV) (o2 : Option PV) (z : Nat → Int32) (f : Nat → FA) (res : Option PV × QH FA) (H : ((z 70 = z 71 → (∃ (r1 : Int32) (z1 : Nat → Int32) (f1 : Nat → FA), (mcall (d + 2)) 72 [vR 0, vI 1] (LR z f) = some (some (vI r1), LR z1 f1) ∧ ((r1 = 0 → res = (some (vI 1), LR z1 f1)) ∧ (¬ r1 = 0 → (∃ (r2 : Int32) (z2 : Nat → Int32) (f2 : Nat → FA), (mcall (d + 2)) 72 [vR 0, vI 2] (LR z1 f1) = some (some (vI r2), LR z2 f2) ∧ ((¬ r2 = 0 → res = (some (vI 0), LR z2 f2)) ∧ (r2 = 0 → res = (some (vI 1), LR z2 f2)))))))) ∧ (¬ z 70 = z 71 → ((¬ z 70 = (z 71) + 1 → res = (some (vI 0), LR z f)) ∧ (z 70 = (z 71) + 1 → (∃ (r3 : Int32) (z3 : Nat → Int32) (f3 : Nat → FA), (mcall (d + 2)) 72 [vR 0, vI 1] (LR z f) = some (some (vI r3), LR z3 f3) ∧ ((r3 = 0 → res = (some (vI 1), LR z3 f3)) ∧ (¬ r3 = 0 → (∃ (r4 : Int32) (z4 : Nat → Int32) (f4 : Nat → FA), (mcall (d + 2)) 72 [vR 0, vI 2] (LR z3 f3) = some (some (vI r4), LR z4 f4) ∧ ((¬ r4 = 0 → res = (some (vI 0), LR z4 f4)) ∧ (r4 = 0 → res = (some (vI 1), LR z4 f4)))))))))))) : RC (mcall (d + 2)) (mP 70) 27 [some (vR 0), o1, o2] [] (LR z f) res := by
  refine rc_b (i' := 31) (ls' := [some (vR 0), o1, o2]) (st' := [vI (z 71), vI (z 70)]) (L' := LR z f) 4 (bc27_70_1 (mcall (d + 2)) o1 o2 z f) ?_
  refine rc_if (it := 39) (ie := 32) (ls' := [some (vR 0), o1, o2]) (st' := []) (bc27_70_2 (mcall (d + 2)) (z 70) (z 71) _ _) (fun q1 => ?_) (fun q1 => ?_)
  · have H := H.1 (cI0t q1)
    refine rc_b (i' := 41) (ls' := [some (vR 0), o1, o2]) (st' := [vI 1, vR 0]) (L' := LR z f) 2 (bc27_70_3 (mcall (d + 2)) o1 o2 _) ?_
    obtain ⟨r1, z1, f1, hc, H⟩ := H
    refine rc_call (t := 42) (ls' := [some (vR 0), o1, o2]) (st' := []) (bc27_70_4 (mcall (d + 2)) 1 _ z f) hc ?_
    show RC (mcall (d + 2)) (mP 70) 42 [some (vR 0), o1, o2] [vI r1] (LR z1 f1) res
    refine rc_if (it := 47) (ie := 43) (ls' := [some (vR 0), o1, o2]) (st' := []) (bc27_70_5 (mcall (d + 2)) r1 _ _) (fun q2 => ?_) (fun q2 => ?_)
    · have H := H.1 (cI0t q2)
      refine rc_b (i' := 50) (ls' := [some (vR 0), o1, o2]) (st' := [vI 1]) (L' := LR z1 f1) 2 (bc27_70_6 (mcall (d + 2)) o1 o2 _) ?_
      subst H
      exact rc_ret (bc27_70_7 (mcall (d + 2)) _ _)
    · have H := H.2 (cI0f q2)
      refine rc_b (i' := 45) (ls' := [some (vR 0), o1, o2]) (st' := [vI 2, vR 0]) (L' := LR z1 f1) 2 (bc27_70_8 (mcall (d + 2)) o1 o2 _) ?_
      obtain ⟨r2, z2, f2, hc, H⟩ := H
      refine rc_call (t := 46) (ls' := [some (vR 0), o1, o2]) (st' := []) (bc27_70_9 (mcall (d + 2)) 2 _ z1 f1) hc ?_
      show RC (mcall (d + 2)) (mP 70) 46 [some (vR 0), o1, o2] [vI r2] (LR z2 f2) res
      refine rc_if (it := 49) (ie := 47) (ls' := [some (vR 0), o1, o2]) (st' := []) (bc27_70_10 (mcall (d + 2)) r2 _ _) (fun q3 => ?_) (fun q3 => ?_)
      · have H := H.1 (cI1t q3)
        refine rc_b (i' := 50) (ls' := [some (vR 0), o1, o2]) (st' := [vI 0]) (L' := LR z2 f2) 1 (bc27_70_11 (mcall (d + 2)) o1 o2 _) ?_
        subst H
        exact rc_ret (bc27_70_12 (mcall (d + 2)) _ _)
      · have H := H.2 (cI1f q3)
        refine rc_b (i' := 50) (ls' := [some (vR 0), o1, o2]) (st' := [vI 1]) (L' := LR z2 f2) 2 (bc27_70_6 (mcall (d + 2)) o1 o2 _) ?_
        subst H
        exact rc_ret (bc27_70_7 (mcall (d + 2)) _ _)
  · have H := H.2 (cI0f q1)
    refine rc_b (i' := 38) (ls' := [some (vR 0), o1, o2]) (st' := [vI ((z 71) + 1), vI (z 70)]) (L' := LR z f) 6 (bc27_70_13 (mcall (d + 2)) o1 o2 z f) ?_
    refine rc_if (it := 49) (ie := 39) (ls' := [some (vR 0), o1, o2]) (st' := []) (bc27_70_14 (mcall (d + 2)) (z 70) ((z 71) + 1) _ _) (fun q4 => ?_) (fun q4 => ?_)
    · have H := H.1 (cI1t q4)
      refine rc_b (i' := 50) (ls' := [some (vR 0), o1, o2]) (st' := [vI 0]) (L' := LR z f) 1 (bc27_70_11 (mcall (d + 2)) o1 o2 _) ?_
      subst H
      exact rc_ret (bc27_70_12 (mcall (d + 2)) _ _)
    · have H := H.2 (cI1f q4)
      refine rc_b (i' := 41) (ls' := [some (vR 0), o1, o2]) (st' := [vI 1, vR 0]) (L' := LR z f) 2 (bc27_70_3 (mcall (d + 2)) o1 o2 _) ?_
      obtain ⟨r3, z3, f3, hc, H⟩ := H
      refine rc_call (t := 42) (ls' := [some (vR 0), o1, o2]) (st' := []) (bc27_70_4 (mcall (d + 2)) 1 _ z f) hc ?_
      show RC (mcall (d + 2)) (mP 70) 42 [some (vR 0), o1, o2] [vI r3] (LR z3 f3) res
      refine rc_if (it := 47) (ie := 43) (ls' := [some (vR 0), o1, o2]) (st' := []) (bc27_70_5 (mcall (d + 2)) r3 _ _) (fun q5 => ?_) (fun q5 => ?_)
      · have H := H.1 (cI0t q5)
        refine rc_b (i' := 50) (ls' := [some (vR 0), o1, o2]) (st' := [vI 1]) (L' := LR z3 f3) 2 (bc27_70_6 (mcall (d + 2)) o1 o2 _) ?_
        subst H
        exact rc_ret (bc27_70_7 (mcall (d + 2)) _ _)
      · have H := H.2 (cI0f q5)
        refine rc_b (i' := 45) (ls' := [some (vR 0), o1, o2]) (st' := [vI 2, vR 0]) (L' := LR z3 f3) 2 (bc27_70_8 (mcall (d + 2)) o1 o2 _) ?_
        obtain ⟨r4, z4, f4, hc, H⟩ := H
        refine rc_call (t := 46) (ls' := [some (vR 0), o1, o2]) (st' := []) (bc27_70_9 (mcall (d + 2)) 2 _ z3 f3) hc ?_
        show RC (mcall (d + 2)) (mP 70) 46 [some (vR 0), o1, o2] [vI r4] (LR z4 f4) res
        refine rc_if (it := 49) (ie := 47) (ls' := [some (vR 0), o1, o2]) (st' := []) (bc27_70_10 (mcall (d + 2)) r4 _ _) (fun q6 => ?_) (fun q6 => ?_)
        · have H := H.1 (cI1t q6)
          refine rc_b (i' := 50) (ls' := [some (vR 0), o1, o2]) (st' := [vI 0]) (L' := LR z4 f4) 1 (bc27_70_11 (mcall (d + 2)) o1 o2 _) ?_
          subst H
          exact rc_ret (bc27_70_12 (mcall (d + 2)) _ _)
        · have H := H.2 (cI1f q6)
          refine rc_b (i' := 50) (ls' := [some (vR 0), o1, o2]) (st' := [vI 1]) (L' := LR z4 f4) 2 (bc27_70_6 (mcall (d + 2)) o1 o2 _) ?_
          subst H
          exact rc_ret (bc27_70_7 (mcall (d + 2)) _ _)
theorem ig27 (d0 : Nat) (o1 o2 : Option PV) (z : Nat → Int32) (f : Nat → FA) : ∃ r, RC (mcall (d0 + 2)) (mP 70) 27 [some (vR 0), o1, o2] [] (LR z f) (some (vI r), LR z f) := by
  obtain ⟨r1, h1⟩ := hasThree_r d0 1 z f
  obtain ⟨r2, h2⟩ := hasThree_r d0 2 z f
  by_cases c1 : z 70 = z 71
  · by_cases c2 : r1 = 0
    · exact ⟨1, vcc27_70_27 _ _ _ _ _ _ ⟨fun _ => ⟨r1, z, f, h1, fun _ => rfl, fun q => absurd c2 q⟩, fun q => absurd c1 q⟩⟩
    · by_cases c3 : r2 = 0
      · exact ⟨1, vcc27_70_27 _ _ _ _ _ _ ⟨fun _ => ⟨r1, z, f, h1, fun q => absurd q c2, fun _ => ⟨r2, z, f, h2, fun q => absurd c3 q, fun _ => rfl⟩⟩, fun q => absurd c1 q⟩⟩
      · exact ⟨0, vcc27_70_27 _ _ _ _ _ _ ⟨fun _ => ⟨r1, z, f, h1, fun q => absurd q c2, fun _ => ⟨r2, z, f, h2, fun _ => rfl, fun q => absurd q c3⟩⟩, fun q => absurd c1 q⟩⟩
  · by_cases c4 : z 70 = z 71 + 1
    · by_cases c2 : r1 = 0
      · exact ⟨1, vcc27_70_27 _ _ _ _ _ _ ⟨fun q => absurd q c1, fun _ => ⟨fun q => absurd c4 q, fun _ => ⟨r1, z, f, h1, fun _ => rfl, fun q => absurd c2 q⟩⟩⟩⟩
      · by_cases c3 : r2 = 0
        · exact ⟨1, vcc27_70_27 _ _ _ _ _ _ ⟨fun q => absurd q c1, fun _ => ⟨fun q => absurd c4 q, fun _ => ⟨r1, z, f, h1, fun q => absurd q c2, fun _ => ⟨r2, z, f, h2, fun q => absurd c3 q, fun _ => rfl⟩⟩⟩⟩⟩
        · exact ⟨0, vcc27_70_27 _ _ _ _ _ _ ⟨fun q => absurd q c1, fun _ => ⟨fun q => absurd c4 q, fun _ => ⟨r1, z, f, h1, fun q => absurd q c2, fun _ => ⟨r2, z, f, h2, fun _ => rfl, fun q => absurd q c3⟩⟩⟩⟩⟩
    · exact ⟨0, vcc27_70_27 _ _ _ _ _ _ ⟨fun q => absurd q c1, fun _ => ⟨fun _ => rfl, fun q => absurd q c4⟩⟩⟩
theorem ig14 (d0 : Nat) (o1 : Option PV) (z : Nat → Int32) (f : Nat → FA) : ∀ t k, k + t = 9 → (∀ i, i < k → I (f 41 i) ≤ 2) → ∃ r, RC (mcall (d0 + 2)) (mP 70) 14 [some (vR 0), o1, some (vI (nI k))] [] (LR z f) (some (vI r), LR z f) ∧ (r = 0 ∨ ∀ i, i < 9 → I (f 41 i) ≤ 2) := by
  intro t
  induction t with
  | zero =>
    intro k hk h
    obtain rfl : k = 9 := by omega
    obtain ⟨r, hr⟩ := ig27 d0 o1 (some (vI (nI 9))) z f
    exact ⟨r, vcc14_70_14 _ _ _ _ _ _ ⟨fun _ => hr, fun q => absurd q (by decide)⟩, Or.inr h⟩
  | succ t ih =>
    intro k hk h
    have go : ∀ res, _ → RC (mcall (d0 + 2)) (mP 70) 14 [some (vR 0), o1, some (vI (nI k))] [] (LR z f) res := fun res H => vcc14_70_14 d0 o1 (nI k) z f res H
    rw [I_nI (by omega), ix_nI (by omega), show nI k + 1 = nI (k + 1) from nI_add _ 1] at go
    by_cases c : I (f 41 k) ≤ 2
    · obtain ⟨r, h1, h2⟩ := ih (k + 1) (by omega) (fun i hi => by
        by_cases e : i = k
        · subst e; exact c
        · exact h i (by omega))
      exact ⟨r, go _ ⟨fun q => by omega, fun _ => ⟨pin_nI (by omega) (by omega), fun _ => h1, fun q => by omega⟩⟩, h2⟩
    · exact ⟨0, go _ ⟨fun q => by omega, fun _ => ⟨pin_nI (by omega) (by omega), fun q => absurd q c, fun _ => rfl⟩⟩, Or.inl rfl⟩
theorem isGame_r (d0 : Nat) (x : Int32) (z : Nat → Int32) (f : Nat → FA) : ∃ r z' f', mcall (d0 + 3) 70 [vR 0, vI x] (LR z f) = some (some (vI r), LR z' f') ∧ GMf z f z' f' ∧ (r = 0 ∨ ∀ i, i < 9 → ∃ e, f' 41 i = nI e ∧ e ≤ 2) := by
  have go : ∀ res, _ → mcall (d0 + 3) 70 [vR 0, vI x] (LR z f) = some res := fun res H => mcall_i (mq70 (cu := [])).2.2 rfl (vc70_0 d0 x none z f res H)
  by_cases c : 0 ≤ I x ∧ I x ≤ 222222222
  · obtain ⟨n, n1, n2, n3⟩ := nI_ofI c.1
    subst n1
    obtain ⟨z1, g, h1, h2, h3⟩ := takesNine_r (d0 + 1) n 10 (by omega) (Or.inr rfl) z f
    obtain ⟨r, v1, v2⟩ := ig14 d0 (some (vI (nI n))) z1 (uA f 41 g) 9 0 (by omega) (fun i hi => by omega)
    refine ⟨r, z1, _, go _ ⟨fun _ => ⟨z1, _, h1, v1⟩, fun q => absurd c q⟩, GMf.n h2, ?_⟩
    rcases v2 with v2 | v2
    · exact Or.inl v2
    · refine Or.inr (fun i hi => ?_)
      have v3 := v2 i hi
      rw [uA_self, h3 i hi] at v3
      have hlt : dgt n 10 i < 2147483648 := Nat.lt_of_lt_of_le (Nat.mod_lt _ (by decide)) (by decide)
      rw [I_nI hlt] at v3
      exact ⟨dgt n 10 i, by rw [uA_self]; exact h3 i hi, by omega⟩
  · exact ⟨0, z, f, go _ ⟨fun q => absurd q c, fun _ => rfl⟩, GMf.refl, Or.inl rfl⟩
set_option maxRecDepth 100000 in
theorem b69_1 (call : QC FA) (x1 : Int32) (x2 : Int32) (o3 : Option PV) (o4 : Option PV) (L : QH FA) (F : Nat) : rnG call 69 (F + 2) 0 [some (vR 0), some (vI x1), some (vI x2), o3, o4] [] L = rnG call 69 F 2 [some (vR 0), some (vI x1), some (vI x2), o3, o4] [vI 0, vR 0] L := rfl
set_option maxRecDepth 100000 in
theorem b69_2 (call : QC FA) (y : Int32) (ls : List (Option PV)) (z : Nat → Int32) (f : Nat → FA) (F : Nat) : rnG call 69 (F + 1) 2 ls [vI y, vR 0] (LR z f) = rnG call 69 F 3 ls [] (LR (uZ z 0 y) f) := rfl
set_option maxRecDepth 100000 in
theorem b69_3 (call : QC FA) (x1 : Int32) (x2 : Int32) (o3 : Option PV) (o4 : Option PV) (L : QH FA) (F : Nat) : rnG call 69 (F + 4) 3 [some (vR 0), some (vI x1), some (vI x2), o3, o4] [] L = rnG call 69 F 7 [some (vR 0), some (vI x1), some (vI x2), o3, o4] [vI 1, vI 0, vI x2, vR 0] L := rfl
set_option maxRecDepth 100000 in
theorem b69_4 (call : QC FA) (a0 : Int32) (a1 : Int32) (a2 : Int32) (ls : List (Option PV)) (z : Nat → Int32) (f : Nat → FA) (F : Nat) : rnG call 69 (F + 1) 7 ls [vI a2, vI a1, vI a0, vR 0] (LR z f) = cbd (call 47 [vR 0, vI a0, vI a1, vI a2] (LR z f)) (fun r L' => rnG call 69 F 8 ls (r.toList ++ []) L') := pcY (ih := rnG call 69 F) (call := call) (a := 47) (b := 3) (v := 12) (t := 8) (x := 0) (ls := ls) (As := [vI a0, vI a1, vI a2]) (st' := []) (L := LR z f) rfl rfl rfl
set_option maxRecDepth 100000 in
theorem b69_5 (call : QC FA) (x : Int32) (ls : List (Option PV)) (L : QH FA) (F : Nat) : rnG call 69 (F + 1) 8 ls [vI x] L = bif pcmp 0 x 0 then rnG call 69 F 13 ls [] L else rnG call 69 F 9 ls [] L := rfl
set_option maxRecDepth 100000 in
theorem b69_6 (call : QC FA) (x1 : Int32) (x2 : Int32) (o3 : Option PV) (o4 : Option PV) (L : QH FA) (F : Nat) : rnG call 69 (F + 1) 13 [some (vR 0), some (vI x1), some (vI x2), o3, o4] [] L = rnG call 69 F 14 [some (vR 0), some (vI x1), some (vI x2), o3, o4] [vI ((-10))] L := rfl
set_option maxRecDepth 100000 in
theorem b69_7 (call : QC FA) (x : Int32) (ls : List (Option PV)) (L : QH FA) (F : Nat) : rnG call 69 (F + 1) 14 ls [vI x] L = some (some (vI x), L) := rfl
set_option maxRecDepth 100000 in
theorem b69_8 (call : QC FA) (x1 : Int32) (x2 : Int32) (o3 : Option PV) (o4 : Option PV) (L : QH FA) (F : Nat) : rnG call 69 (F + 2) 9 [some (vR 0), some (vI x1), some (vI x2), o3, o4] [] L = rnG call 69 F 11 [some (vR 0), some (vI x1), some (vI x2), o3, o4] [vI x1, vR 0] L := rfl
set_option maxRecDepth 100000 in
theorem b69_9 (call : QC FA) (a0 : Int32) (ls : List (Option PV)) (z : Nat → Int32) (f : Nat → FA) (F : Nat) : rnG call 69 (F + 1) 11 ls [vI a0, vR 0] (LR z f) = cbd (call 70 [vR 0, vI a0] (LR z f)) (fun r L' => rnG call 69 F 12 ls (r.toList ++ []) L') := pcY (ih := rnG call 69 F) (call := call) (a := 70) (b := 1) (v := 12) (t := 12) (x := 0) (ls := ls) (As := [vI a0]) (st' := []) (L := LR z f) rfl rfl rfl
set_option maxRecDepth 100000 in
theorem b69_10 (call : QC FA) (x : Int32) (ls : List (Option PV)) (L : QH FA) (F : Nat) : rnG call 69 (F + 1) 12 ls [vI x] L = bif pcmp 1 x 0 then rnG call 69 F 15 ls [] L else rnG call 69 F 13 ls [] L := rfl
set_option maxRecDepth 100000 in
theorem b69_11 (call : QC FA) (x1 : Int32) (x2 : Int32) (o3 : Option PV) (o4 : Option PV) (L : QH FA) (F : Nat) : rnG call 69 (F + 4) 15 [some (vR 0), some (vI x1), some (vI x2), o3, o4] [] L = rnG call 69 F 19 [some (vR 0), some (vI x1), some (vI x2), some (vI 0), some (vI 0)] [] L := rfl
theorem vc69_0 (d : Nat) (x1 : Int32) (x2 : Int32) (o3 : Option PV) (o4 : Option PV) (z : Nat → Int32) (f : Nat → FA) (res : Option PV × QH FA) (H : (((0 ≤ I x2 ∧ I x2 ≤ 1) → (∃ (r1 : Int32) (z1 : Nat → Int32) (f1 : Nat → FA), (mcall (d + 4)) 70 [vR 0, vI x1] (LR (uZ z 0 0) f) = some (some (vI r1), LR z1 f1) ∧ ((¬ r1 = 0 → RC (mcall (d + 4)) (mP 69) 19 [some (vR 0), some (vI x1), some (vI x2), some (vI 0), some (vI 0)] [] (LR z1 f1) res) ∧ (r1 = 0 → res = (some (vI ((-10))), LR z1 f1))))) ∧ ((¬ (0 ≤ I x2 ∧ I x2 ≤ 1)) → res = (some (vI ((-10))), LR (uZ z 0 0) f)))) : RC (mcall (d + 4)) (mP 69) 0 [some (vR 0), some (vI x1), some (vI x2), o3, o4] [] (LR z f) res := by
  refine rc_b (i' := 2) (ls' := [some (vR 0), some (vI x1), some (vI x2), o3, o4]) (st' := [vI 0, vR 0]) (L' := LR z f) 2 (b69_1 (mcall (d + 4)) x1 x2 o3 o4 _) ?_
  refine rc_b (i' := 3) (ls' := [some (vR 0), some (vI x1), some (vI x2), o3, o4]) (st' := []) (L' := LR (uZ z 0 0) f) 1 (b69_2 (mcall (d + 4)) 0 _ z f) ?_
  refine rc_b (i' := 7) (ls' := [some (vR 0), some (vI x1), some (vI x2), o3, o4]) (st' := [vI 1, vI 0, vI x2, vR 0]) (L' := LR (uZ z 0 0) f) 4 (b69_3 (mcall (d + 4)) x1 x2 o3 o4 _) ?_
  refine rc_call (t := 8) (ls' := [some (vR 0), some (vI x1), some (vI x2), o3, o4]) (st' := []) (b69_4 (mcall (d + 4)) x2 0 1 _ (uZ z 0 0) f) (isIn_r _ x2 0 1 (uZ z 0 0) f) ?_
  show RC (mcall (d + 4)) (mP 69) 8 [some (vR 0), some (vI x1), some (vI x2), o3, o4] [vI (bI (0 ≤ I x2 ∧ I x2 ≤ 1))] (LR (uZ z 0 0) f) res
  refine rc_bz (it := 13) (ie := 9) (ls' := [some (vR 0), some (vI x1), some (vI x2), o3, o4]) (st' := []) (b69_5 (mcall (d + 4)) (bI (0 ≤ I x2 ∧ I x2 ≤ 1)) _ _) (fun q1 => ?_) (fun q1 => ?_)
  · have H := H.2 q1
    refine rc_b (i' := 14) (ls' := [some (vR 0), some (vI x1), some (vI x2), o3, o4]) (st' := [vI ((-10))]) (L' := LR (uZ z 0 0) f) 1 (b69_6 (mcall (d + 4)) x1 x2 o3 o4 _) ?_
    subst H
    exact rc_ret (b69_7 (mcall (d + 4)) _ _ _)
  · have H := H.1 q1
    refine rc_b (i' := 11) (ls' := [some (vR 0), some (vI x1), some (vI x2), o3, o4]) (st' := [vI x1, vR 0]) (L' := LR (uZ z 0 0) f) 2 (b69_8 (mcall (d + 4)) x1 x2 o3 o4 _) ?_
    obtain ⟨r1, z1, f1, hc, H⟩ := H
    refine rc_call (t := 12) (ls' := [some (vR 0), some (vI x1), some (vI x2), o3, o4]) (st' := []) (b69_9 (mcall (d + 4)) x1 _ (uZ z 0 0) f) hc ?_
    show RC (mcall (d + 4)) (mP 69) 12 [some (vR 0), some (vI x1), some (vI x2), o3, o4] [vI r1] (LR z1 f1) res
    refine rc_if (it := 15) (ie := 13) (ls' := [some (vR 0), some (vI x1), some (vI x2), o3, o4]) (st' := []) (b69_10 (mcall (d + 4)) r1 _ _) (fun q2 => ?_) (fun q2 => ?_)
    · have H := H.1 (cI1t q2)
      refine rc_b (i' := 19) (ls' := [some (vR 0), some (vI x1), some (vI x2), some (vI 0), some (vI 0)]) (st' := []) (L' := LR z1 f1) 4 (b69_11 (mcall (d + 4)) x1 x2 o3 o4 _) ?_
      exact H
    · have H := H.2 (cI1f q2)
      refine rc_b (i' := 14) (ls' := [some (vR 0), some (vI x1), some (vI x2), o3, o4]) (st' := [vI ((-10))]) (L' := LR z1 f1) 1 (b69_6 (mcall (d + 4)) x1 x2 o3 o4 _) ?_
      subst H
      exact rc_ret (b69_7 (mcall (d + 4)) _ _ _)
set_option maxRecDepth 100000 in
theorem bc19_69_1 (call : QC FA) (o1 : Option PV) (x2 : Int32) (x3 : Int32) (x4 : Int32) (L : QH FA) (F : Nat) : rnG call 69 (F + 2) 19 [some (vR 0), o1, some (vI x2), some (vI x3), some (vI x4)] [] L = rnG call 69 F 21 [some (vR 0), o1, some (vI x2), some (vI x3), some (vI x4)] [vI 9, vI x4] L := rfl
set_option maxRecDepth 100000 in
theorem bc19_69_2 (call : QC FA) (x y : Int32) (ls : List (Option PV)) (L : QH FA) (F : Nat) : rnG call 69 (F + 1) 21 ls [vI y, vI x] L = bif pcmp 3 x y then rnG call 69 F 33 ls [] L else rnG call 69 F 22 ls [] L := rfl
set_option maxRecDepth 100000 in
theorem bc19_69_3 (call : QC FA) (o1 : Option PV) (x2 : Int32) (x3 : Int32) (x4 : Int32) (z : Nat → Int32) (f : Nat → FA) (F : Nat) : rnG call 69 (F + 6) 22 [some (vR 0), o1, some (vI x2), some (vI x3), some (vI x4)] [] (LR z f) = rnG call 69 F 28 [some (vR 0), o1, some (vI x2), some (vI x3), some (vI x4)] [vI x4, vR 41, vI (3 * x3)] (LR z f) := rfl
set_option maxRecDepth 100000 in
theorem bc19_69_4 (call : QC FA) (x : Int32) (s0 : Int32) (ls : List (Option PV)) (z : Nat → Int32) (f : Nat → FA) (F : Nat) : rnG call 69 (F + 1) 28 ls [vI x, vR 41, vI s0] (LR z f) = bif (Nat.beq 0 0 && pin x 9) then rnG call 69 F 29 ls [vI (f 41 (ix x)), vI s0] (LR z f) else none := rfl
set_option maxRecDepth 100000 in
theorem bc19_69_5 (call : QC FA) (o1 : Option PV) (x2 : Int32) (x3 : Int32) (x4 : Int32) (s0 : Int32) (s1 : Int32) (L : QH FA) (F : Nat) : rnG call 69 (F + 2) 29 [some (vR 0), o1, some (vI x2), some (vI x3), some (vI x4)] [vI s0, vI s1] L = rnG call 69 F 31 [some (vR 0), o1, some (vI x2), some (vI (s1 + s0)), some (vI x4)] [] L := rfl
set_option maxRecDepth 100000 in
theorem bc19_69_6 (call : QC FA) (o1 : Option PV) (x2 : Int32) (x3 : Int32) (x4 : Int32) (L : QH FA) (F : Nat) : rnG call 69 (F + 1) 31 [some (vR 0), o1, some (vI x2), some (vI x3), some (vI x4)] [] L = rnG call 69 F 32 [some (vR 0), o1, some (vI x2), some (vI x3), some (vI (x4 + 1))] [] L := rfl
set_option maxRecDepth 100000 in
theorem bc19_69_7 (call : QC FA) (o1 : Option PV) (x2 : Int32) (x3 : Int32) (x4 : Int32) (L : QH FA) (F : Nat) : rnG call 69 (F + 1) 32 [some (vR 0), o1, some (vI x2), some (vI x3), some (vI x4)] [] L = rnG call 69 F 19 [some (vR 0), o1, some (vI x2), some (vI x3), some (vI x4)] [] L := rfl
theorem vcc19_69_19 (d : Nat) (o1 : Option PV) (x2 : Int32) (x3 : Int32) (x4 : Int32) (z : Nat → Int32) (f : Nat → FA) (res : Option PV × QH FA) (H : ((9 ≤ I x4 → RC (mcall (d + 4)) (mP 69) 33 [some (vR 0), o1, some (vI x2), some (vI x3), some (vI x4)] [] (LR z f) res) ∧ (I x4 < 9 → (pin x4 9 = true ∧ RC (mcall (d + 4)) (mP 69) 19 [some (vR 0), o1, some (vI x2), some (vI ((3 * x3) + (f 41 (ix x4)))), some (vI (x4 + 1))] [] (LR z f) res)))) : RC (mcall (d + 4)) (mP 69) 19 [some (vR 0), o1, some (vI x2), some (vI x3), some (vI x4)] [] (LR z f) res := by
  refine rc_b (i' := 21) (ls' := [some (vR 0), o1, some (vI x2), some (vI x3), some (vI x4)]) (st' := [vI 9, vI x4]) (L' := LR z f) 2 (bc19_69_1 (mcall (d + 4)) o1 x2 x3 x4 _) ?_
  refine rc_if (it := 33) (ie := 22) (ls' := [some (vR 0), o1, some (vI x2), some (vI x3), some (vI x4)]) (st' := []) (bc19_69_2 (mcall (d + 4)) x4 9 _ _) (fun q1 => ?_) (fun q1 => ?_)
  · have H := H.1 (cI3t q1 rfl rfl)
    exact H
  · have H := H.2 (cI3f q1 rfl rfl)
    refine rc_b (i' := 28) (ls' := [some (vR 0), o1, some (vI x2), some (vI x3), some (vI x4)]) (st' := [vI x4, vR 41, vI (3 * x3)]) (L' := LR z f) 6 (bc19_69_3 (mcall (d + 4)) o1 x2 x3 x4 z f) ?_
    obtain ⟨g1, H⟩ := H
    refine rc_g (i' := 29) (ls' := [some (vR 0), o1, some (vI x2), some (vI x3), some (vI x4)]) (st' := [vI (f 41 (ix x4)), vI (3 * x3)]) (L' := LR z f) (bc19_69_4 (mcall (d + 4)) x4 (3 * x3) _ z f) (pinG g1) ?_
    refine rc_b (i' := 31) (ls' := [some (vR 0), o1, some (vI x2), some (vI ((3 * x3) + (f 41 (ix x4)))), some (vI x4)]) (st' := []) (L' := LR z f) 2 (bc19_69_5 (mcall (d + 4)) o1 x2 x3 x4 (f 41 (ix x4)) (3 * x3) _) ?_
    refine rc_b (i' := 32) (ls' := [some (vR 0), o1, some (vI x2), some (vI ((3 * x3) + (f 41 (ix x4)))), some (vI (x4 + 1))]) (st' := []) (L' := LR z f) 1 (bc19_69_6 (mcall (d + 4)) o1 x2 ((3 * x3) + (f 41 (ix x4))) x4 _) ?_
    refine rc_b (i' := 19) (ls' := [some (vR 0), o1, some (vI x2), some (vI ((3 * x3) + (f 41 (ix x4)))), some (vI (x4 + 1))]) (st' := []) (L' := LR z f) 1 (bc19_69_7 (mcall (d + 4)) o1 x2 ((3 * x3) + (f 41 (ix x4))) (x4 + 1) _) ?_
    exact H
set_option maxRecDepth 100000 in
theorem bc33_69_1 (call : QC FA) (o1 : Option PV) (x2 : Int32) (x3 : Int32) (o4 : Option PV) (L : QH FA) (F : Nat) : rnG call 69 (F + 2) 33 [some (vR 0), o1, some (vI x2), some (vI x3), o4] [] L = rnG call 69 F 35 [some (vR 0), o1, some (vI x2), some (vI x3), o4] [vI x3, vR 0] L := rfl
set_option maxRecDepth 100000 in
theorem bc33_69_2 (call : QC FA) (a0 : Int32) (ls : List (Option PV)) (z : Nat → Int32) (f : Nat → FA) (F : Nat) : rnG call 69 (F + 1) 35 ls [vI a0, vR 0] (LR z f) = cbd (call 74 [vR 0, vI a0] (LR z f)) (fun r L' => rnG call 69 F 36 ls (r.toList ++ []) L') := pcY (ih := rnG call 69 F) (call := call) (a := 74) (b := 1) (v := 12) (t := 36) (x := 0) (ls := ls) (As := [vI a0]) (st' := []) (L := LR z f) rfl rfl rfl
set_option maxRecDepth 100000 in
theorem bc33_69_3 (call : QC FA) (o1 : Option PV) (x2 : Int32) (x3 : Int32) (o4 : Option PV) (L : QH FA) (F : Nat) : rnG call 69 (F + 3) 36 [some (vR 0), o1, some (vI x2), some (vI x3), o4] [] L = rnG call 69 F 39 [some (vR 0), o1, some (vI x2), some (vI x3), o4] [vI 3, vI x3, vR 0] L := rfl
set_option maxRecDepth 100000 in
theorem bc33_69_4 (call : QC FA) (a0 : Int32) (a1 : Int32) (ls : List (Option PV)) (z : Nat → Int32) (f : Nat → FA) (F : Nat) : rnG call 69 (F + 1) 39 ls [vI a1, vI a0, vR 0] (LR z f) = cbd (call 71 [vR 0, vI a0, vI a1] (LR z f)) (fun r L' => rnG call 69 F 40 ls (r.toList ++ []) L') := pcY (ih := rnG call 69 F) (call := call) (a := 71) (b := 2) (v := 12) (t := 40) (x := 0) (ls := ls) (As := [vI a0, vI a1]) (st' := []) (L := LR z f) rfl rfl rfl
set_option maxRecDepth 100000 in
theorem bc33_69_5 (call : QC FA) (o1 : Option PV) (x2 : Int32) (x3 : Int32) (o4 : Option PV) (L : QH FA) (F : Nat) : rnG call 69 (F + 1) 40 [some (vR 0), o1, some (vI x2), some (vI x3), o4] [] L = rnG call 69 F 41 [some (vR 0), o1, some (vI x2), some (vI x3), o4] [vI x2] L := rfl
set_option maxRecDepth 100000 in
theorem bc33_69_6 (call : QC FA) (x : Int32) (ls : List (Option PV)) (L : QH FA) (F : Nat) : rnG call 69 (F + 1) 41 ls [vI x] L = bif pcmp 1 x 0 then rnG call 69 F 47 ls [] L else rnG call 69 F 42 ls [] L := rfl
set_option maxRecDepth 100000 in
theorem bc33_69_7 (call : QC FA) (o1 : Option PV) (x2 : Int32) (x3 : Int32) (o4 : Option PV) (L : QH FA) (F : Nat) : rnG call 69 (F + 1) 47 [some (vR 0), o1, some (vI x2), some (vI x3), o4] [] L = rnG call 69 F 48 [some (vR 0), o1, some (vI x2), some (vI x3), o4] [vR 0] L := rfl
set_option maxRecDepth 100000 in
theorem bc33_69_8 (call : QC FA) (ls : List (Option PV)) (z : Nat → Int32) (f : Nat → FA) (F : Nat) : rnG call 69 (F + 1) 48 ls [vR 0] (LR z f) = cbd (call 78 [vR 0] (LR z f)) (fun r L' => rnG call 69 F 49 ls (r.toList ++ []) L') := pcY (ih := rnG call 69 F) (call := call) (a := 78) (b := 0) (v := 12) (t := 49) (x := 0) (ls := ls) (As := []) (st' := []) (L := LR z f) rfl rfl rfl
set_option maxRecDepth 100000 in
theorem bc33_69_9 (call : QC FA) (x : Int32) (ls : List (Option PV)) (L : QH FA) (F : Nat) : rnG call 69 (F + 1) 49 ls [vI x] L = bif pcmp 0 x 0 then rnG call 69 F 52 ls [] L else rnG call 69 F 50 ls [] L := rfl
set_option maxRecDepth 100000 in
theorem bc33_69_10 (call : QC FA) (o1 : Option PV) (x2 : Int32) (x3 : Int32) (o4 : Option PV) (L : QH FA) (F : Nat) : rnG call 69 (F + 2) 52 [some (vR 0), o1, some (vI x2), some (vI x3), o4] [] L = rnG call 69 F 54 [some (vR 0), o1, some (vI x2), some (vI x3), some (vI 0)] [] L := rfl
set_option maxRecDepth 100000 in
theorem bc33_69_11 (call : QC FA) (o1 : Option PV) (x2 : Int32) (x3 : Int32) (o4 : Option PV) (L : QH FA) (F : Nat) : rnG call 69 (F + 1) 50 [some (vR 0), o1, some (vI x2), some (vI x3), o4] [] L = rnG call 69 F 51 [some (vR 0), o1, some (vI x2), some (vI x3), o4] [vI ((-1))] L := rfl
set_option maxRecDepth 100000 in
theorem bc33_69_12 (call : QC FA) (x : Int32) (ls : List (Option PV)) (L : QH FA) (F : Nat) : rnG call 69 (F + 1) 51 ls [vI x] L = some (some (vI x), L) := rfl
set_option maxRecDepth 100000 in
theorem bc33_69_13 (call : QC FA) (o1 : Option PV) (x2 : Int32) (x3 : Int32) (o4 : Option PV) (z : Nat → Int32) (f : Nat → FA) (F : Nat) : rnG call 69 (F + 3) 42 [some (vR 0), o1, some (vI x2), some (vI x3), o4] [] (LR z f) = rnG call 69 F 45 [some (vR 0), o1, some (vI x2), some (vI x3), o4] [vI x3, vR 40] (LR z f) := rfl
set_option maxRecDepth 100000 in
theorem bc33_69_14 (call : QC FA) (x : Int32) (ls : List (Option PV)) (z : Nat → Int32) (f : Nat → FA) (F : Nat) : rnG call 69 (F + 1) 45 ls [vI x, vR 40] (LR z f) = bif (Nat.beq 0 0 && pin x 19683) then rnG call 69 F 46 ls [vI (f 40 (ix x))] (LR z f) else none := rfl
set_option maxRecDepth 100000 in
theorem bc33_69_15 (call : QC FA) (x : Int32) (ls : List (Option PV)) (L : QH FA) (F : Nat) : rnG call 69 (F + 1) 46 ls [vI x] L = some (some (vI x), L) := rfl
theorem vcc33_69_33 (d : Nat) (o1 : Option PV) (x2 : Int32) (x3 : Int32) (o4 : Option PV) (z : Nat → Int32) (f : Nat → FA) (res : Option PV × QH FA) (H : (∃ (z1 : Nat → Int32) (f1 : Nat → FA), (mcall (d + 4)) 74 [vR 0, vI x3] (LR z f) = some (none, LR z1 f1) ∧ (∃ (z2 : Nat → Int32) (f2 : Nat → FA), (mcall (d + 4)) 71 [vR 0, vI x3, vI 3] (LR z1 f1) = some (none, LR z2 f2) ∧ ((¬ x2 = 0 → (∃ (r3 : Int32) (z3 : Nat → Int32) (f3 : Nat → FA), (mcall (d + 4)) 78 [vR 0] (LR z2 f2) = some (some (vI r3), LR z3 f3) ∧ ((r3 = 0 → RC (mcall (d + 4)) (mP 69) 54 [some (vR 0), o1, some (vI x2), some (vI x3), some (vI 0)] [] (LR z3 f3) res) ∧ (¬ r3 = 0 → res = (some (vI ((-1))), LR z3 f3))))) ∧ (x2 = 0 → (pin x3 19683 = true ∧ res = (some (vI (f2 40 (ix x3))), LR z2 f2))))))) : RC (mcall (d + 4)) (mP 69) 33 [some (vR 0), o1, some (vI x2), some (vI x3), o4] [] (LR z f) res := by
  refine rc_b (i' := 35) (ls' := [some (vR 0), o1, some (vI x2), some (vI x3), o4]) (st' := [vI x3, vR 0]) (L' := LR z f) 2 (bc33_69_1 (mcall (d + 4)) o1 x2 x3 o4 _) ?_
  obtain ⟨z1, f1, hc, H⟩ := H
  refine rc_call (t := 36) (ls' := [some (vR 0), o1, some (vI x2), some (vI x3), o4]) (st' := []) (bc33_69_2 (mcall (d + 4)) x3 _ z f) hc ?_
  show RC (mcall (d + 4)) (mP 69) 36 [some (vR 0), o1, some (vI x2), some (vI x3), o4] [] (LR z1 f1) res
  refine rc_b (i' := 39) (ls' := [some (vR 0), o1, some (vI x2), some (vI x3), o4]) (st' := [vI 3, vI x3, vR 0]) (L' := LR z1 f1) 3 (bc33_69_3 (mcall (d + 4)) o1 x2 x3 o4 _) ?_
  obtain ⟨z2, f2, hc, H⟩ := H
  refine rc_call (t := 40) (ls' := [some (vR 0), o1, some (vI x2), some (vI x3), o4]) (st' := []) (bc33_69_4 (mcall (d + 4)) x3 3 _ z1 f1) hc ?_
  show RC (mcall (d + 4)) (mP 69) 40 [some (vR 0), o1, some (vI x2), some (vI x3), o4] [] (LR z2 f2) res
  refine rc_b (i' := 41) (ls' := [some (vR 0), o1, some (vI x2), some (vI x3), o4]) (st' := [vI x2]) (L' := LR z2 f2) 1 (bc33_69_5 (mcall (d + 4)) o1 x2 x3 o4 _) ?_
  refine rc_if (it := 47) (ie := 42) (ls' := [some (vR 0), o1, some (vI x2), some (vI x3), o4]) (st' := []) (bc33_69_6 (mcall (d + 4)) x2 _ _) (fun q1 => ?_) (fun q1 => ?_)
  · have H := H.1 (cI1t q1)
    refine rc_b (i' := 48) (ls' := [some (vR 0), o1, some (vI x2), some (vI x3), o4]) (st' := [vR 0]) (L' := LR z2 f2) 1 (bc33_69_7 (mcall (d + 4)) o1 x2 x3 o4 _) ?_
    obtain ⟨r3, z3, f3, hc, H⟩ := H
    refine rc_call (t := 49) (ls' := [some (vR 0), o1, some (vI x2), some (vI x3), o4]) (st' := []) (bc33_69_8 (mcall (d + 4)) _ z2 f2) hc ?_
    show RC (mcall (d + 4)) (mP 69) 49 [some (vR 0), o1, some (vI x2), some (vI x3), o4] [vI r3] (LR z3 f3) res
    refine rc_if (it := 52) (ie := 50) (ls' := [some (vR 0), o1, some (vI x2), some (vI x3), o4]) (st' := []) (bc33_69_9 (mcall (d + 4)) r3 _ _) (fun q2 => ?_) (fun q2 => ?_)
    · have H := H.1 (cI0t q2)
      refine rc_b (i' := 54) (ls' := [some (vR 0), o1, some (vI x2), some (vI x3), some (vI 0)]) (st' := []) (L' := LR z3 f3) 2 (bc33_69_10 (mcall (d + 4)) o1 x2 x3 o4 _) ?_
      exact H
    · have H := H.2 (cI0f q2)
      refine rc_b (i' := 51) (ls' := [some (vR 0), o1, some (vI x2), some (vI x3), o4]) (st' := [vI ((-1))]) (L' := LR z3 f3) 1 (bc33_69_11 (mcall (d + 4)) o1 x2 x3 o4 _) ?_
      subst H
      exact rc_ret (bc33_69_12 (mcall (d + 4)) _ _ _)
  · have H := H.2 (cI1f q1)
    refine rc_b (i' := 45) (ls' := [some (vR 0), o1, some (vI x2), some (vI x3), o4]) (st' := [vI x3, vR 40]) (L' := LR z2 f2) 3 (bc33_69_13 (mcall (d + 4)) o1 x2 x3 o4 z2 f2) ?_
    obtain ⟨g1, H⟩ := H
    refine rc_g (i' := 46) (ls' := [some (vR 0), o1, some (vI x2), some (vI x3), o4]) (st' := [vI (f2 40 (ix x3))]) (L' := LR z2 f2) (bc33_69_14 (mcall (d + 4)) x3 _ z2 f2) (pinG g1) ?_
    subst H
    exact rc_ret (bc33_69_15 (mcall (d + 4)) _ _ _)
set_option maxRecDepth 100000 in
theorem bc54_69_1 (call : QC FA) (o1 : Option PV) (o2 : Option PV) (x3 : Int32) (x4 : Int32) (L : QH FA) (F : Nat) : rnG call 69 (F + 2) 54 [some (vR 0), o1, o2, some (vI x3), some (vI x4)] [] L = rnG call 69 F 56 [some (vR 0), o1, o2, some (vI x3), some (vI x4)] [vI 9, vI x4] L := rfl
set_option maxRecDepth 100000 in
theorem bc54_69_2 (call : QC FA) (x y : Int32) (ls : List (Option PV)) (L : QH FA) (F : Nat) : rnG call 69 (F + 1) 56 ls [vI y, vI x] L = bif pcmp 3 x y then rnG call 69 F 83 ls [] L else rnG call 69 F 57 ls [] L := rfl
set_option maxRecDepth 100000 in
theorem bc54_69_3 (call : QC FA) (o1 : Option PV) (o2 : Option PV) (x3 : Int32) (x4 : Int32) (L : QH FA) (F : Nat) : rnG call 69 (F + 1) 83 [some (vR 0), o1, o2, some (vI x3), some (vI x4)] [] L = rnG call 69 F 84 [some (vR 0), o1, o2, some (vI x3), some (vI x4)] [vI ((-1))] L := rfl
set_option maxRecDepth 100000 in
theorem bc54_69_4 (call : QC FA) (x : Int32) (ls : List (Option PV)) (L : QH FA) (F : Nat) : rnG call 69 (F + 1) 84 ls [vI x] L = some (some (vI x), L) := rfl
set_option maxRecDepth 100000 in
theorem bc54_69_5 (call : QC FA) (o1 : Option PV) (o2 : Option PV) (x3 : Int32) (x4 : Int32) (z : Nat → Int32) (f : Nat → FA) (F : Nat) : rnG call 69 (F + 3) 57 [some (vR 0), o1, o2, some (vI x3), some (vI x4)] [] (LR z f) = rnG call 69 F 60 [some (vR 0), o1, o2, some (vI x3), some (vI x4)] [vI x4, vR 41] (LR z f) := rfl
set_option maxRecDepth 100000 in
theorem bc54_69_6 (call : QC FA) (x : Int32) (ls : List (Option PV)) (z : Nat → Int32) (f : Nat → FA) (F : Nat) : rnG call 69 (F + 1) 60 ls [vI x, vR 41] (LR z f) = bif (Nat.beq 0 0 && pin x 9) then rnG call 69 F 61 ls [vI (f 41 (ix x))] (LR z f) else none := rfl
set_option maxRecDepth 100000 in
theorem bc54_69_7 (call : QC FA) (x : Int32) (ls : List (Option PV)) (L : QH FA) (F : Nat) : rnG call 69 (F + 1) 61 ls [vI x] L = bif pcmp 1 x 0 then rnG call 69 F 81 ls [] L else rnG call 69 F 62 ls [] L := rfl
set_option maxRecDepth 100000 in
theorem bc54_69_8 (call : QC FA) (o1 : Option PV) (o2 : Option PV) (x3 : Int32) (x4 : Int32) (L : QH FA) (F : Nat) : rnG call 69 (F + 1) 81 [some (vR 0), o1, o2, some (vI x3), some (vI x4)] [] L = rnG call 69 F 82 [some (vR 0), o1, o2, some (vI x3), some (vI (x4 + 1))] [] L := rfl
set_option maxRecDepth 100000 in
theorem bc54_69_9 (call : QC FA) (o1 : Option PV) (o2 : Option PV) (x3 : Int32) (x4 : Int32) (L : QH FA) (F : Nat) : rnG call 69 (F + 1) 82 [some (vR 0), o1, o2, some (vI x3), some (vI x4)] [] L = rnG call 69 F 54 [some (vR 0), o1, o2, some (vI x3), some (vI x4)] [] L := rfl
set_option maxRecDepth 100000 in
theorem bc54_69_10 (call : QC FA) (o1 : Option PV) (o2 : Option PV) (x3 : Int32) (x4 : Int32) (z : Nat → Int32) (f : Nat → FA) (F : Nat) : rnG call 69 (F + 4) 62 [some (vR 0), o1, o2, some (vI x3), some (vI x4)] [] (LR z f) = rnG call 69 F 66 [some (vR 0), o1, o2, some (vI x3), some (vI x4)] [vR 0, vI x3, vR 40] (LR z f) := rfl
set_option maxRecDepth 100000 in
theorem bc54_69_11 (call : QC FA) (s0 : Int32) (ls : List (Option PV)) (z : Nat → Int32) (f : Nat → FA) (F : Nat) : rnG call 69 (F + 1) 66 ls [vR 0, vI s0, vR 40] (LR z f) = cbd (call 76 [vR 0] (LR z f)) (fun r L' => rnG call 69 F 67 ls (r.toList ++ [vI s0, vR 40]) L') := pcY (ih := rnG call 69 F) (call := call) (a := 76) (b := 0) (v := 12) (t := 67) (x := 0) (ls := ls) (As := []) (st' := [vI s0, vR 40]) (L := LR z f) rfl rfl rfl
set_option maxRecDepth 100000 in
theorem bc54_69_12 (call : QC FA) (o1 : Option PV) (o2 : Option PV) (x3 : Int32) (x4 : Int32) (s0 : Int32) (s1 : Int32) (L : QH FA) (F : Nat) : rnG call 69 (F + 2) 67 [some (vR 0), o1, o2, some (vI x3), some (vI x4)] [vI s0, vI s1, vR 40] L = rnG call 69 F 69 [some (vR 0), o1, o2, some (vI x3), some (vI x4)] [vI x4, vR 0, vI s0, vI s1, vR 40] L := rfl
set_option maxRecDepth 100000 in
theorem bc54_69_13 (call : QC FA) (a0 : Int32) (s0 : Int32) (s1 : Int32) (ls : List (Option PV)) (z : Nat → Int32) (f : Nat → FA) (F : Nat) : rnG call 69 (F + 1) 69 ls [vI a0, vR 0, vI s0, vI s1, vR 40] (LR z f) = cbd (call 77 [vR 0, vI a0] (LR z f)) (fun r L' => rnG call 69 F 70 ls (r.toList ++ [vI s0, vI s1, vR 40]) L') := pcY (ih := rnG call 69 F) (call := call) (a := 77) (b := 1) (v := 12) (t := 70) (x := 0) (ls := ls) (As := [vI a0]) (st' := [vI s0, vI s1, vR 40]) (L := LR z f) rfl rfl rfl
set_option maxRecDepth 100000 in
theorem bc54_69_14 (call : QC FA) (o1 : Option PV) (o2 : Option PV) (x3 : Int32) (x4 : Int32) (s0 : Int32) (s1 : Int32) (s2 : Int32) (L : QH FA) (F : Nat) : rnG call 69 (F + 2) 70 [some (vR 0), o1, o2, some (vI x3), some (vI x4)] [vI s0, vI s1, vI s2, vR 40] L = rnG call 69 F 72 [some (vR 0), o1, o2, some (vI x3), some (vI x4)] [vI (s2 + (s1 * s0)), vR 40] L := rfl
set_option maxRecDepth 100000 in
theorem bc54_69_15 (call : QC FA) (x : Int32) (ls : List (Option PV)) (z : Nat → Int32) (f : Nat → FA) (F : Nat) : rnG call 69 (F + 1) 72 ls [vI x, vR 40] (LR z f) = bif (Nat.beq 0 0 && pin x 19683) then rnG call 69 F 73 ls [vI (f 40 (ix x))] (LR z f) else none := rfl
set_option maxRecDepth 100000 in
theorem bc54_69_16 (call : QC FA) (o1 : Option PV) (o2 : Option PV) (x3 : Int32) (x4 : Int32) (s0 : Int32) (z : Nat → Int32) (f : Nat → FA) (F : Nat) : rnG call 69 (F + 4) 73 [some (vR 0), o1, o2, some (vI x3), some (vI x4)] [vI s0] (LR z f) = rnG call 69 F 77 [some (vR 0), o1, o2, some (vI x3), some (vI x4)] [vI x3, vR 40, vI (-s0)] (LR z f) := rfl
set_option maxRecDepth 100000 in
theorem bc54_69_17 (call : QC FA) (x : Int32) (s0 : Int32) (ls : List (Option PV)) (z : Nat → Int32) (f : Nat → FA) (F : Nat) : rnG call 69 (F + 1) 77 ls [vI x, vR 40, vI s0] (LR z f) = bif (Nat.beq 0 0 && pin x 19683) then rnG call 69 F 78 ls [vI (f 40 (ix x)), vI s0] (LR z f) else none := rfl
set_option maxRecDepth 100000 in
theorem bc54_69_18 (call : QC FA) (x y : Int32) (ls : List (Option PV)) (L : QH FA) (F : Nat) : rnG call 69 (F + 1) 78 ls [vI y, vI x] L = bif pcmp 1 x y then rnG call 69 F 81 ls [] L else rnG call 69 F 79 ls [] L := rfl
set_option maxRecDepth 100000 in
theorem bc54_69_19 (call : QC FA) (o1 : Option PV) (o2 : Option PV) (x3 : Int32) (x4 : Int32) (L : QH FA) (F : Nat) : rnG call 69 (F + 1) 79 [some (vR 0), o1, o2, some (vI x3), some (vI x4)] [] L = rnG call 69 F 80 [some (vR 0), o1, o2, some (vI x3), some (vI x4)] [vI x4] L := rfl
set_option maxRecDepth 100000 in
theorem bc54_69_20 (call : QC FA) (x : Int32) (ls : List (Option PV)) (L : QH FA) (F : Nat) : rnG call 69 (F + 1) 80 ls [vI x] L = some (some (vI x), L) := rfl
theorem vcc54_69_54 (d : Nat) (o1 : Option PV) (o2 : Option PV) (x3 : Int32) (x4 : Int32) (z : Nat → Int32) (f : Nat → FA) (res : Option PV × QH FA) (H : ((9 ≤ I x4 → res = (some (vI ((-1))), LR z f)) ∧ (I x4 < 9 → (pin x4 9 = true ∧ ((¬ f 41 (ix x4) = 0 → RC (mcall (d + 4)) (mP 69) 54 [some (vR 0), o1, o2, some (vI x3), some (vI (x4 + 1))] [] (LR z f) res) ∧ (f 41 (ix x4) = 0 → (∃ (r1 : Int32) (z1 : Nat → Int32) (f1 : Nat → FA), (mcall (d + 4)) 76 [vR 0] (LR z f) = some (some (vI r1), LR z1 f1) ∧ (∃ (r2 : Int32) (z2 : Nat → Int32) (f2 : Nat → FA), (mcall (d + 4)) 77 [vR 0, vI x4] (LR z1 f1) = some (some (vI r2), LR z2 f2) ∧ (pin (x3 + (r1 * r2)) 19683 = true ∧ (pin x3 19683 = true ∧ ((¬ -(f2 40 (ix (x3 + (r1 * r2)))) = f2 40 (ix x3) → RC (mcall (d + 4)) (mP 69) 54 [some (vR 0), o1, o2, some (vI x3), some (vI (x4 + 1))] [] (LR z2 f2) res) ∧ (-(f2 40 (ix (x3 + (r1 * r2)))) = f2 40 (ix x3) → res = (some (vI x4), LR z2 f2))))))))))))) : RC (mcall (d + 4)) (mP 69) 54 [some (vR 0), o1, o2, some (vI x3), some (vI x4)] [] (LR z f) res := by
  refine rc_b (i' := 56) (ls' := [some (vR 0), o1, o2, some (vI x3), some (vI x4)]) (st' := [vI 9, vI x4]) (L' := LR z f) 2 (bc54_69_1 (mcall (d + 4)) o1 o2 x3 x4 _) ?_
  refine rc_if (it := 83) (ie := 57) (ls' := [some (vR 0), o1, o2, some (vI x3), some (vI x4)]) (st' := []) (bc54_69_2 (mcall (d + 4)) x4 9 _ _) (fun q1 => ?_) (fun q1 => ?_)
  · have H := H.1 (cI3t q1 rfl rfl)
    refine rc_b (i' := 84) (ls' := [some (vR 0), o1, o2, some (vI x3), some (vI x4)]) (st' := [vI ((-1))]) (L' := LR z f) 1 (bc54_69_3 (mcall (d + 4)) o1 o2 x3 x4 _) ?_
    subst H
    exact rc_ret (bc54_69_4 (mcall (d + 4)) _ _ _)
  · have H := H.2 (cI3f q1 rfl rfl)
    refine rc_b (i' := 60) (ls' := [some (vR 0), o1, o2, some (vI x3), some (vI x4)]) (st' := [vI x4, vR 41]) (L' := LR z f) 3 (bc54_69_5 (mcall (d + 4)) o1 o2 x3 x4 z f) ?_
    obtain ⟨g1, H⟩ := H
    refine rc_g (i' := 61) (ls' := [some (vR 0), o1, o2, some (vI x3), some (vI x4)]) (st' := [vI (f 41 (ix x4))]) (L' := LR z f) (bc54_69_6 (mcall (d + 4)) x4 _ z f) (pinG g1) ?_
    refine rc_if (it := 81) (ie := 62) (ls' := [some (vR 0), o1, o2, some (vI x3), some (vI x4)]) (st' := []) (bc54_69_7 (mcall (d + 4)) (f 41 (ix x4)) _ _) (fun q2 => ?_) (fun q2 => ?_)
    · have H := H.1 (cI1t q2)
      refine rc_b (i' := 82) (ls' := [some (vR 0), o1, o2, some (vI x3), some (vI (x4 + 1))]) (st' := []) (L' := LR z f) 1 (bc54_69_8 (mcall (d + 4)) o1 o2 x3 x4 _) ?_
      refine rc_b (i' := 54) (ls' := [some (vR 0), o1, o2, some (vI x3), some (vI (x4 + 1))]) (st' := []) (L' := LR z f) 1 (bc54_69_9 (mcall (d + 4)) o1 o2 x3 (x4 + 1) _) ?_
      exact H
    · have H := H.2 (cI1f q2)
      refine rc_b (i' := 66) (ls' := [some (vR 0), o1, o2, some (vI x3), some (vI x4)]) (st' := [vR 0, vI x3, vR 40]) (L' := LR z f) 4 (bc54_69_10 (mcall (d + 4)) o1 o2 x3 x4 z f) ?_
      obtain ⟨r1, z1, f1, hc, H⟩ := H
      refine rc_call (t := 67) (ls' := [some (vR 0), o1, o2, some (vI x3), some (vI x4)]) (st' := [vI x3, vR 40]) (bc54_69_11 (mcall (d + 4)) x3 _ z f) hc ?_
      show RC (mcall (d + 4)) (mP 69) 67 [some (vR 0), o1, o2, some (vI x3), some (vI x4)] [vI r1, vI x3, vR 40] (LR z1 f1) res
      refine rc_b (i' := 69) (ls' := [some (vR 0), o1, o2, some (vI x3), some (vI x4)]) (st' := [vI x4, vR 0, vI r1, vI x3, vR 40]) (L' := LR z1 f1) 2 (bc54_69_12 (mcall (d + 4)) o1 o2 x3 x4 r1 x3 _) ?_
      obtain ⟨r2, z2, f2, hc, H⟩ := H
      refine rc_call (t := 70) (ls' := [some (vR 0), o1, o2, some (vI x3), some (vI x4)]) (st' := [vI r1, vI x3, vR 40]) (bc54_69_13 (mcall (d + 4)) x4 r1 x3 _ z1 f1) hc ?_
      show RC (mcall (d + 4)) (mP 69) 70 [some (vR 0), o1, o2, some (vI x3), some (vI x4)] [vI r2, vI r1, vI x3, vR 40] (LR z2 f2) res
      refine rc_b (i' := 72) (ls' := [some (vR 0), o1, o2, some (vI x3), some (vI x4)]) (st' := [vI (x3 + (r1 * r2)), vR 40]) (L' := LR z2 f2) 2 (bc54_69_14 (mcall (d + 4)) o1 o2 x3 x4 r2 r1 x3 _) ?_
      obtain ⟨g1, H⟩ := H
      refine rc_g (i' := 73) (ls' := [some (vR 0), o1, o2, some (vI x3), some (vI x4)]) (st' := [vI (f2 40 (ix (x3 + (r1 * r2))))]) (L' := LR z2 f2) (bc54_69_15 (mcall (d + 4)) (x3 + (r1 * r2)) _ z2 f2) (pinG g1) ?_
      refine rc_b (i' := 77) (ls' := [some (vR 0), o1, o2, some (vI x3), some (vI x4)]) (st' := [vI x3, vR 40, vI (-(f2 40 (ix (x3 + (r1 * r2)))))]) (L' := LR z2 f2) 4 (bc54_69_16 (mcall (d + 4)) o1 o2 x3 x4 (f2 40 (ix (x3 + (r1 * r2)))) z2 f2) ?_
      obtain ⟨g1, H⟩ := H
      refine rc_g (i' := 78) (ls' := [some (vR 0), o1, o2, some (vI x3), some (vI x4)]) (st' := [vI (f2 40 (ix x3)), vI (-(f2 40 (ix (x3 + (r1 * r2)))))]) (L' := LR z2 f2) (bc54_69_17 (mcall (d + 4)) x3 (-(f2 40 (ix (x3 + (r1 * r2))))) _ z2 f2) (pinG g1) ?_
      refine rc_if (it := 81) (ie := 79) (ls' := [some (vR 0), o1, o2, some (vI x3), some (vI x4)]) (st' := []) (bc54_69_18 (mcall (d + 4)) (-(f2 40 (ix (x3 + (r1 * r2))))) (f2 40 (ix x3)) _ _) (fun q3 => ?_) (fun q3 => ?_)
      · have H := H.1 (cI1t q3)
        refine rc_b (i' := 82) (ls' := [some (vR 0), o1, o2, some (vI x3), some (vI (x4 + 1))]) (st' := []) (L' := LR z2 f2) 1 (bc54_69_8 (mcall (d + 4)) o1 o2 x3 x4 _) ?_
        refine rc_b (i' := 54) (ls' := [some (vR 0), o1, o2, some (vI x3), some (vI (x4 + 1))]) (st' := []) (L' := LR z2 f2) 1 (bc54_69_9 (mcall (d + 4)) o1 o2 x3 (x4 + 1) _) ?_
        exact H
      · have H := H.2 (cI1f q3)
        refine rc_b (i' := 80) (ls' := [some (vR 0), o1, o2, some (vI x3), some (vI x4)]) (st' := [vI x4]) (L' := LR z2 f2) 1 (bc54_69_19 (mcall (d + 4)) o1 o2 x3 x4 _) ?_
        subst H
        exact rc_ret (bc54_69_20 (mcall (d + 4)) _ _ _)
theorem gm54 (d0 c : Nat) (hc : c < 19683) (o1 o2 : Option PV) (z : Nat → Int32) (f : Nat → FA) (hf : ∀ i, i < 9 → f 41 i = nI (dgt c 3 i)) : ∀ t k, k + t = 9 → ∃ r, RC (mcall (d0 + 4)) (mP 69) 54 [some (vR 0), o1, o2, some (vI (nI c)), some (vI (nI k))] [] (LR z f) (some (vI r), LR z f) := by
  intro t
  induction t with
  | zero =>
    intro k hk
    obtain rfl : k = 9 := by omega
    exact ⟨-1, vcc54_69_54 _ _ _ _ _ _ _ _ ⟨fun _ => rfl, fun q => absurd q (by decide)⟩⟩
  | succ t ih =>
    intro k hk
    have hlt : dgt c 3 k < 2147483648 := Nat.lt_of_lt_of_le (Nat.mod_lt _ (by decide)) (by decide)
    have go : ∀ res, _ → RC (mcall (d0 + 4)) (mP 69) 54 [some (vR 0), o1, o2, some (vI (nI c)), some (vI (nI k))] [] (LR z f) res := fun res H => vcc54_69_54 d0 o1 o2 (nI c) (nI k) z f res H
    rw [I_nI (by omega), ix_nI (j := k) (by omega), hf k (by omega), show nI k + 1 = nI (k + 1) from nI_add _ 1] at go
    obtain ⟨r, hr⟩ := ih (k + 1) (by omega)
    by_cases c1 : nI (dgt c 3 k) = 0
    · obtain ⟨w, hw, h1⟩ := nextUp_r (d0 + 3) z f
      have hrm := room c k w hc (by omega) ((nI_z0 hlt).mp c1) hw
      have e1 : nI c + nI w * nI (3 ^ (8 - k)) = nI (c + w * 3 ^ (8 - k)) := by rw [nmul (x := nI w) (y := nI (3 ^ (8 - k))) (a := w) (b := 3 ^ (8 - k)) rfl rfl]; exact nI_add _ _
      have p1 : pin (nI c + nI w * nI (3 ^ (8 - k))) 19683 = true := by rw [e1]; exact pin_nI hrm (by omega)
      have p2 : pin (nI c) 19683 = true := pin_nI hc (by omega)
      by_cases c2 : -(f 40 (ix (nI c + nI w * nI (3 ^ (8 - k))))) = f 40 (ix (nI c))
      · exact ⟨nI k, go _ ⟨fun q => by omega, fun _ => ⟨pin_nI (by omega) (by omega), fun q => absurd c1 q, fun _ => ⟨_, z, f, h1, _, z, f, powerOf_r (d0 + 3) k (by omega) z f, p1, p2, fun q => absurd c2 q, fun _ => rfl⟩⟩⟩⟩
      · exact ⟨r, go _ ⟨fun q => by omega, fun _ => ⟨pin_nI (by omega) (by omega), fun q => absurd c1 q, fun _ => ⟨_, z, f, h1, _, z, f, powerOf_r (d0 + 3) k (by omega) z f, p1, p2, fun _ => hr, fun q => absurd q c2⟩⟩⟩⟩
    · exact ⟨r, go _ ⟨fun q => by omega, fun _ => ⟨pin_nI (by omega) (by omega), fun _ => hr, fun q => absurd q c1⟩⟩⟩
theorem gm33 (d0 c : Nat) (hc : c < 19683) (o1 o4 : Option PV) (x2 : Int32) (z : Nat → Int32) (f : Nat → FA) : ∃ r z' f', RC (mcall (d0 + 4)) (mP 69) 33 [some (vR 0), o1, some (vI x2), some (vI (nI c)), o4] [] (LR z f) (some (vI r), LR z' f') ∧ GMf z f z' f' := by
  obtain ⟨z1, f1, h1, h2⟩ := findsWorth_r d0 c hc z f
  obtain ⟨z2, g, h3, h4, h5⟩ := takesNine_r (d0 + 3) c 3 (by omega) (Or.inl rfl) z1 f1
  have G2 := h2.trans (GMf.n (g := g) h4)
  by_cases c1 : x2 = 0
  · exact ⟨_, z2, _, vcc33_69_33 _ _ _ _ _ _ _ _ ⟨z1, f1, h1, z2, _, h3, fun q => absurd c1 q, fun _ => ⟨pin_nI hc (by omega), rfl⟩⟩, G2⟩
  · obtain ⟨r3, h6⟩ := isOver_r (d0 + 1) z2 (uA f1 41 g)
    by_cases c2 : r3 = 0
    · obtain ⟨r, hr⟩ := gm54 d0 c hc o1 (some (vI x2)) z2 (uA f1 41 g) (fun i hi => by rw [uA_self]; exact h5 i hi) 9 0 (by omega)
      exact ⟨r, z2, _, vcc33_69_33 _ _ _ _ _ _ _ _ ⟨z1, f1, h1, z2, _, h3, fun _ => ⟨r3, z2, _, h6, fun _ => hr, fun q => absurd c2 q⟩, fun q => absurd q c1⟩, G2⟩
    · exact ⟨-1, z2, _, vcc33_69_33 _ _ _ _ _ _ _ _ ⟨z1, f1, h1, z2, _, h3, fun _ => ⟨r3, z2, _, h6, fun q => absurd q c2, fun _ => rfl⟩, fun q => absurd q c1⟩, G2⟩
theorem gm19 (d0 : Nat) (o1 : Option PV) (x2 : Int32) (z : Nat → Int32) (f : Nat → FA) (hf : ∀ i, i < 9 → ∃ e, f 41 i = nI e ∧ e ≤ 2) : ∀ t k, k + t = 9 → ∀ c, c < 3 ^ k → ∃ r z' f', RC (mcall (d0 + 4)) (mP 69) 19 [some (vR 0), o1, some (vI x2), some (vI (nI c)), some (vI (nI k))] [] (LR z f) (some (vI r), LR z' f') ∧ GMf z f z' f' := by
  intro t
  induction t with
  | zero =>
    intro k hk c hc
    obtain rfl : k = 9 := by omega
    obtain ⟨r, z', f', v1, v2⟩ := gm33 d0 c hc o1 (some (vI (nI 9))) x2 z f
    exact ⟨r, z', f', vcc19_69_19 _ _ _ _ _ _ _ _ ⟨fun _ => v1, fun q => absurd q (by decide)⟩, v2⟩
  | succ t ih =>
    intro k hk c hc
    obtain ⟨e, e1, e2⟩ := hf k (by omega)
    have hc2 : 3 * c + e < 3 ^ (k + 1) := by rw [Nat.pow_succ]; omega
    obtain ⟨r, z', f', v1, v2⟩ := ih (k + 1) (by omega) (3 * c + e) hc2
    have go : ∀ res, _ → RC (mcall (d0 + 4)) (mP 69) 19 [some (vR 0), o1, some (vI x2), some (vI (nI c)), some (vI (nI k))] [] (LR z f) res := fun res H => vcc19_69_19 d0 o1 x2 (nI c) (nI k) z f res H
    rw [I_nI (by omega), ix_nI (j := k) (by omega), e1, nmul (x := 3) (y := nI c) (a := 3) (b := c) rfl rfl, show nI (3 * c) + nI e = nI (3 * c + e) from nI_add _ _, show nI k + 1 = nI (k + 1) from nI_add _ 1] at go
    exact ⟨r, z', f', go _ ⟨fun q => by omega, fun _ => ⟨pin_nI (by omega) (by omega), v1⟩⟩, v2⟩
theorem game_r (d0 : Nat) (x y : Int32) (z : Nat → Int32) (f : Nat → FA) : ∃ r z' f', mcall (d0 + 5) 69 [vR 0, vI x, vI y] (LR z f) = some (some (vI r), LR z' f') ∧ GMf (uZ z 0 0) f z' f' := by
  have go : ∀ res, _ → mcall (d0 + 5) 69 [vR 0, vI x, vI y] (LR z f) = some res := fun res H => mcall_i (mq69 (cu := [])).2.2 rfl (vc69_0 d0 x y none none z f res H)
  by_cases c : 0 ≤ I y ∧ I y ≤ 1
  · obtain ⟨r, z1, f1, h1, h2, h3⟩ := isGame_r (d0 + 1) x (uZ z 0 0) f
    by_cases c1 : r = 0
    · exact ⟨-10, z1, f1, go _ ⟨fun _ => ⟨r, z1, f1, h1, fun q => absurd c1 q, fun _ => rfl⟩, fun q => absurd c q⟩, h2⟩
    · obtain ⟨r2, z', f', v1, v2⟩ := gm19 d0 (some (vI x)) y z1 f1 (h3.resolve_left c1) 9 0 (by omega) 0 (by decide)
      exact ⟨r2, z', f', go _ ⟨fun _ => ⟨r, z1, f1, h1, fun _ => v1, fun q => absurd q c1⟩, fun q => absurd c q⟩, h2.trans v2⟩
  · exact ⟨-10, _, f, go _ ⟨fun q => absurd q c, fun _ => rfl⟩, GMf.refl⟩
