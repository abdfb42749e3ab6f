/-! words and reads -/
set_option maxRecDepth 100000 in
theorem b288_1 (call : QC FA) (x1 : Int32) (x2 : Int32) (o3 : Option PV) (o4 : Option PV) (o5 : Option PV) (L : QH FA) (F : Nat) : rnG call 288 (F + 4) 0 [some (vR 0), some (vI x1), some (vI x2), o3, o4, o5] [] L = rnG call 288 F 4 [some (vR 0), some (vI x1), some (vI x2), some (vI ((-1))), some (vI 0), o5] [] L := rfl
theorem vc288_0 (call : QC FA) (x1 : Int32) (x2 : Int32) (o3 : Option PV) (o4 : Option PV) (o5 : Option PV) (z : Nat → Int32) (f : Nat → FA) (res : Option PV × QH FA) (H : RC call (mP 288) 4 [some (vR 0), some (vI x1), some (vI x2), some (vI ((-1))), some (vI 0), o5] [] (LR z f) res) : RC call (mP 288) 0 [some (vR 0), some (vI x1), some (vI x2), o3, o4, o5] [] (LR z f) res := by
  refine rc_b (i' := 4) (ls' := [some (vR 0), some (vI x1), some (vI x2), some (vI ((-1))), some (vI 0), o5]) (st' := []) (L' := LR z f) 4 (b288_1 call x1 x2 o3 o4 o5 _) ?_
  exact H
set_option maxRecDepth 100000 in
theorem bc4_288_1 (call : QC FA) (x1 : Int32) (x2 : Int32) (x3 : Int32) (x4 : Int32) (o5 : Option PV) (L : QH FA) (F : Nat) : rnG call 288 (F + 2) 4 [some (vR 0), some (vI x1), some (vI x2), some (vI x3), some (vI x4), o5] [] L = rnG call 288 F 6 [some (vR 0), some (vI x1), some (vI x2), some (vI x3), some (vI x4), o5] [vI 132, vI x4] L := rfl
set_option maxRecDepth 100000 in
theorem bc4_288_2 (call : QC FA) (x y : Int32) (ls : List (Option PV)) (L : QH FA) (F : Nat) : rnG call 288 (F + 1) 6 ls [vI y, vI x] L = bif pcmp 3 x y then rnG call 288 F 71 ls [] L else rnG call 288 F 7 ls [] L := rfl
set_option maxRecDepth 100000 in
theorem bc4_288_3 (call : QC FA) (x1 : Int32) (x2 : Int32) (x3 : Int32) (x4 : Int32) (o5 : Option PV) (L : QH FA) (F : Nat) : rnG call 288 (F + 1) 71 [some (vR 0), some (vI x1), some (vI x2), some (vI x3), some (vI x4), o5] [] L = rnG call 288 F 72 [some (vR 0), some (vI x1), some (vI x2), some (vI x3), some (vI x4), o5] [vI ((-1))] L := rfl
set_option maxRecDepth 100000 in
theorem bc4_288_4 (call : QC FA) (x : Int32) (ls : List (Option PV)) (L : QH FA) (F : Nat) : rnG call 288 (F + 1) 72 ls [vI x] L = some (some (vI x), L) := rfl
set_option maxRecDepth 100000 in
theorem bc4_288_5 (call : QC FA) (x1 : Int32) (x2 : Int32) (x3 : Int32) (x4 : Int32) (o5 : Option PV) (L : QH FA) (F : Nat) : rnG call 288 (F + 6) 7 [some (vR 0), some (vI x1), some (vI x2), some (vI x3), some (vI x4), o5] [] L = rnG call 288 F 13 [some (vR 0), some (vI x1), some (vI x2), some (vI (x3 + 1)), some (vI x4), some (vI 0)] [] L := rfl
theorem vcc4_288_4 (call : QC FA) (x1 : Int32) (x2 : Int32) (x3 : Int32) (x4 : Int32) (o5 : Option PV) (z : Nat → Int32) (f : Nat → FA) (res : Option PV × QH FA) (H : ((132 ≤ I x4 → res = (some (vI ((-1))), LR z f)) ∧ (I x4 < 132 → RC call (mP 288) 13 [some (vR 0), some (vI x1), some (vI x2), some (vI (x3 + 1)), some (vI x4), some (vI 0)] [] (LR z f) res))) : RC call (mP 288) 4 [some (vR 0), some (vI x1), some (vI x2), some (vI x3), some (vI x4), o5] [] (LR z f) res := by
  refine rc_b (i' := 6) (ls' := [some (vR 0), some (vI x1), some (vI x2), some (vI x3), some (vI x4), o5]) (st' := [vI 132, vI x4]) (L' := LR z f) 2 (bc4_288_1 call x1 x2 x3 x4 o5 _) ?_
  refine rc_if (it := 71) (ie := 7) (ls' := [some (vR 0), some (vI x1), some (vI x2), some (vI x3), some (vI x4), o5]) (st' := []) (bc4_288_2 call x4 132 _ _) (fun q1 => ?_) (fun q1 => ?_)
  · have H := H.1 (cI3t q1 rfl rfl)
    refine rc_b (i' := 72) (ls' := [some (vR 0), some (vI x1), some (vI x2), some (vI x3), some (vI x4), o5]) (st' := [vI ((-1))]) (L' := LR z f) 1 (bc4_288_3 call x1 x2 x3 x4 o5 _) ?_
    subst H
    exact rc_ret (bc4_288_4 call _ _ _)
  · have H := H.2 (cI3f q1 rfl rfl)
    refine rc_b (i' := 13) (ls' := [some (vR 0), some (vI x1), some (vI x2), some (vI (x3 + 1)), some (vI x4), some (vI 0)]) (st' := []) (L' := LR z f) 6 (bc4_288_5 call x1 x2 x3 x4 o5 _) ?_
    exact H
set_option maxRecDepth 100000 in
theorem bc13_288_1 (call : QC FA) (x1 : Int32) (x2 : Int32) (x3 : Int32) (x4 : Int32) (x5 : Int32) (L : QH FA) (F : Nat) : rnG call 288 (F + 4) 13 [some (vR 0), some (vI x1), some (vI x2), some (vI x3), some (vI x4), some (vI x5)] [] L = rnG call 288 F 17 [some (vR 0), some (vI x1), some (vI x2), some (vI x3), some (vI x4), some (vI x5)] [vI x2, vI (x1 + x5)] L := rfl
set_option maxRecDepth 100000 in
theorem bc13_288_2 (call : QC FA) (x y : Int32) (ls : List (Option PV)) (L : QH FA) (F : Nat) : rnG call 288 (F + 1) 17 ls [vI y, vI x] L = bif pcmp 3 x y then rnG call 288 F 38 ls [] L else rnG call 288 F 18 ls [] L := rfl
set_option maxRecDepth 100000 in
theorem bc13_288_3 (call : QC FA) (x1 : Int32) (x2 : Int32) (x3 : Int32) (x4 : Int32) (x5 : Int32) (L : QH FA) (F : Nat) : rnG call 288 (F + 4) 38 [some (vR 0), some (vI x1), some (vI x2), some (vI x3), some (vI x4), some (vI x5)] [] L = rnG call 288 F 42 [some (vR 0), some (vI x1), some (vI x2), some (vI x3), some (vI x4), some (vI x5)] [vI x2, vI (x1 + x5)] L := rfl
set_option maxRecDepth 100000 in
theorem bc13_288_4 (call : QC FA) (x y : Int32) (ls : List (Option PV)) (L : QH FA) (F : Nat) : rnG call 288 (F + 1) 42 ls [vI y, vI x] L = bif pcmp 1 x y then rnG call 288 F 55 ls [] L else rnG call 288 F 43 ls [] L := rfl
set_option maxRecDepth 100000 in
theorem bc13_288_5 (call : QC FA) (x1 : Int32) (x2 : Int32) (x3 : Int32) (x4 : Int32) (x5 : Int32) (L : QH FA) (F : Nat) : rnG call 288 (F + 4) 55 [some (vR 0), some (vI x1), some (vI x2), some (vI x3), some (vI x4), some (vI x5)] [] L = rnG call 288 F 59 [some (vR 0), some (vI x1), some (vI x2), some (vI x3), some (vI (x4 + 1)), some (vI x5)] [] L := rfl
set_option maxRecDepth 100000 in
theorem bc13_288_6 (call : QC FA) (x1 : Int32) (x2 : Int32) (x3 : Int32) (x4 : Int32) (x5 : Int32) (z : Nat → Int32) (f : Nat → FA) (F : Nat) : rnG call 288 (F + 7) 43 [some (vR 0), some (vI x1), some (vI x2), some (vI x3), some (vI x4), some (vI x5)] [] (LR z f) = rnG call 288 F 50 [some (vR 0), some (vI x1), some (vI x2), some (vI x3), some (vI x4), some (vI x5)] [vI ((x4 + 1) + x5), vR 9] (LR z f) := rfl
set_option maxRecDepth 100000 in
theorem bc13_288_7 (call : QC FA) (x : Int32) (ls : List (Option PV)) (z : Nat → Int32) (f : Nat → FA) (F : Nat) : rnG call 288 (F + 1) 50 ls [vI x, vR 9] (LR z f) = bif (Nat.beq 0 0 && pin x 133) then rnG call 288 F 51 ls [vI (f 9 (ix x))] (LR z f) else none := rfl
set_option maxRecDepth 100000 in
theorem bc13_288_8 (call : QC FA) (x1 : Int32) (x2 : Int32) (x3 : Int32) (x4 : Int32) (x5 : Int32) (s0 : Int32) (L : QH FA) (F : Nat) : rnG call 288 (F + 1) 51 [some (vR 0), some (vI x1), some (vI x2), some (vI x3), some (vI x4), some (vI x5)] [vI s0] L = rnG call 288 F 52 [some (vR 0), some (vI x1), some (vI x2), some (vI x3), some (vI x4), some (vI x5)] [vI 32, vI s0] L := rfl
set_option maxRecDepth 100000 in
theorem bc13_288_9 (call : QC FA) (x y : Int32) (ls : List (Option PV)) (L : QH FA) (F : Nat) : rnG call 288 (F + 1) 52 ls [vI y, vI x] L = bif pcmp 1 x y then rnG call 288 F 55 ls [] L else rnG call 288 F 53 ls [] L := rfl
set_option maxRecDepth 100000 in
theorem bc13_288_10 (call : QC FA) (x1 : Int32) (x2 : Int32) (x3 : Int32) (x4 : Int32) (x5 : Int32) (L : QH FA) (F : Nat) : rnG call 288 (F + 1) 53 [some (vR 0), some (vI x1), some (vI x2), some (vI x3), some (vI x4), some (vI x5)] [] L = rnG call 288 F 54 [some (vR 0), some (vI x1), some (vI x2), some (vI x3), some (vI x4), some (vI x5)] [vI x3] L := rfl
set_option maxRecDepth 100000 in
theorem bc13_288_11 (call : QC FA) (x : Int32) (ls : List (Option PV)) (L : QH FA) (F : Nat) : rnG call 288 (F + 1) 54 ls [vI x] L = some (some (vI x), L) := rfl
set_option maxRecDepth 100000 in
theorem bc13_288_12 (call : QC FA) (x1 : Int32) (x2 : Int32) (x3 : Int32) (x4 : Int32) (x5 : Int32) (z : Nat → Int32) (f : Nat → FA) (F : Nat) : rnG call 288 (F + 7) 18 [some (vR 0), some (vI x1), some (vI x2), some (vI x3), some (vI x4), some (vI x5)] [] (LR z f) = rnG call 288 F 25 [some (vR 0), some (vI x1), some (vI x2), some (vI x3), some (vI x4), some (vI x5)] [vI ((x4 + 1) + x5), vR 9] (LR z f) := rfl
set_option maxRecDepth 100000 in
theorem bc13_288_13 (call : QC FA) (x : Int32) (ls : List (Option PV)) (z : Nat → Int32) (f : Nat → FA) (F : Nat) : rnG call 288 (F + 1) 25 ls [vI x, vR 9] (LR z f) = bif (Nat.beq 0 0 && pin x 133) then rnG call 288 F 26 ls [vI (f 9 (ix x))] (LR z f) else none := rfl
set_option maxRecDepth 100000 in
theorem bc13_288_14 (call : QC FA) (x1 : Int32) (x2 : Int32) (x3 : Int32) (x4 : Int32) (x5 : Int32) (s0 : Int32) (z : Nat → Int32) (f : Nat → FA) (F : Nat) : rnG call 288 (F + 5) 26 [some (vR 0), some (vI x1), some (vI x2), some (vI x3), some (vI x4), some (vI x5)] [vI s0] (LR z f) = rnG call 288 F 31 [some (vR 0), some (vI x1), some (vI x2), some (vI x3), some (vI x4), some (vI x5)] [vI (x1 + x5), vR 8, vI s0] (LR z f) := rfl
set_option maxRecDepth 100000 in
theorem bc13_288_15 (call : QC FA) (x : Int32) (s0 : Int32) (ls : List (Option PV)) (z : Nat → Int32) (f : Nat → FA) (F : Nat) : rnG call 288 (F + 1) 31 ls [vI x, vR 8, vI s0] (LR z f) = bif (Nat.beq 0 0 && pin x 400) then rnG call 288 F 32 ls [vI (f 8 (ix x)), vI s0] (LR z f) else none := rfl
set_option maxRecDepth 100000 in
theorem bc13_288_16 (call : QC FA) (x y : Int32) (ls : List (Option PV)) (L : QH FA) (F : Nat) : rnG call 288 (F + 1) 32 ls [vI y, vI x] L = bif pcmp 1 x y then rnG call 288 F 38 ls [] L else rnG call 288 F 33 ls [] L := rfl
set_option maxRecDepth 100000 in
theorem bc13_288_17 (call : QC FA) (x1 : Int32) (x2 : Int32) (x3 : Int32) (x4 : Int32) (x5 : Int32) (L : QH FA) (F : Nat) : rnG call 288 (F + 5) 33 [some (vR 0), some (vI x1), some (vI x2), some (vI x3), some (vI x4), some (vI x5)] [] L = rnG call 288 F 13 [some (vR 0), some (vI x1), some (vI x2), some (vI x3), some (vI x4), some (vI (x5 + 1))] [] L := rfl
theorem vcc13_288_13 (call : QC FA) (x1 : Int32) (x2 : Int32) (x3 : Int32) (x4 : Int32) (x5 : Int32) (z : Nat → Int32) (f : Nat → FA) (res : Option PV × QH FA) (H : ((I x2 ≤ I (x1 + x5) → ((¬ x1 + x5 = x2 → RC call (mP 288) 59 [some (vR 0), some (vI x1), some (vI x2), some (vI x3), some (vI (x4 + 1)), some (vI x5)] [] (LR z f) res) ∧ (x1 + x5 = x2 → (pin ((x4 + 1) + x5) 133 = true ∧ ((¬ f 9 (ix ((x4 + 1) + x5)) = 32 → RC call (mP 288) 59 [some (vR 0), some (vI x1), some (vI x2), some (vI x3), some (vI (x4 + 1)), some (vI x5)] [] (LR z f) res) ∧ (f 9 (ix ((x4 + 1) + x5)) = 32 → res = (some (vI x3), LR z f))))))) ∧ (I (x1 + x5) < I x2 → (pin ((x4 + 1) + x5) 133 = true ∧ (pin (x1 + x5) 400 = true ∧ ((¬ f 9 (ix ((x4 + 1) + x5)) = f 8 (ix (x1 + x5)) → ((¬ x1 + x5 = x2 → RC call (mP 288) 59 [some (vR 0), some (vI x1), some (vI x2), some (vI x3), some (vI (x4 + 1)), some (vI x5)] [] (LR z f) res) ∧ (x1 + x5 = x2 → (pin ((x4 + 1) + x5) 133 = true ∧ ((¬ f 9 (ix ((x4 + 1) + x5)) = 32 → RC call (mP 288) 59 [some (vR 0), some (vI x1), some (vI x2), some (vI x3), some (vI (x4 + 1)), some (vI x5)] [] (LR z f) res) ∧ (f 9 (ix ((x4 + 1) + x5)) = 32 → res = (some (vI x3), LR z f))))))) ∧ (f 9 (ix ((x4 + 1) + x5)) = f 8 (ix (x1 + x5)) → RC call (mP 288) 13 [some (vR 0), some (vI x1), some (vI x2), some (vI x3), some (vI x4), some (vI (x5 + 1))] [] (LR z f) res))))))) : RC call (mP 288) 13 [some (vR 0), some (vI x1), some (vI x2), some (vI x3), some (vI x4), some (vI x5)] [] (LR z f) res := by
  refine rc_b (i' := 17) (ls' := [some (vR 0), some (vI x1), some (vI x2), some (vI x3), some (vI x4), some (vI x5)]) (st' := [vI x2, vI (x1 + x5)]) (L' := LR z f) 4 (bc13_288_1 call x1 x2 x3 x4 x5 _) ?_
  refine rc_if (it := 38) (ie := 18) (ls' := [some (vR 0), some (vI x1), some (vI x2), some (vI x3), some (vI x4), some (vI x5)]) (st' := []) (bc13_288_2 call (x1 + x5) x2 _ _) (fun q1 => ?_) (fun q1 => ?_)
  · have H := H.1 (cI3t q1 rfl rfl)
    refine rc_b (i' := 42) (ls' := [some (vR 0), some (vI x1), some (vI x2), some (vI x3), some (vI x4), some (vI x5)]) (st' := [vI x2, vI (x1 + x5)]) (L' := LR z f) 4 (bc13_288_3 call x1 x2 x3 x4 x5 _) ?_
    refine rc_if (it := 55) (ie := 43) (ls' := [some (vR 0), some (vI x1), some (vI x2), some (vI x3), some (vI x4), some (vI x5)]) (st' := []) (bc13_288_4 call (x1 + x5) x2 _ _) (fun q2 => ?_) (fun q2 => ?_)
    · have H := H.1 (cI1t q2)
      refine rc_b (i' := 59) (ls' := [some (vR 0), some (vI x1), some (vI x2), some (vI x3), some (vI (x4 + 1)), some (vI x5)]) (st' := []) (L' := LR z f) 4 (bc13_288_5 call x1 x2 x3 x4 x5 _) ?_
      exact H
    · have H := H.2 (cI1f q2)
      refine rc_b (i' := 50) (ls' := [some (vR 0), some (vI x1), some (vI x2), some (vI x3), some (vI x4), some (vI x5)]) (st' := [vI ((x4 + 1) + x5), vR 9]) (L' := LR z f) 7 (bc13_288_6 call x1 x2 x3 x4 x5 z f) ?_
      obtain ⟨g1, H⟩ := H
      refine rc_g (i' := 51) (ls' := [some (vR 0), some (vI x1), some (vI x2), some (vI x3), some (vI x4), some (vI x5)]) (st' := [vI (f 9 (ix ((x4 + 1) + x5)))]) (L' := LR z f) (bc13_288_7 call ((x4 + 1) + x5) _ z f) (pinG g1) ?_
      refine rc_b (i' := 52) (ls' := [some (vR 0), some (vI x1), some (vI x2), some (vI x3), some (vI x4), some (vI x5)]) (st' := [vI 32, vI (f 9 (ix ((x4 + 1) + x5)))]) (L' := LR z f) 1 (bc13_288_8 call x1 x2 x3 x4 x5 (f 9 (ix ((x4 + 1) + x5))) _) ?_
      refine rc_if (it := 55) (ie := 53) (ls' := [some (vR 0), some (vI x1), some (vI x2), some (vI x3), some (vI x4), some (vI x5)]) (st' := []) (bc13_288_9 call (f 9 (ix ((x4 + 1) + x5))) 32 _ _) (fun q3 => ?_) (fun q3 => ?_)
      · have H := H.1 (cI1t q3)
        refine rc_b (i' := 59) (ls' := [some (vR 0), some (vI x1), some (vI x2), some (vI x3), some (vI (x4 + 1)), some (vI x5)]) (st' := []) (L' := LR z f) 4 (bc13_288_5 call x1 x2 x3 x4 x5 _) ?_
        exact H
      · have H := H.2 (cI1f q3)
        refine rc_b (i' := 54) (ls' := [some (vR 0), some (vI x1), some (vI x2), some (vI x3), some (vI x4), some (vI x5)]) (st' := [vI x3]) (L' := LR z f) 1 (bc13_288_10 call x1 x2 x3 x4 x5 _) ?_
        subst H
        exact rc_ret (bc13_288_11 call _ _ _)
  · have H := H.2 (cI3f q1 rfl rfl)
    refine rc_b (i' := 25) (ls' := [some (vR 0), some (vI x1), some (vI x2), some (vI x3), some (vI x4), some (vI x5)]) (st' := [vI ((x4 + 1) + x5), vR 9]) (L' := LR z f) 7 (bc13_288_12 call x1 x2 x3 x4 x5 z f) ?_
    obtain ⟨g1, H⟩ := H
    refine rc_g (i' := 26) (ls' := [some (vR 0), some (vI x1), some (vI x2), some (vI x3), some (vI x4), some (vI x5)]) (st' := [vI (f 9 (ix ((x4 + 1) + x5)))]) (L' := LR z f) (bc13_288_13 call ((x4 + 1) + x5) _ z f) (pinG g1) ?_
    refine rc_b (i' := 31) (ls' := [some (vR 0), some (vI x1), some (vI x2), some (vI x3), some (vI x4), some (vI x5)]) (st' := [vI (x1 + x5), vR 8, vI (f 9 (ix ((x4 + 1) + x5)))]) (L' := LR z f) 5 (bc13_288_14 call x1 x2 x3 x4 x5 (f 9 (ix ((x4 + 1) + x5))) z f) ?_
    obtain ⟨g1, H⟩ := H
    refine rc_g (i' := 32) (ls' := [some (vR 0), some (vI x1), some (vI x2), some (vI x3), some (vI x4), some (vI x5)]) (st' := [vI (f 8 (ix (x1 + x5))), vI (f 9 (ix ((x4 + 1) + x5)))]) (L' := LR z f) (bc13_288_15 call (x1 + x5) (f 9 (ix ((x4 + 1) + x5))) _ z f) (pinG g1) ?_
    refine rc_if (it := 38) (ie := 33) (ls' := [some (vR 0), some (vI x1), some (vI x2), some (vI x3), some (vI x4), some (vI x5)]) (st' := []) (bc13_288_16 call (f 9 (ix ((x4 + 1) + x5))) (f 8 (ix (x1 + x5))) _ _) (fun q4 => ?_) (fun q4 => ?_)
    · have H := H.1 (cI1t q4)
      refine rc_b (i' := 42) (ls' := [some (vR 0), some (vI x1), some (vI x2), some (vI x3), some (vI x4), some (vI x5)]) (st' := [vI x2, vI (x1 + x5)]) (L' := LR z f) 4 (bc13_288_3 call x1 x2 x3 x4 x5 _) ?_
      refine rc_if (it := 55) (ie := 43) (ls' := [some (vR 0), some (vI x1), some (vI x2), some (vI x3), some (vI x4), some (vI x5)]) (st' := []) (bc13_288_4 call (x1 + x5) x2 _ _) (fun q5 => ?_) (fun q5 => ?_)
      · have H := H.1 (cI1t q5)
        refine rc_b (i' := 59) (ls' := [some (vR 0), some (vI x1), some (vI x2), some (vI x3), some (vI (x4 + 1)), some (vI x5)]) (st' := []) (L' := LR z f) 4 (bc13_288_5 call x1 x2 x3 x4 x5 _) ?_
        exact H
      · have H := H.2 (cI1f q5)
        refine rc_b (i' := 50) (ls' := [some (vR 0), some (vI x1), some (vI x2), some (vI x3), some (vI x4), some (vI x5)]) (st' := [vI ((x4 + 1) + x5), vR 9]) (L' := LR z f) 7 (bc13_288_6 call x1 x2 x3 x4 x5 z f) ?_
        obtain ⟨g1, H⟩ := H
        refine rc_g (i' := 51) (ls' := [some (vR 0), some (vI x1), some (vI x2), some (vI x3), some (vI x4), some (vI x5)]) (st' := [vI (f 9 (ix ((x4 + 1) + x5)))]) (L' := LR z f) (bc13_288_7 call ((x4 + 1) + x5) _ z f) (pinG g1) ?_
        refine rc_b (i' := 52) (ls' := [some (vR 0), some (vI x1), some (vI x2), some (vI x3), some (vI x4), some (vI x5)]) (st' := [vI 32, vI (f 9 (ix ((x4 + 1) + x5)))]) (L' := LR z f) 1 (bc13_288_8 call x1 x2 x3 x4 x5 (f 9 (ix ((x4 + 1) + x5))) _) ?_
        refine rc_if (it := 55) (ie := 53) (ls' := [some (vR 0), some (vI x1), some (vI x2), some (vI x3), some (vI x4), some (vI x5)]) (st' := []) (bc13_288_9 call (f 9 (ix ((x4 + 1) + x5))) 32 _ _) (fun q6 => ?_) (fun q6 => ?_)
        · have H := H.1 (cI1t q6)
          refine rc_b (i' := 59) (ls' := [some (vR 0), some (vI x1), some (vI x2), some (vI x3), some (vI (x4 + 1)), some (vI x5)]) (st' := []) (L' := LR z f) 4 (bc13_288_5 call x1 x2 x3 x4 x5 _) ?_
          exact H
        · have H := H.2 (cI1f q6)
          refine rc_b (i' := 54) (ls' := [some (vR 0), some (vI x1), some (vI x2), some (vI x3), some (vI x4), some (vI x5)]) (st' := [vI x3]) (L' := LR z f) 1 (bc13_288_10 call x1 x2 x3 x4 x5 _) ?_
          subst H
          exact rc_ret (bc13_288_11 call _ _ _)
    · have H := H.2 (cI1f q4)
      refine rc_b (i' := 13) (ls' := [some (vR 0), some (vI x1), some (vI x2), some (vI x3), some (vI x4), some (vI (x5 + 1))]) (st' := []) (L' := LR z f) 5 (bc13_288_17 call x1 x2 x3 x4 x5 _) ?_
      exact H
set_option maxRecDepth 100000 in
theorem bc59_288_1 (call : QC FA) (x1 : Int32) (x2 : Int32) (x3 : Int32) (x4 : Int32) (o5 : Option PV) (z : Nat → Int32) (f : Nat → FA) (F : Nat) : rnG call 288 (F + 3) 59 [some (vR 0), some (vI x1), some (vI x2), some (vI x3), some (vI x4), o5] [] (LR z f) = rnG call 288 F 62 [some (vR 0), some (vI x1), some (vI x2), some (vI x3), some (vI x4), o5] [vI x4, vR 9] (LR z f) := rfl
set_option maxRecDepth 100000 in
theorem bc59_288_2 (call : QC FA) (x : Int32) (ls : List (Option PV)) (z : Nat → Int32) (f : Nat → FA) (F : Nat) : rnG call 288 (F + 1) 62 ls [vI x, vR 9] (LR z f) = bif (Nat.beq 0 0 && pin x 133) then rnG call 288 F 63 ls [vI (f 9 (ix x))] (LR z f) else none := rfl
set_option maxRecDepth 100000 in
theorem bc59_288_3 (call : QC FA) (x1 : Int32) (x2 : Int32) (x3 : Int32) (x4 : Int32) (o5 : Option PV) (s0 : Int32) (L : QH FA) (F : Nat) : rnG call 288 (F + 1) 63 [some (vR 0), some (vI x1), some (vI x2), some (vI x3), some (vI x4), o5] [vI s0] L = rnG call 288 F 64 [some (vR 0), some (vI x1), some (vI x2), some (vI x3), some (vI x4), o5] [vI 32, vI s0] L := rfl
set_option maxRecDepth 100000 in
theorem bc59_288_4 (call : QC FA) (x y : Int32) (ls : List (Option PV)) (L : QH FA) (F : Nat) : rnG call 288 (F + 1) 64 ls [vI y, vI x] L = bif pcmp 0 x y then rnG call 288 F 70 ls [] L else rnG call 288 F 65 ls [] L := rfl
set_option maxRecDepth 100000 in
theorem bc59_288_5 (call : QC FA) (x1 : Int32) (x2 : Int32) (x3 : Int32) (x4 : Int32) (o5 : Option PV) (L : QH FA) (F : Nat) : rnG call 288 (F + 1) 70 [some (vR 0), some (vI x1), some (vI x2), some (vI x3), some (vI x4), o5] [] L = rnG call 288 F 4 [some (vR 0), some (vI x1), some (vI x2), some (vI x3), some (vI x4), o5] [] L := rfl
set_option maxRecDepth 100000 in
theorem bc59_288_6 (call : QC FA) (x1 : Int32) (x2 : Int32) (x3 : Int32) (x4 : Int32) (o5 : Option PV) (L : QH FA) (F : Nat) : rnG call 288 (F + 5) 65 [some (vR 0), some (vI x1), some (vI x2), some (vI x3), some (vI x4), o5] [] L = rnG call 288 F 59 [some (vR 0), some (vI x1), some (vI x2), some (vI x3), some (vI (x4 + 1)), o5] [] L := rfl
theorem vcc59_288_59 (call : QC FA) (x1 : Int32) (x2 : Int32) (x3 : Int32) (x4 : Int32) (o5 : Option PV) (z : Nat → Int32) (f : Nat → FA) (res : Option PV × QH FA) (H : (pin x4 133 = true ∧ ((f 9 (ix x4) = 32 → RC call (mP 288) 4 [some (vR 0), some (vI x1), some (vI x2), some (vI x3), some (vI x4), o5] [] (LR z f) res) ∧ (¬ f 9 (ix x4) = 32 → RC call (mP 288) 59 [some (vR 0), some (vI x1), some (vI x2), some (vI x3), some (vI (x4 + 1)), o5] [] (LR z f) res)))) : RC call (mP 288) 59 [some (vR 0), some (vI x1), some (vI x2), some (vI x3), some (vI x4), o5] [] (LR z f) res := by
  refine rc_b (i' := 62) (ls' := [some (vR 0), some (vI x1), some (vI x2), some (vI x3), some (vI x4), o5]) (st' := [vI x4, vR 9]) (L' := LR z f) 3 (bc59_288_1 call x1 x2 x3 x4 o5 z f) ?_
  obtain ⟨g1, H⟩ := H
  refine rc_g (i' := 63) (ls' := [some (vR 0), some (vI x1), some (vI x2), some (vI x3), some (vI x4), o5]) (st' := [vI (f 9 (ix x4))]) (L' := LR z f) (bc59_288_2 call x4 _ z f) (pinG g1) ?_
  refine rc_b (i' := 64) (ls' := [some (vR 0), some (vI x1), some (vI x2), some (vI x3), some (vI x4), o5]) (st' := [vI 32, vI (f 9 (ix x4))]) (L' := LR z f) 1 (bc59_288_3 call x1 x2 x3 x4 o5 (f 9 (ix x4)) _) ?_
  refine rc_if (it := 70) (ie := 65) (ls' := [some (vR 0), some (vI x1), some (vI x2), some (vI x3), some (vI x4), o5]) (st' := []) (bc59_288_4 call (f 9 (ix x4)) 32 _ _) (fun q1 => ?_) (fun q1 => ?_)
  · have H := H.1 (cI0t q1)
    refine rc_b (i' := 4) (ls' := [some (vR 0), some (vI x1), some (vI x2), some (vI x3), some (vI x4), o5]) (st' := []) (L' := LR z f) 1 (bc59_288_5 call x1 x2 x3 x4 o5 _) ?_
    exact H
  · have H := H.2 (cI0f q1)
    refine rc_b (i' := 59) (ls' := [some (vR 0), some (vI x1), some (vI x2), some (vI x3), some (vI (x4 + 1)), o5]) (st' := []) (L' := LR z f) 5 (bc59_288_6 call x1 x2 x3 x4 o5 _) ?_
    exact H
theorem uZ_s {z : Nat → Int32} {j : Nat} {x : Int32} : uZ z j x j = x := if_pos rfl
theorem uZ_n {z : Nat → Int32} {i j : Nat} {x : Int32} (h : i ≠ j) : uZ z j x i = z i := if_neg h
theorem nI_inj {a b : Nat} (ha : a < 2147483648) (hb : b < 2147483648) (h : nI a = nI b) : a = b := by
  have e1 := I_nI ha
  have e2 := I_nI hb
  rw [h, e2] at e1
  omega
def LWa (a b n k : Int32) (q : Option PV) : List (Option PV) := [some (vR 0), some (vI a), some (vI b), some (vI n), some (vI k), q]
theorem wa59 (call : QC FA) (a b n : Int32) (q : Option PV) (z : Nat → Int32) (f : Nat → FA) (hw : f 9 132 = 32) : ∀ t k, k + t = 132 → ∃ k', k ≤ k' ∧ k' ≤ 132 ∧ ∀ res, RC call (mP 288) 4 (LWa a b n (nI k') q) [] (LR z f) res → RC call (mP 288) 59 (LWa a b n (nI k) q) [] (LR z f) res := by
  intro t
  induction t with
  | zero =>
    intro k hk
    obtain rfl : k = 132 := by omega
    refine ⟨132, by omega, by omega, fun res h => vcc59_288_59 _ _ _ _ _ _ _ _ _ ⟨pin_nI (by omega) (by omega), fun _ => h, fun h2 => absurd ?_ h2⟩⟩
    rw [ix_nI (by omega)]
    exact hw
  | succ t ih =>
    intro k hk
    by_cases e : f 9 k = 32
    · refine ⟨k, by omega, by omega, fun res h => vcc59_288_59 _ _ _ _ _ _ _ _ _ ⟨pin_nI (by omega) (by omega), fun _ => h, fun h2 => absurd ?_ h2⟩⟩
      rw [ix_nI (by omega)]
      exact e
    · obtain ⟨k', h1, h2, h3⟩ := ih (k + 1) (by omega)
      refine ⟨k', by omega, h2, fun res h => vcc59_288_59 _ _ _ _ _ _ _ _ _ ⟨pin_nI (by omega) (by omega), fun h4 => absurd ?_ e, fun _ => ?_⟩⟩
      · rw [ix_nI (by omega)] at h4
        exact h4
      · rw [show nI k + 1 = nI (k + 1) from nI_add k 1]
        exact h3 res h
theorem wa13 (call : QC FA) (a b k : Nat) (n : Int32) (z : Nat → Int32) (f : Nat → FA) (hw : f 9 132 = 32) (hk : k < 132) (hb : b ≤ 400) (hL : ∀ j, a ≤ j → j < b → ¬ f 8 j = 32) (hC : ∀ i, ∃ v, RC call (mP 288) 59 (LWa (nI a) (nI b) n (nI (k + 1)) (some (vI (nI i)))) [] (LR z f) (some (vI v), LR z f)) : ∀ t i, k + 1 + i + t = 132 → a + i ≤ b → ∃ v, RC call (mP 288) 13 (LWa (nI a) (nI b) n (nI k) (some (vI (nI i)))) [] (LR z f) (some (vI v), LR z f) := by
  intro t
  induction t using Nat.strongRecOn with
  | _ t ih =>
    intro i hi ha
    have e1 : nI a + nI i = nI (a + i) := nI_add a i
    have e2 : nI k + 1 = nI (k + 1) := nI_add k 1
    have e3 : nI (k + 1) + nI i = nI (k + 1 + i) := nI_add (k + 1) i
    have i1 := I_nI (n := a + i) (by omega)
    have i2 := I_nI (n := b) (by omega)
    have x1 : ix (nI (k + 1 + i)) = k + 1 + i := ix_nI (by omega)
    have x2 : ix (nI (a + i)) = a + i := ix_nI (by omega)
    obtain ⟨v0, hv0⟩ := hC i
    by_cases c1 : a + i = b
    · by_cases c2 : f 9 (k + 1 + i) = 32
      · refine ⟨n, vcc13_288_13 _ _ _ _ _ _ _ _ _ ?_⟩
        rw [e1, e2, e3, x1, x2, i1, i2]
        refine ⟨fun _ => ⟨fun h => absurd (by rw [c1]) h, fun _ => ⟨pin_nI (by omega) (by omega), fun h => absurd c2 h, fun _ => rfl⟩⟩, fun h => by omega⟩
      · refine ⟨v0, vcc13_288_13 _ _ _ _ _ _ _ _ _ ?_⟩
        rw [e1, e2, e3, x1, x2, i1, i2]
        refine ⟨fun _ => ⟨fun _ => hv0, fun _ => ⟨pin_nI (by omega) (by omega), fun _ => hv0, fun h => absurd h c2⟩⟩, fun h => by omega⟩
    · have hne : ¬ nI (a + i) = nI b := fun h => c1 (nI_inj (by omega) (by omega) h)
      by_cases c2 : f 9 (k + 1 + i) = f 8 (a + i)
      · have hlt : k + 1 + i < 132 := by
          rcases Nat.lt_or_ge (k + 1 + i) 132 with h | h
          · exact h
          · have : k + 1 + i = 132 := by omega
            rw [this, hw] at c2
            exact absurd c2.symm (hL _ (by omega) (by omega))
        obtain ⟨v, hv⟩ := ih (t - 1) (by omega) (i + 1) (by omega) (by omega)
        refine ⟨v, vcc13_288_13 _ _ _ _ _ _ _ _ _ ?_⟩
        rw [e1, e2, e3, x1, x2, i1, i2]
        refine ⟨fun h => by omega, fun _ => ⟨pin_nI (by omega) (by omega), pin_nI (by omega) (by omega), fun h => absurd c2 h, fun _ => ?_⟩⟩
        rw [show nI i + 1 = nI (i + 1) from nI_add i 1]
        exact hv
      · refine ⟨v0, vcc13_288_13 _ _ _ _ _ _ _ _ _ ?_⟩
        rw [e1, e2, e3, x1, x2, i1, i2]
        exact ⟨fun h => by omega, fun _ => ⟨pin_nI (by omega) (by omega), pin_nI (by omega) (by omega), fun _ => ⟨fun _ => hv0, fun h => absurd h hne⟩, fun h => absurd h c2⟩⟩
theorem wa4 (call : QC FA) (a b : Nat) (z : Nat → Int32) (f : Nat → FA) (hw : f 9 132 = 32) (hab : a ≤ b) (hb : b ≤ 400) (hL : ∀ j, a ≤ j → j < b → ¬ f 8 j = 32) : ∀ t k, k + t = 132 → ∀ n q, ∃ v, RC call (mP 288) 4 (LWa (nI a) (nI b) n (nI k) q) [] (LR z f) (some (vI v), LR z f) := by
  intro t
  induction t using Nat.strongRecOn with
  | _ t ih =>
    intro k hk n q
    have i1 := I_nI (n := k) (by omega)
    by_cases c : k = 132
    · refine ⟨-1, vcc4_288_4 _ _ _ _ _ _ _ _ _ ?_⟩
      rw [i1]
      exact ⟨fun _ => rfl, fun h => by omega⟩
    · obtain ⟨v, hv⟩ := wa13 call a b k (n + 1) z f hw (by omega) hb hL (fun i => by
        obtain ⟨k', h1, h2, h3⟩ := wa59 call (nI a) (nI b) (n + 1) (some (vI (nI i))) z f hw (131 - k) (k + 1) (by omega)
        obtain ⟨v, hv⟩ := ih (132 - k') (by omega) k' (by omega) (n + 1) (some (vI (nI i)))
        exact ⟨v, h3 _ hv⟩) (131 - k) 0 (by omega) (by omega)
      refine ⟨v, vcc4_288_4 _ _ _ _ _ _ _ _ _ ?_⟩
      rw [i1]
      exact ⟨fun h => by omega, fun _ => hv⟩
theorem wordAt_r (d a b : Nat) (z : Nat → Int32) (f : Nat → FA) (hw : f 9 132 = 32) (hab : a ≤ b) (hb : b ≤ 400) (hL : ∀ j, a ≤ j → j < b → ¬ f 8 j = 32) : ∃ v, mcall (d + 1) 288 [vR 0, vI (nI a), vI (nI b)] (LR z f) = some (some (vI v), LR z f) := by
  obtain ⟨v, hv⟩ := wa4 (mcall d) a b z f hw hab hb hL 132 0 (by omega) (-1) none
  exact ⟨v, mcall_i (mq288 (cu := [])).2.2 rfl (vc288_0 _ _ _ _ _ _ _ _ _ hv)⟩
set_option maxRecDepth 100000 in
theorem b269_1 (call : QC FA) (o1 : Option PV) (z : Nat → Int32) (f : Nat → FA) (F : Nat) : rnG call 269 (F + 3) 0 [some (vR 0), o1] [] (LR z f) = rnG call 269 F 3 [some (vR 0), o1] [vI (z 13), vR 0] (LR z f) := rfl
set_option maxRecDepth 100000 in
theorem b269_2 (call : QC FA) (a0 : Int32) (ls : List (Option PV)) (z : Nat → Int32) (f : Nat → FA) (F : Nat) : rnG call 269 (F + 1) 3 ls [vI a0, vR 0] (LR z f) = cbd (call 250 [vR 0, vI a0] (LR z f)) (fun r L' => rnG call 269 F 4 ls (r.toList ++ []) L') := pcY (ih := rnG call 269 F) (call := call) (a := 250) (b := 1) (v := 12) (t := 4) (x := 0) (ls := ls) (As := [vI a0]) (st' := []) (L := LR z f) rfl rfl rfl
set_option maxRecDepth 100000 in
theorem b269_3 (call : QC FA) (o1 : Option PV) (s0 : Int32) (L : QH FA) (F : Nat) : rnG call 269 (F + 1) 4 [some (vR 0), o1] [vI s0] L = rnG call 269 F 5 [some (vR 0), o1] [vI 32, vI s0] L := rfl
set_option maxRecDepth 100000 in
theorem b269_4 (call : QC FA) (x y : Int32) (ls : List (Option PV)) (L : QH FA) (F : Nat) : rnG call 269 (F + 1) 5 ls [vI y, vI x] L = bif pcmp 0 x y then rnG call 269 F 12 ls [] L else rnG call 269 F 6 ls [] L := rfl
set_option maxRecDepth 100000 in
theorem b269_5 (call : QC FA) (o1 : Option PV) (z : Nat → Int32) (f : Nat → FA) (F : Nat) : rnG call 269 (F + 5) 12 [some (vR 0), o1] [] (LR z f) = rnG call 269 F 17 [some (vR 0), o1] [vI ((z 13) + 1), vR 0] (LR z f) := rfl
set_option maxRecDepth 100000 in
theorem b269_6 (call : QC FA) (y : Int32) (ls : List (Option PV)) (z : Nat → Int32) (f : Nat → FA) (F : Nat) : rnG call 269 (F + 1) 17 ls [vI y, vR 0] (LR z f) = rnG call 269 F 18 ls [] (LR (uZ z 13 y) f) := rfl
set_option maxRecDepth 100000 in
theorem b269_7 (call : QC FA) (o1 : Option PV) (L : QH FA) (F : Nat) : rnG call 269 (F + 1) 18 [some (vR 0), o1] [] L = rnG call 269 F 0 [some (vR 0), o1] [] L := rfl
set_option maxRecDepth 100000 in
theorem b269_8 (call : QC FA) (o1 : Option PV) (z : Nat → Int32) (f : Nat → FA) (F : Nat) : rnG call 269 (F + 3) 6 [some (vR 0), o1] [] (LR z f) = rnG call 269 F 9 [some (vR 0), o1] [vI (z 13), vR 0] (LR z f) := rfl
set_option maxRecDepth 100000 in
theorem b269_9 (call : QC FA) (a0 : Int32) (ls : List (Option PV)) (z : Nat → Int32) (f : Nat → FA) (F : Nat) : rnG call 269 (F + 1) 9 ls [vI a0, vR 0] (LR z f) = cbd (call 250 [vR 0, vI a0] (LR z f)) (fun r L' => rnG call 269 F 10 ls (r.toList ++ []) L') := pcY (ih := rnG call 269 F) (call := call) (a := 250) (b := 1) (v := 12) (t := 10) (x := 0) (ls := ls) (As := [vI a0]) (st' := []) (L := LR z f) rfl rfl rfl
set_option maxRecDepth 100000 in
theorem b269_10 (call : QC FA) (o1 : Option PV) (s0 : Int32) (L : QH FA) (F : Nat) : rnG call 269 (F + 1) 10 [some (vR 0), o1] [vI s0] L = rnG call 269 F 11 [some (vR 0), o1] [vI 10, vI s0] L := rfl
set_option maxRecDepth 100000 in
theorem b269_11 (call : QC FA) (x y : Int32) (ls : List (Option PV)) (L : QH FA) (F : Nat) : rnG call 269 (F + 1) 11 ls [vI y, vI x] L = bif pcmp 1 x y then rnG call 269 F 19 ls [] L else rnG call 269 F 12 ls [] L := rfl
set_option maxRecDepth 100000 in
theorem b269_12 (call : QC FA) (o1 : Option PV) (z : Nat → Int32) (f : Nat → FA) (F : Nat) : rnG call 269 (F + 3) 19 [some (vR 0), o1] [] (LR z f) = rnG call 269 F 22 [some (vR 0), o1] [vI (z 13), vR 0] (LR z f) := rfl
set_option maxRecDepth 100000 in
theorem b269_13 (call : QC FA) (y : Int32) (ls : List (Option PV)) (z : Nat → Int32) (f : Nat → FA) (F : Nat) : rnG call 269 (F + 1) 22 ls [vI y, vR 0] (LR z f) = rnG call 269 F 23 ls [] (LR (uZ z 14 y) f) := rfl
set_option maxRecDepth 100000 in
theorem b269_14 (call : QC FA) (o1 : Option PV) (L : QH FA) (F : Nat) : rnG call 269 (F + 2) 23 [some (vR 0), o1] [] L = rnG call 269 F 25 [some (vR 0), o1] [vI 1, vR 0] L := rfl
set_option maxRecDepth 100000 in
theorem b269_15 (call : QC FA) (y : Int32) (ls : List (Option PV)) (z : Nat → Int32) (f : Nat → FA) (F : Nat) : rnG call 269 (F + 1) 25 ls [vI y, vR 0] (LR z f) = rnG call 269 F 26 ls [] (LR (uZ z 15 y) f) := rfl
set_option maxRecDepth 100000 in
theorem b269_16 (call : QC FA) (o1 : Option PV) (z : Nat → Int32) (f : Nat → FA) (F : Nat) : rnG call 269 (F + 3) 26 [some (vR 0), o1] [] (LR z f) = rnG call 269 F 29 [some (vR 0), o1] [vI (z 13), vR 0] (LR z f) := rfl
set_option maxRecDepth 100000 in
theorem b269_17 (call : QC FA) (a0 : Int32) (ls : List (Option PV)) (z : Nat → Int32) (f : Nat → FA) (F : Nat) : rnG call 269 (F + 1) 29 ls [vI a0, vR 0] (LR z f) = cbd (call 250 [vR 0, vI a0] (LR z f)) (fun r L' => rnG call 269 F 30 ls (r.toList ++ []) L') := pcY (ih := rnG call 269 F) (call := call) (a := 250) (b := 1) (v := 12) (t := 30) (x := 0) (ls := ls) (As := [vI a0]) (st' := []) (L := LR z f) rfl rfl rfl
set_option maxRecDepth 100000 in
theorem b269_18 (call : QC FA) (o1 : Option PV) (s0 : Int32) (L : QH FA) (F : Nat) : rnG call 269 (F + 3) 30 [some (vR 0), o1] [vI s0] L = rnG call 269 F 33 [some (vR 0), some (vI s0)] [vI ((-1)), vI s0] L := rfl
set_option maxRecDepth 100000 in
theorem b269_19 (call : QC FA) (x y : Int32) (ls : List (Option PV)) (L : QH FA) (F : Nat) : rnG call 269 (F + 1) 33 ls [vI y, vI x] L = bif pcmp 1 x y then rnG call 269 F 38 ls [] L else rnG call 269 F 34 ls [] L := rfl
set_option maxRecDepth 100000 in
theorem b269_20 (call : QC FA) (x1 : Int32) (z : Nat → Int32) (f : Nat → FA) (F : Nat) : rnG call 269 (F + 5) 38 [some (vR 0), some (vI x1)] [] (LR z f) = rnG call 269 F 43 [some (vR 0), some (vI x1)] [vI ((z 13) + 1), vR 0] (LR z f) := rfl
set_option maxRecDepth 100000 in
theorem b269_21 (call : QC FA) (y : Int32) (ls : List (Option PV)) (z : Nat → Int32) (f : Nat → FA) (F : Nat) : rnG call 269 (F + 1) 43 ls [vI y, vR 0] (LR z f) = rnG call 269 F 44 ls [] (LR (uZ z 13 y) f) := rfl
set_option maxRecDepth 100000 in
theorem b269_22 (call : QC FA) (x1 : Int32) (L : QH FA) (F : Nat) : rnG call 269 (F + 2) 44 [some (vR 0), some (vI x1)] [] L = rnG call 269 F 46 [some (vR 0), some (vI x1)] [vI x1, vR 0] L := rfl
set_option maxRecDepth 100000 in
theorem b269_23 (call : QC FA) (y : Int32) (ls : List (Option PV)) (z : Nat → Int32) (f : Nat → FA) (F : Nat) : rnG call 269 (F + 1) 46 ls [vI y, vR 0] (LR z f) = rnG call 269 F 47 ls [] (LR (uZ z 16 y) f) := rfl
set_option maxRecDepth 100000 in
theorem b269_24 (call : QC FA) (x1 : Int32) (L : QH FA) (F : Nat) : rnG call 269 (F + 2) 47 [some (vR 0), some (vI x1)] [] L = rnG call 269 F 49 [some (vR 0), some (vI x1)] [vI x1, vR 0] L := rfl
set_option maxRecDepth 100000 in
theorem b269_25 (call : QC FA) (a0 : Int32) (ls : List (Option PV)) (z : Nat → Int32) (f : Nat → FA) (F : Nat) : rnG call 269 (F + 1) 49 ls [vI a0, vR 0] (LR z f) = cbd (call 222 [vR 0, vI a0] (LR z f)) (fun r L' => rnG call 269 F 50 ls (r.toList ++ []) L') := pcY (ih := rnG call 269 F) (call := call) (a := 222) (b := 1) (v := 12) (t := 50) (x := 0) (ls := ls) (As := [vI a0]) (st' := []) (L := LR z f) rfl rfl rfl
set_option maxRecDepth 100000 in
theorem b269_26 (call : QC FA) (x : Int32) (ls : List (Option PV)) (L : QH FA) (F : Nat) : rnG call 269 (F + 1) 50 ls [vI x] L = bif pcmp 0 x 0 then rnG call 269 F 81 ls [] L else rnG call 269 F 51 ls [] L := rfl
set_option maxRecDepth 100000 in
theorem b269_27 (call : QC FA) (x1 : Int32) (L : QH FA) (F : Nat) : rnG call 269 (F + 2) 81 [some (vR 0), some (vI x1)] [] L = rnG call 269 F 83 [some (vR 0), some (vI x1)] [vI x1, vR 0] L := rfl
set_option maxRecDepth 100000 in
theorem b269_28 (call : QC FA) (a0 : Int32) (ls : List (Option PV)) (z : Nat → Int32) (f : Nat → FA) (F : Nat) : rnG call 269 (F + 1) 83 ls [vI a0, vR 0] (LR z f) = cbd (call 221 [vR 0, vI a0] (LR z f)) (fun r L' => rnG call 269 F 84 ls (r.toList ++ []) L') := pcY (ih := rnG call 269 F) (call := call) (a := 221) (b := 1) (v := 12) (t := 84) (x := 0) (ls := ls) (As := [vI a0]) (st' := []) (L := LR z f) rfl rfl rfl
set_option maxRecDepth 100000 in
theorem b269_29 (call : QC FA) (x : Int32) (ls : List (Option PV)) (L : QH FA) (F : Nat) : rnG call 269 (F + 1) 84 ls [vI x] L = bif pcmp 0 x 0 then rnG call 269 F 135 ls [] L else rnG call 269 F 85 ls [] L := rfl
set_option maxRecDepth 100000 in
theorem b269_30 (call : QC FA) (x1 : Int32) (L : QH FA) (F : Nat) : rnG call 269 (F + 2) 135 [some (vR 0), some (vI x1)] [] L = rnG call 269 F 137 [some (vR 0), some (vI x1)] [vI x1, vR 0] L := rfl
set_option maxRecDepth 100000 in
theorem b269_31 (call : QC FA) (a0 : Int32) (ls : List (Option PV)) (z : Nat → Int32) (f : Nat → FA) (F : Nat) : rnG call 269 (F + 1) 137 ls [vI a0, vR 0] (LR z f) = cbd (call 225 [vR 0, vI a0] (LR z f)) (fun r L' => rnG call 269 F 138 ls (r.toList ++ []) L') := pcY (ih := rnG call 269 F) (call := call) (a := 225) (b := 1) (v := 12) (t := 138) (x := 0) (ls := ls) (As := [vI a0]) (st' := []) (L := LR z f) rfl rfl rfl
set_option maxRecDepth 100000 in
theorem b269_32 (call : QC FA) (x : Int32) (ls : List (Option PV)) (L : QH FA) (F : Nat) : rnG call 269 (F + 1) 138 ls [vI x] L = bif pcmp 0 x 0 then rnG call 269 F 142 ls [] L else rnG call 269 F 139 ls [] L := rfl
set_option maxRecDepth 100000 in
theorem b269_33 (call : QC FA) (ls : List (Option PV)) (L : QH FA) (F : Nat) : rnG call 269 (F + 1) 142 ls [] L = some (none, L) := rfl
set_option maxRecDepth 100000 in
theorem b269_34 (call : QC FA) (x1 : Int32) (L : QH FA) (F : Nat) : rnG call 269 (F + 2) 139 [some (vR 0), some (vI x1)] [] L = rnG call 269 F 141 [some (vR 0), some (vI x1)] [vI 4, vR 0] L := rfl
set_option maxRecDepth 100000 in
theorem b269_35 (call : QC FA) (y : Int32) (ls : List (Option PV)) (z : Nat → Int32) (f : Nat → FA) (F : Nat) : rnG call 269 (F + 1) 141 ls [vI y, vR 0] (LR z f) = rnG call 269 F 142 ls [] (LR (uZ z 15 y) f) := rfl
set_option maxRecDepth 100000 in
theorem b269_36 (call : QC FA) (x1 : Int32) (L : QH FA) (F : Nat) : rnG call 269 (F + 4) 85 [some (vR 0), some (vI x1)] [] L = rnG call 269 F 89 [some (vR 0), some (vI x1)] [vI (x1 - 48), vR 0] L := rfl
set_option maxRecDepth 100000 in
theorem b269_37 (call : QC FA) (y : Int32) (ls : List (Option PV)) (z : Nat → Int32) (f : Nat → FA) (F : Nat) : rnG call 269 (F + 1) 89 ls [vI y, vR 0] (LR z f) = rnG call 269 F 90 ls [] (LR (uZ z 16 y) f) := rfl
set_option maxRecDepth 100000 in
theorem b269_38 (call : QC FA) (x1 : Int32) (L : QH FA) (F : Nat) : rnG call 269 (F + 2) 34 [some (vR 0), some (vI x1)] [] L = rnG call 269 F 36 [some (vR 0), some (vI x1)] [vI 0, vR 0] L := rfl
set_option maxRecDepth 100000 in
theorem b269_39 (call : QC FA) (y : Int32) (ls : List (Option PV)) (z : Nat → Int32) (f : Nat → FA) (F : Nat) : rnG call 269 (F + 1) 36 ls [vI y, vR 0] (LR z f) = rnG call 269 F 37 ls [] (LR (uZ z 15 y) f) := rfl
set_option maxRecDepth 100000 in
theorem b269_40 (call : QC FA) (ls : List (Option PV)) (L : QH FA) (F : Nat) : rnG call 269 (F + 1) 37 ls [] L = some (none, L) := rfl
theorem vc269_0 (d : Nat) (o1 : Option PV) (z : Nat → Int32) (f : Nat → FA) (res : Option PV × QH FA) (H : (∃ (r1 : Int32) (z1 : Nat → Int32) (f1 : Nat → FA), (mcall (d + 2)) 250 [vR 0, vI (z 13)] (LR z f) = some (some (vI r1), LR z1 f1) ∧ ((r1 = 32 → RC (mcall (d + 2)) (mP 269) 0 [some (vR 0), o1] [] (LR (uZ z1 13 ((z1 13) + 1)) f1) res) ∧ (¬ r1 = 32 → (∃ (r2 : Int32) (z2 : Nat → Int32) (f2 : Nat → FA), (mcall (d + 2)) 250 [vR 0, vI (z1 13)] (LR z1 f1) = some (some (vI r2), LR z2 f2) ∧ ((¬ r2 = 10 → (∃ (r3 : Int32) (z3 : Nat → Int32) (f3 : Nat → FA), (mcall (d + 2)) 250 [vR 0, vI (z2 13)] (LR (uZ (uZ z2 14 (z2 13)) 15 1) f2) = some (some (vI r3), LR z3 f3) ∧ ((¬ r3 = (-1) → ((((97 ≤ I r3 ∧ I r3 ≤ 122) ∨ (65 ≤ I r3 ∧ I r3 ≤ 90)) → RC (mcall (d + 2)) (mP 269) 51 [some (vR 0), some (vI r3)] [] (LR (uZ (uZ z3 13 ((z3 13) + 1)) 16 r3) f3) res) ∧ ((¬ ((97 ≤ I r3 ∧ I r3 ≤ 122) ∨ (65 ≤ I r3 ∧ I r3 ≤ 90))) → (((48 ≤ I r3 ∧ I r3 ≤ 57) → RC (mcall (d + 2)) (mP 269) 90 [some (vR 0), some (vI r3)] [] (LR (uZ (uZ (uZ z3 13 ((z3 13) + 1)) 16 r3) 16 (r3 - 48)) f3) res) ∧ ((¬ (48 ≤ I r3 ∧ I r3 ≤ 57)) → (((r3 = 59 ∨ r3 = 43 ∨ r3 = 45 ∨ r3 = 42 ∨ r3 = 47 ∨ r3 = 40 ∨ r3 = 41 ∨ r3 = 60 ∨ r3 = 61 ∨ r3 = 62) → res = (none, LR (uZ (uZ (uZ z3 13 ((z3 13) + 1)) 16 r3) 15 4) f3)) ∧ ((¬ (r3 = 59 ∨ r3 = 43 ∨ r3 = 45 ∨ r3 = 42 ∨ r3 = 47 ∨ r3 = 40 ∨ r3 = 41 ∨ r3 = 60 ∨ r3 = 61 ∨ r3 = 62)) → res = (none, LR (uZ (uZ z3 13 ((z3 13) + 1)) 16 r3) f3)))))))) ∧ (r3 = (-1) → res = (none, LR (uZ z3 15 0) f3))))) ∧ (r2 = 10 → RC (mcall (d + 2)) (mP 269) 0 [some (vR 0), o1] [] (LR (uZ z2 13 ((z2 13) + 1)) f2) res))))))) : RC (mcall (d + 2)) (mP 269) 0 [some (vR 0), o1] [] (LR z f) res := by
  refine rc_b (i' := 3) (ls' := [some (vR 0), o1]) (st' := [vI (z 13), vR 0]) (L' := LR z f) 3 (b269_1 (mcall (d + 2)) o1 z f) ?_
  obtain ⟨r1, z1, f1, hc, H⟩ := H
  refine rc_call (t := 4) (ls' := [some (vR 0), o1]) (st' := []) (b269_2 (mcall (d + 2)) (z 13) _ z f) hc ?_
  show RC (mcall (d + 2)) (mP 269) 4 [some (vR 0), o1] [vI r1] (LR z1 f1) res
  refine rc_b (i' := 5) (ls' := [some (vR 0), o1]) (st' := [vI 32, vI r1]) (L' := LR z1 f1) 1 (b269_3 (mcall (d + 2)) o1 r1 _) ?_
  refine rc_if (it := 12) (ie := 6) (ls' := [some (vR 0), o1]) (st' := []) (b269_4 (mcall (d + 2)) r1 32 _ _) (fun q1 => ?_) (fun q1 => ?_)
  · have H := H.1 (cI0t q1)
    refine rc_b (i' := 17) (ls' := [some (vR 0), o1]) (st' := [vI ((z1 13) + 1), vR 0]) (L' := LR z1 f1) 5 (b269_5 (mcall (d + 2)) o1 z1 f1) ?_
    refine rc_b (i' := 18) (ls' := [some (vR 0), o1]) (st' := []) (L' := LR (uZ z1 13 ((z1 13) + 1)) f1) 1 (b269_6 (mcall (d + 2)) ((z1 13) + 1) _ z1 f1) ?_
    refine rc_b (i' := 0) (ls' := [some (vR 0), o1]) (st' := []) (L' := LR (uZ z1 13 ((z1 13) + 1)) f1) 1 (b269_7 (mcall (d + 2)) o1 _) ?_
    exact H
  · have H := H.2 (cI0f q1)
    refine rc_b (i' := 9) (ls' := [some (vR 0), o1]) (st' := [vI (z1 13), vR 0]) (L' := LR z1 f1) 3 (b269_8 (mcall (d + 2)) o1 z1 f1) ?_
    obtain ⟨r2, z2, f2, hc, H⟩ := H
    refine rc_call (t := 10) (ls' := [some (vR 0), o1]) (st' := []) (b269_9 (mcall (d + 2)) (z1 13) _ z1 f1) hc ?_
    show RC (mcall (d + 2)) (mP 269) 10 [some (vR 0), o1] [vI r2] (LR z2 f2) res
    refine rc_b (i' := 11) (ls' := [some (vR 0), o1]) (st' := [vI 10, vI r2]) (L' := LR z2 f2) 1 (b269_10 (mcall (d + 2)) o1 r2 _) ?_
    refine rc_if (it := 19) (ie := 12) (ls' := [some (vR 0), o1]) (st' := []) (b269_11 (mcall (d + 2)) r2 10 _ _) (fun q2 => ?_) (fun q2 => ?_)
    · have H := H.1 (cI1t q2)
      refine rc_b (i' := 22) (ls' := [some (vR 0), o1]) (st' := [vI (z2 13), vR 0]) (L' := LR z2 f2) 3 (b269_12 (mcall (d + 2)) o1 z2 f2) ?_
      refine rc_b (i' := 23) (ls' := [some (vR 0), o1]) (st' := []) (L' := LR (uZ z2 14 (z2 13)) f2) 1 (b269_13 (mcall (d + 2)) (z2 13) _ z2 f2) ?_
      refine rc_b (i' := 25) (ls' := [some (vR 0), o1]) (st' := [vI 1, vR 0]) (L' := LR (uZ z2 14 (z2 13)) f2) 2 (b269_14 (mcall (d + 2)) o1 _) ?_
      refine rc_b (i' := 26) (ls' := [some (vR 0), o1]) (st' := []) (L' := LR (uZ (uZ z2 14 (z2 13)) 15 1) f2) 1 (b269_15 (mcall (d + 2)) 1 _ (uZ z2 14 (z2 13)) f2) ?_
      refine rc_b (i' := 29) (ls' := [some (vR 0), o1]) (st' := [vI (z2 13), vR 0]) (L' := LR (uZ (uZ z2 14 (z2 13)) 15 1) f2) 3 (b269_16 (mcall (d + 2)) o1 (uZ (uZ z2 14 (z2 13)) 15 1) f2) ?_
      obtain ⟨r3, z3, f3, hc, H⟩ := H
      refine rc_call (t := 30) (ls' := [some (vR 0), o1]) (st' := []) (b269_17 (mcall (d + 2)) (z2 13) _ (uZ (uZ z2 14 (z2 13)) 15 1) f2) hc ?_
      show RC (mcall (d + 2)) (mP 269) 30 [some (vR 0), o1] [vI r3] (LR z3 f3) res
      refine rc_b (i' := 33) (ls' := [some (vR 0), some (vI r3)]) (st' := [vI ((-1)), vI r3]) (L' := LR z3 f3) 3 (b269_18 (mcall (d + 2)) o1 r3 _) ?_
      refine rc_if (it := 38) (ie := 34) (ls' := [some (vR 0), some (vI r3)]) (st' := []) (b269_19 (mcall (d + 2)) r3 ((-1)) _ _) (fun q3 => ?_) (fun q3 => ?_)
      · have H := H.1 (cI1t q3)
        refine rc_b (i' := 43) (ls' := [some (vR 0), some (vI r3)]) (st' := [vI ((z3 13) + 1), vR 0]) (L' := LR z3 f3) 5 (b269_20 (mcall (d + 2)) r3 z3 f3) ?_
        refine rc_b (i' := 44) (ls' := [some (vR 0), some (vI r3)]) (st' := []) (L' := LR (uZ z3 13 ((z3 13) + 1)) f3) 1 (b269_21 (mcall (d + 2)) ((z3 13) + 1) _ z3 f3) ?_
        refine rc_b (i' := 46) (ls' := [some (vR 0), some (vI r3)]) (st' := [vI r3, vR 0]) (L' := LR (uZ z3 13 ((z3 13) + 1)) f3) 2 (b269_22 (mcall (d + 2)) r3 _) ?_
        refine rc_b (i' := 47) (ls' := [some (vR 0), some (vI r3)]) (st' := []) (L' := LR (uZ (uZ z3 13 ((z3 13) + 1)) 16 r3) f3) 1 (b269_23 (mcall (d + 2)) r3 _ (uZ z3 13 ((z3 13) + 1)) f3) ?_
        refine rc_b (i' := 49) (ls' := [some (vR 0), some (vI r3)]) (st' := [vI r3, vR 0]) (L' := LR (uZ (uZ z3 13 ((z3 13) + 1)) 16 r3) f3) 2 (b269_24 (mcall (d + 2)) r3 _) ?_
        refine rc_call (t := 50) (ls' := [some (vR 0), some (vI r3)]) (st' := []) (b269_25 (mcall (d + 2)) r3 _ (uZ (uZ z3 13 ((z3 13) + 1)) 16 r3) f3) (isLetter_r _ r3 (uZ (uZ z3 13 ((z3 13) + 1)) 16 r3) f3) ?_
        show RC (mcall (d + 2)) (mP 269) 50 [some (vR 0), some (vI r3)] [vI (bI ((97 ≤ I r3 ∧ I r3 ≤ 122) ∨ (65 ≤ I r3 ∧ I r3 ≤ 90)))] (LR (uZ (uZ z3 13 ((z3 13) + 1)) 16 r3) f3) res
        refine rc_bz (it := 81) (ie := 51) (ls' := [some (vR 0), some (vI r3)]) (st' := []) (b269_26 (mcall (d + 2)) (bI ((97 ≤ I r3 ∧ I r3 ≤ 122) ∨ (65 ≤ I r3 ∧ I r3 ≤ 90))) _ _) (fun q4 => ?_) (fun q4 => ?_)
        · have H := H.2 q4
          refine rc_b (i' := 83) (ls' := [some (vR 0), some (vI r3)]) (st' := [vI r3, vR 0]) (L' := LR (uZ (uZ z3 13 ((z3 13) + 1)) 16 r3) f3) 2 (b269_27 (mcall (d + 2)) r3 _) ?_
          refine rc_call (t := 84) (ls' := [some (vR 0), some (vI r3)]) (st' := []) (b269_28 (mcall (d + 2)) r3 _ (uZ (uZ z3 13 ((z3 13) + 1)) 16 r3) f3) (isDigit_r _ r3 (uZ (uZ z3 13 ((z3 13) + 1)) 16 r3) f3) ?_
          show RC (mcall (d + 2)) (mP 269) 84 [some (vR 0), some (vI r3)] [vI (bI (48 ≤ I r3 ∧ I r3 ≤ 57))] (LR (uZ (uZ z3 13 ((z3 13) + 1)) 16 r3) f3) res
          refine rc_bz (it := 135) (ie := 85) (ls' := [some (vR 0), some (vI r3)]) (st' := []) (b269_29 (mcall (d + 2)) (bI (48 ≤ I r3 ∧ I r3 ≤ 57)) _ _) (fun q5 => ?_) (fun q5 => ?_)
          · have H := H.2 q5
            refine rc_b (i' := 137) (ls' := [some (vR 0), some (vI r3)]) (st' := [vI r3, vR 0]) (L' := LR (uZ (uZ z3 13 ((z3 13) + 1)) 16 r3) f3) 2 (b269_30 (mcall (d + 2)) r3 _) ?_
            refine rc_call (t := 138) (ls' := [some (vR 0), some (vI r3)]) (st' := []) (b269_31 (mcall (d + 2)) r3 _ (uZ (uZ z3 13 ((z3 13) + 1)) 16 r3) f3) (isMarkSign_r _ r3 (uZ (uZ z3 13 ((z3 13) + 1)) 16 r3) f3) ?_
            show RC (mcall (d + 2)) (mP 269) 138 [some (vR 0), some (vI r3)] [vI (bI (r3 = 59 ∨ r3 = 43 ∨ r3 = 45 ∨ r3 = 42 ∨ r3 = 47 ∨ r3 = 40 ∨ r3 = 41 ∨ r3 = 60 ∨ r3 = 61 ∨ r3 = 62))] (LR (uZ (uZ z3 13 ((z3 13) + 1)) 16 r3) f3) res
            refine rc_bz (it := 142) (ie := 139) (ls' := [some (vR 0), some (vI r3)]) (st' := []) (b269_32 (mcall (d + 2)) (bI (r3 = 59 ∨ r3 = 43 ∨ r3 = 45 ∨ r3 = 42 ∨ r3 = 47 ∨ r3 = 40 ∨ r3 = 41 ∨ r3 = 60 ∨ r3 = 61 ∨ r3 = 62)) _ _) (fun q6 => ?_) (fun q6 => ?_)
            · have H := H.2 q6
              subst H
              exact rc_ret (b269_33 (mcall (d + 2)) _ _)
            · have H := H.1 q6
              refine rc_b (i' := 141) (ls' := [some (vR 0), some (vI r3)]) (st' := [vI 4, vR 0]) (L' := LR (uZ (uZ z3 13 ((z3 13) + 1)) 16 r3) f3) 2 (b269_34 (mcall (d + 2)) r3 _) ?_
              refine rc_b (i' := 142) (ls' := [some (vR 0), some (vI r3)]) (st' := []) (L' := LR (uZ (uZ (uZ z3 13 ((z3 13) + 1)) 16 r3) 15 4) f3) 1 (b269_35 (mcall (d + 2)) 4 _ (uZ (uZ z3 13 ((z3 13) + 1)) 16 r3) f3) ?_
              subst H
              exact rc_ret (b269_33 (mcall (d + 2)) _ _)
          · have H := H.1 q5
            refine rc_b (i' := 89) (ls' := [some (vR 0), some (vI r3)]) (st' := [vI (r3 - 48), vR 0]) (L' := LR (uZ (uZ z3 13 ((z3 13) + 1)) 16 r3) f3) 4 (b269_36 (mcall (d + 2)) r3 _) ?_
            refine rc_b (i' := 90) (ls' := [some (vR 0), some (vI r3)]) (st' := []) (L' := LR (uZ (uZ (uZ z3 13 ((z3 13) + 1)) 16 r3) 16 (r3 - 48)) f3) 1 (b269_37 (mcall (d + 2)) (r3 - 48) _ (uZ (uZ z3 13 ((z3 13) + 1)) 16 r3) f3) ?_
            exact H
        · have H := H.1 q4
          exact H
      · have H := H.2 (cI1f q3)
        refine rc_b (i' := 36) (ls' := [some (vR 0), some (vI r3)]) (st' := [vI 0, vR 0]) (L' := LR z3 f3) 2 (b269_38 (mcall (d + 2)) r3 _) ?_
        refine rc_b (i' := 37) (ls' := [some (vR 0), some (vI r3)]) (st' := []) (L' := LR (uZ z3 15 0) f3) 1 (b269_39 (mcall (d + 2)) 0 _ z3 f3) ?_
        subst H
        exact rc_ret (b269_40 (mcall (d + 2)) _ _)
    · have H := H.2 (cI1f q2)
      refine rc_b (i' := 17) (ls' := [some (vR 0), o1]) (st' := [vI ((z2 13) + 1), vR 0]) (L' := LR z2 f2) 5 (b269_5 (mcall (d + 2)) o1 z2 f2) ?_
      refine rc_b (i' := 18) (ls' := [some (vR 0), o1]) (st' := []) (L' := LR (uZ z2 13 ((z2 13) + 1)) f2) 1 (b269_6 (mcall (d + 2)) ((z2 13) + 1) _ z2 f2) ?_
      refine rc_b (i' := 0) (ls' := [some (vR 0), o1]) (st' := []) (L' := LR (uZ z2 13 ((z2 13) + 1)) f2) 1 (b269_7 (mcall (d + 2)) o1 _) ?_
      exact H
set_option maxRecDepth 100000 in
theorem bc51_269_1 (call : QC FA) (o1 : Option PV) (z : Nat → Int32) (f : Nat → FA) (F : Nat) : rnG call 269 (F + 4) 51 [some (vR 0), o1] [] (LR z f) = rnG call 269 F 55 [some (vR 0), o1] [vI (z 13), vR 0, vR 0] (LR z f) := rfl
set_option maxRecDepth 100000 in
theorem bc51_269_2 (call : QC FA) (a0 : Int32) (ls : List (Option PV)) (z : Nat → Int32) (f : Nat → FA) (F : Nat) : rnG call 269 (F + 1) 55 ls [vI a0, vR 0, vR 0] (LR z f) = cbd (call 250 [vR 0, vI a0] (LR z f)) (fun r L' => rnG call 269 F 56 ls (r.toList ++ [vR 0]) L') := pcY (ih := rnG call 269 F) (call := call) (a := 250) (b := 1) (v := 12) (t := 56) (x := 0) (ls := ls) (As := [vI a0]) (st' := [vR 0]) (L := LR z f) rfl rfl rfl
set_option maxRecDepth 100000 in
theorem bc51_269_3 (call : QC FA) (a0 : Int32) (ls : List (Option PV)) (z : Nat → Int32) (f : Nat → FA) (F : Nat) : rnG call 269 (F + 1) 56 ls [vI a0, vR 0] (LR z f) = cbd (call 222 [vR 0, vI a0] (LR z f)) (fun r L' => rnG call 269 F 57 ls (r.toList ++ []) L') := pcY (ih := rnG call 269 F) (call := call) (a := 222) (b := 1) (v := 12) (t := 57) (x := 0) (ls := ls) (As := [vI a0]) (st' := []) (L := LR z f) rfl rfl rfl
set_option maxRecDepth 100000 in
theorem bc51_269_4 (call : QC FA) (x : Int32) (ls : List (Option PV)) (L : QH FA) (F : Nat) : rnG call 269 (F + 1) 57 ls [vI x] L = bif pcmp 0 x 0 then rnG call 269 F 65 ls [] L else rnG call 269 F 58 ls [] L := rfl
set_option maxRecDepth 100000 in
theorem bc51_269_5 (call : QC FA) (o1 : Option PV) (z : Nat → Int32) (f : Nat → FA) (F : Nat) : rnG call 269 (F + 6) 65 [some (vR 0), o1] [] (LR z f) = rnG call 269 F 71 [some (vR 0), o1] [vI (z 13), vI (z 14), vR 0, vR 0] (LR z f) := rfl
set_option maxRecDepth 100000 in
theorem bc51_269_6 (call : QC FA) (a0 : Int32) (a1 : Int32) (ls : List (Option PV)) (z : Nat → Int32) (f : Nat → FA) (F : Nat) : rnG call 269 (F + 1) 71 ls [vI a1, vI a0, vR 0, vR 0] (LR z f) = cbd (call 288 [vR 0, vI a0, vI a1] (LR z f)) (fun r L' => rnG call 269 F 72 ls (r.toList ++ [vR 0]) L') := pcY (ih := rnG call 269 F) (call := call) (a := 288) (b := 2) (v := 12) (t := 72) (x := 0) (ls := ls) (As := [vI a0, vI a1]) (st' := [vR 0]) (L := LR z f) rfl rfl rfl
set_option maxRecDepth 100000 in
theorem bc51_269_7 (call : QC FA) (y : Int32) (ls : List (Option PV)) (z : Nat → Int32) (f : Nat → FA) (F : Nat) : rnG call 269 (F + 1) 72 ls [vI y, vR 0] (LR z f) = rnG call 269 F 73 ls [] (LR (uZ z 16 y) f) := rfl
set_option maxRecDepth 100000 in
theorem bc51_269_8 (call : QC FA) (o1 : Option PV) (z : Nat → Int32) (f : Nat → FA) (F : Nat) : rnG call 269 (F + 3) 73 [some (vR 0), o1] [] (LR z f) = rnG call 269 F 76 [some (vR 0), o1] [vI ((-1)), vI (z 16)] (LR z f) := rfl
set_option maxRecDepth 100000 in
theorem bc51_269_9 (call : QC FA) (x y : Int32) (ls : List (Option PV)) (L : QH FA) (F : Nat) : rnG call 269 (F + 1) 76 ls [vI y, vI x] L = bif pcmp 0 x y then rnG call 269 F 142 ls [] L else rnG call 269 F 77 ls [] L := rfl
set_option maxRecDepth 100000 in
theorem bc51_269_10 (call : QC FA) (ls : List (Option PV)) (L : QH FA) (F : Nat) : rnG call 269 (F + 1) 142 ls [] L = some (none, L) := rfl
set_option maxRecDepth 100000 in
theorem bc51_269_11 (call : QC FA) (o1 : Option PV) (L : QH FA) (F : Nat) : rnG call 269 (F + 2) 77 [some (vR 0), o1] [] L = rnG call 269 F 79 [some (vR 0), o1] [vI 2, vR 0] L := rfl
set_option maxRecDepth 100000 in
theorem bc51_269_12 (call : QC FA) (y : Int32) (ls : List (Option PV)) (z : Nat → Int32) (f : Nat → FA) (F : Nat) : rnG call 269 (F + 1) 79 ls [vI y, vR 0] (LR z f) = rnG call 269 F 80 ls [] (LR (uZ z 15 y) f) := rfl
set_option maxRecDepth 100000 in
theorem bc51_269_13 (call : QC FA) (o1 : Option PV) (L : QH FA) (F : Nat) : rnG call 269 (F + 1) 80 [some (vR 0), o1] [] L = rnG call 269 F 142 [some (vR 0), o1] [] L := rfl
set_option maxRecDepth 100000 in
theorem bc51_269_14 (call : QC FA) (o1 : Option PV) (z : Nat → Int32) (f : Nat → FA) (F : Nat) : rnG call 269 (F + 5) 58 [some (vR 0), o1] [] (LR z f) = rnG call 269 F 63 [some (vR 0), o1] [vI ((z 13) + 1), vR 0] (LR z f) := rfl
set_option maxRecDepth 100000 in
theorem bc51_269_15 (call : QC FA) (y : Int32) (ls : List (Option PV)) (z : Nat → Int32) (f : Nat → FA) (F : Nat) : rnG call 269 (F + 1) 63 ls [vI y, vR 0] (LR z f) = rnG call 269 F 64 ls [] (LR (uZ z 13 y) f) := rfl
set_option maxRecDepth 100000 in
theorem bc51_269_16 (call : QC FA) (o1 : Option PV) (L : QH FA) (F : Nat) : rnG call 269 (F + 1) 64 [some (vR 0), o1] [] L = rnG call 269 F 51 [some (vR 0), o1] [] L := rfl
theorem vcc51_269_51 (d : Nat) (o1 : Option PV) (z : Nat → Int32) (f : Nat → FA) (res : Option PV × QH FA) (H : (∃ (r1 : Int32) (z1 : Nat → Int32) (f1 : Nat → FA), (mcall (d + 2)) 250 [vR 0, vI (z 13)] (LR z f) = some (some (vI r1), LR z1 f1) ∧ ((((97 ≤ I r1 ∧ I r1 ≤ 122) ∨ (65 ≤ I r1 ∧ I r1 ≤ 90)) → RC (mcall (d + 2)) (mP 269) 51 [some (vR 0), o1] [] (LR (uZ z1 13 ((z1 13) + 1)) f1) res) ∧ ((¬ ((97 ≤ I r1 ∧ I r1 ≤ 122) ∨ (65 ≤ I r1 ∧ I r1 ≤ 90))) → (∃ (r2 : Int32) (z2 : Nat → Int32) (f2 : Nat → FA), (mcall (d + 2)) 288 [vR 0, vI (z1 14), vI (z1 13)] (LR z1 f1) = some (some (vI r2), LR z2 f2) ∧ ((r2 = (-1) → res = (none, LR (uZ z2 16 r2) f2)) ∧ (¬ r2 = (-1) → res = (none, LR (uZ (uZ z2 16 r2) 15 2) f2)))))))) : RC (mcall (d + 2)) (mP 269) 51 [some (vR 0), o1] [] (LR z f) res := by
  refine rc_b (i' := 55) (ls' := [some (vR 0), o1]) (st' := [vI (z 13), vR 0, vR 0]) (L' := LR z f) 4 (bc51_269_1 (mcall (d + 2)) o1 z f) ?_
  obtain ⟨r1, z1, f1, hc, H⟩ := H
  refine rc_call (t := 56) (ls' := [some (vR 0), o1]) (st' := [vR 0]) (bc51_269_2 (mcall (d + 2)) (z 13) _ z f) hc ?_
  show RC (mcall (d + 2)) (mP 269) 56 [some (vR 0), o1] [vI r1, vR 0] (LR z1 f1) res
  refine rc_call (t := 57) (ls' := [some (vR 0), o1]) (st' := []) (bc51_269_3 (mcall (d + 2)) r1 _ z1 f1) (isLetter_r _ r1 z1 f1) ?_
  show RC (mcall (d + 2)) (mP 269) 57 [some (vR 0), o1] [vI (bI ((97 ≤ I r1 ∧ I r1 ≤ 122) ∨ (65 ≤ I r1 ∧ I r1 ≤ 90)))] (LR z1 f1) res
  refine rc_bz (it := 65) (ie := 58) (ls' := [some (vR 0), o1]) (st' := []) (bc51_269_4 (mcall (d + 2)) (bI ((97 ≤ I r1 ∧ I r1 ≤ 122) ∨ (65 ≤ I r1 ∧ I r1 ≤ 90))) _ _) (fun q1 => ?_) (fun q1 => ?_)
  · have H := H.2 q1
    refine rc_b (i' := 71) (ls' := [some (vR 0), o1]) (st' := [vI (z1 13), vI (z1 14), vR 0, vR 0]) (L' := LR z1 f1) 6 (bc51_269_5 (mcall (d + 2)) o1 z1 f1) ?_
    obtain ⟨r2, z2, f2, hc, H⟩ := H
    refine rc_call (t := 72) (ls' := [some (vR 0), o1]) (st' := [vR 0]) (bc51_269_6 (mcall (d + 2)) (z1 14) (z1 13) _ z1 f1) hc ?_
    show RC (mcall (d + 2)) (mP 269) 72 [some (vR 0), o1] [vI r2, vR 0] (LR z2 f2) res
    refine rc_b (i' := 73) (ls' := [some (vR 0), o1]) (st' := []) (L' := LR (uZ z2 16 r2) f2) 1 (bc51_269_7 (mcall (d + 2)) r2 _ z2 f2) ?_
    refine rc_b (i' := 76) (ls' := [some (vR 0), o1]) (st' := [vI ((-1)), vI r2]) (L' := LR (uZ z2 16 r2) f2) 3 (bc51_269_8 (mcall (d + 2)) o1 (uZ z2 16 r2) f2) ?_
    refine rc_if (it := 142) (ie := 77) (ls' := [some (vR 0), o1]) (st' := []) (bc51_269_9 (mcall (d + 2)) r2 ((-1)) _ _) (fun q2 => ?_) (fun q2 => ?_)
    · have H := H.1 (cI0t q2)
      subst H
      exact rc_ret (bc51_269_10 (mcall (d + 2)) _ _)
    · have H := H.2 (cI0f q2)
      refine rc_b (i' := 79) (ls' := [some (vR 0), o1]) (st' := [vI 2, vR 0]) (L' := LR (uZ z2 16 r2) f2) 2 (bc51_269_11 (mcall (d + 2)) o1 _) ?_
      refine rc_b (i' := 80) (ls' := [some (vR 0), o1]) (st' := []) (L' := LR (uZ (uZ z2 16 r2) 15 2) f2) 1 (bc51_269_12 (mcall (d + 2)) 2 _ (uZ z2 16 r2) f2) ?_
      refine rc_b (i' := 142) (ls' := [some (vR 0), o1]) (st' := []) (L' := LR (uZ (uZ z2 16 r2) 15 2) f2) 1 (bc51_269_13 (mcall (d + 2)) o1 _) ?_
      subst H
      exact rc_ret (bc51_269_10 (mcall (d + 2)) _ _)
  · have H := H.1 q1
    refine rc_b (i' := 63) (ls' := [some (vR 0), o1]) (st' := [vI ((z1 13) + 1), vR 0]) (L' := LR z1 f1) 5 (bc51_269_14 (mcall (d + 2)) o1 z1 f1) ?_
    refine rc_b (i' := 64) (ls' := [some (vR 0), o1]) (st' := []) (L' := LR (uZ z1 13 ((z1 13) + 1)) f1) 1 (bc51_269_15 (mcall (d + 2)) ((z1 13) + 1) _ z1 f1) ?_
    refine rc_b (i' := 51) (ls' := [some (vR 0), o1]) (st' := []) (L' := LR (uZ z1 13 ((z1 13) + 1)) f1) 1 (bc51_269_16 (mcall (d + 2)) o1 _) ?_
    exact H
set_option maxRecDepth 100000 in
theorem bc90_269_1 (call : QC FA) (o1 : Option PV) (z : Nat → Int32) (f : Nat → FA) (F : Nat) : rnG call 269 (F + 4) 90 [some (vR 0), o1] [] (LR z f) = rnG call 269 F 94 [some (vR 0), o1] [vI (z 13), vR 0, vR 0] (LR z f) := rfl
set_option maxRecDepth 100000 in
theorem bc90_269_2 (call : QC FA) (a0 : Int32) (ls : List (Option PV)) (z : Nat → Int32) (f : Nat → FA) (F : Nat) : rnG call 269 (F + 1) 94 ls [vI a0, vR 0, vR 0] (LR z f) = cbd (call 250 [vR 0, vI a0] (LR z f)) (fun r L' => rnG call 269 F 95 ls (r.toList ++ [vR 0]) L') := pcY (ih := rnG call 269 F) (call := call) (a := 250) (b := 1) (v := 12) (t := 95) (x := 0) (ls := ls) (As := [vI a0]) (st' := [vR 0]) (L := LR z f) rfl rfl rfl
set_option maxRecDepth 100000 in
theorem bc90_269_3 (call : QC FA) (a0 : Int32) (ls : List (Option PV)) (z : Nat → Int32) (f : Nat → FA) (F : Nat) : rnG call 269 (F + 1) 95 ls [vI a0, vR 0] (LR z f) = cbd (call 221 [vR 0, vI a0] (LR z f)) (fun r L' => rnG call 269 F 96 ls (r.toList ++ []) L') := pcY (ih := rnG call 269 F) (call := call) (a := 221) (b := 1) (v := 12) (t := 96) (x := 0) (ls := ls) (As := [vI a0]) (st' := []) (L := LR z f) rfl rfl rfl
set_option maxRecDepth 100000 in
theorem bc90_269_4 (call : QC FA) (x : Int32) (ls : List (Option PV)) (L : QH FA) (F : Nat) : rnG call 269 (F + 1) 96 ls [vI x] L = bif pcmp 0 x 0 then rnG call 269 F 124 ls [] L else rnG call 269 F 97 ls [] L := rfl
set_option maxRecDepth 100000 in
theorem bc90_269_5 (call : QC FA) (o1 : Option PV) (z : Nat → Int32) (f : Nat → FA) (F : Nat) : rnG call 269 (F + 6) 124 [some (vR 0), o1] [] (LR z f) = rnG call 269 F 130 [some (vR 0), o1] [vI 5, vI ((z 13) - (z 14))] (LR z f) := rfl
set_option maxRecDepth 100000 in
theorem bc90_269_6 (call : QC FA) (x y : Int32) (ls : List (Option PV)) (L : QH FA) (F : Nat) : rnG call 269 (F + 1) 130 ls [vI y, vI x] L = bif pcmp 3 x y then rnG call 269 F 142 ls [] L else rnG call 269 F 131 ls [] L := rfl
set_option maxRecDepth 100000 in
theorem bc90_269_7 (call : QC FA) (ls : List (Option PV)) (L : QH FA) (F : Nat) : rnG call 269 (F + 1) 142 ls [] L = some (none, L) := rfl
set_option maxRecDepth 100000 in
theorem bc90_269_8 (call : QC FA) (o1 : Option PV) (L : QH FA) (F : Nat) : rnG call 269 (F + 2) 131 [some (vR 0), o1] [] L = rnG call 269 F 133 [some (vR 0), o1] [vI 3, vR 0] L := rfl
set_option maxRecDepth 100000 in
theorem bc90_269_9 (call : QC FA) (y : Int32) (ls : List (Option PV)) (z : Nat → Int32) (f : Nat → FA) (F : Nat) : rnG call 269 (F + 1) 133 ls [vI y, vR 0] (LR z f) = rnG call 269 F 134 ls [] (LR (uZ z 15 y) f) := rfl
set_option maxRecDepth 100000 in
theorem bc90_269_10 (call : QC FA) (o1 : Option PV) (L : QH FA) (F : Nat) : rnG call 269 (F + 1) 134 [some (vR 0), o1] [] L = rnG call 269 F 142 [some (vR 0), o1] [] L := rfl
set_option maxRecDepth 100000 in
theorem bc90_269_11 (call : QC FA) (o1 : Option PV) (z : Nat → Int32) (f : Nat → FA) (F : Nat) : rnG call 269 (F + 4) 97 [some (vR 0), o1] [] (LR z f) = rnG call 269 F 101 [some (vR 0), o1] [vI 10000, vI (z 16), vR 0] (LR z f) := rfl
set_option maxRecDepth 100000 in
theorem bc90_269_12 (call : QC FA) (x y : Int32) (ls : List (Option PV)) (L : QH FA) (F : Nat) : rnG call 269 (F + 1) 101 ls [vI y, vI x, vR 0] L = bif pcmp 3 x y then rnG call 269 F 114 ls [vR 0] L else rnG call 269 F 102 ls [vR 0] L := rfl
set_option maxRecDepth 100000 in
theorem bc90_269_13 (call : QC FA) (o1 : Option PV) (z : Nat → Int32) (f : Nat → FA) (F : Nat) : rnG call 269 (F + 2) 114 [some (vR 0), o1] [vR 0] (LR z f) = rnG call 269 F 116 [some (vR 0), o1] [vI (z 16), vR 0] (LR z f) := rfl
set_option maxRecDepth 100000 in
theorem bc90_269_14 (call : QC FA) (y : Int32) (ls : List (Option PV)) (z : Nat → Int32) (f : Nat → FA) (F : Nat) : rnG call 269 (F + 1) 116 ls [vI y, vR 0] (LR z f) = rnG call 269 F 117 ls [] (LR (uZ z 16 y) f) := rfl
set_option maxRecDepth 100000 in
theorem bc90_269_15 (call : QC FA) (o1 : Option PV) (z : Nat → Int32) (f : Nat → FA) (F : Nat) : rnG call 269 (F + 5) 117 [some (vR 0), o1] [] (LR z f) = rnG call 269 F 122 [some (vR 0), o1] [vI ((z 13) + 1), vR 0] (LR z f) := rfl
set_option maxRecDepth 100000 in
theorem bc90_269_16 (call : QC FA) (y : Int32) (ls : List (Option PV)) (z : Nat → Int32) (f : Nat → FA) (F : Nat) : rnG call 269 (F + 1) 122 ls [vI y, vR 0] (LR z f) = rnG call 269 F 123 ls [] (LR (uZ z 13 y) f) := rfl
set_option maxRecDepth 100000 in
theorem bc90_269_17 (call : QC FA) (o1 : Option PV) (L : QH FA) (F : Nat) : rnG call 269 (F + 1) 123 [some (vR 0), o1] [] L = rnG call 269 F 90 [some (vR 0), o1] [] L := rfl
set_option maxRecDepth 100000 in
theorem bc90_269_18 (call : QC FA) (o1 : Option PV) (z : Nat → Int32) (f : Nat → FA) (F : Nat) : rnG call 269 (F + 7) 102 [some (vR 0), o1] [vR 0] (LR z f) = rnG call 269 F 109 [some (vR 0), o1] [vI (z 13), vR 0, vI (10 * (z 16)), vR 0] (LR z f) := rfl
set_option maxRecDepth 100000 in
theorem bc90_269_19 (call : QC FA) (a0 : Int32) (s0 : Int32) (ls : List (Option PV)) (z : Nat → Int32) (f : Nat → FA) (F : Nat) : rnG call 269 (F + 1) 109 ls [vI a0, vR 0, vI s0, vR 0] (LR z f) = cbd (call 250 [vR 0, vI a0] (LR z f)) (fun r L' => rnG call 269 F 110 ls (r.toList ++ [vI s0, vR 0]) L') := pcY (ih := rnG call 269 F) (call := call) (a := 250) (b := 1) (v := 12) (t := 110) (x := 0) (ls := ls) (As := [vI a0]) (st' := [vI s0, vR 0]) (L := LR z f) rfl rfl rfl
set_option maxRecDepth 100000 in
theorem bc90_269_20 (call : QC FA) (o1 : Option PV) (s0 : Int32) (s1 : Int32) (L : QH FA) (F : Nat) : rnG call 269 (F + 4) 110 [some (vR 0), o1] [vI s0, vI s1, vR 0] L = rnG call 269 F 116 [some (vR 0), o1] [vI ((s1 + s0) - 48), vR 0] L := rfl
theorem vcc90_269_90 (d : Nat) (o1 : Option PV) (z : Nat → Int32) (f : Nat → FA) (res : Option PV × QH FA) (H : (∃ (r1 : Int32) (z1 : Nat → Int32) (f1 : Nat → FA), (mcall (d + 2)) 250 [vR 0, vI (z 13)] (LR z f) = some (some (vI r1), LR z1 f1) ∧ (((48 ≤ I r1 ∧ I r1 ≤ 57) → ((10000 ≤ I (z1 16) → RC (mcall (d + 2)) (mP 269) 90 [some (vR 0), o1] [] (LR (uZ (uZ z1 16 (z1 16)) 13 ((z1 13) + 1)) f1) res) ∧ (I (z1 16) < 10000 → (∃ (r2 : Int32) (z2 : Nat → Int32) (f2 : Nat → FA), (mcall (d + 2)) 250 [vR 0, vI (z1 13)] (LR z1 f1) = some (some (vI r2), LR z2 f2) ∧ RC (mcall (d + 2)) (mP 269) 90 [some (vR 0), o1] [] (LR (uZ (uZ z2 16 (((10 * (z1 16)) + r2) - 48)) 13 ((z2 13) + 1)) f2) res)))) ∧ ((¬ (48 ≤ I r1 ∧ I r1 ≤ 57)) → ((5 ≤ I ((z1 13) - (z1 14)) → res = (none, LR z1 f1)) ∧ (I ((z1 13) - (z1 14)) < 5 → res = (none, LR (uZ z1 15 3) f1))))))) : RC (mcall (d + 2)) (mP 269) 90 [some (vR 0), o1] [] (LR z f) res := by
  refine rc_b (i' := 94) (ls' := [some (vR 0), o1]) (st' := [vI (z 13), vR 0, vR 0]) (L' := LR z f) 4 (bc90_269_1 (mcall (d + 2)) o1 z f) ?_
  obtain ⟨r1, z1, f1, hc, H⟩ := H
  refine rc_call (t := 95) (ls' := [some (vR 0), o1]) (st' := [vR 0]) (bc90_269_2 (mcall (d + 2)) (z 13) _ z f) hc ?_
  show RC (mcall (d + 2)) (mP 269) 95 [some (vR 0), o1] [vI r1, vR 0] (LR z1 f1) res
  refine rc_call (t := 96) (ls' := [some (vR 0), o1]) (st' := []) (bc90_269_3 (mcall (d + 2)) r1 _ z1 f1) (isDigit_r _ r1 z1 f1) ?_
  show RC (mcall (d + 2)) (mP 269) 96 [some (vR 0), o1] [vI (bI (48 ≤ I r1 ∧ I r1 ≤ 57))] (LR z1 f1) res
  refine rc_bz (it := 124) (ie := 97) (ls' := [some (vR 0), o1]) (st' := []) (bc90_269_4 (mcall (d + 2)) (bI (48 ≤ I r1 ∧ I r1 ≤ 57)) _ _) (fun q1 => ?_) (fun q1 => ?_)
  · have H := H.2 q1
    refine rc_b (i' := 130) (ls' := [some (vR 0), o1]) (st' := [vI 5, vI ((z1 13) - (z1 14))]) (L' := LR z1 f1) 6 (bc90_269_5 (mcall (d + 2)) o1 z1 f1) ?_
    refine rc_if (it := 142) (ie := 131) (ls' := [some (vR 0), o1]) (st' := []) (bc90_269_6 (mcall (d + 2)) ((z1 13) - (z1 14)) 5 _ _) (fun q2 => ?_) (fun q2 => ?_)
    · have H := H.1 (cI3t q2 rfl rfl)
      subst H
      exact rc_ret (bc90_269_7 (mcall (d + 2)) _ _)
    · have H := H.2 (cI3f q2 rfl rfl)
      refine rc_b (i' := 133) (ls' := [some (vR 0), o1]) (st' := [vI 3, vR 0]) (L' := LR z1 f1) 2 (bc90_269_8 (mcall (d + 2)) o1 _) ?_
      refine rc_b (i' := 134) (ls' := [some (vR 0), o1]) (st' := []) (L' := LR (uZ z1 15 3) f1) 1 (bc90_269_9 (mcall (d + 2)) 3 _ z1 f1) ?_
      refine rc_b (i' := 142) (ls' := [some (vR 0), o1]) (st' := []) (L' := LR (uZ z1 15 3) f1) 1 (bc90_269_10 (mcall (d + 2)) o1 _) ?_
      subst H
      exact rc_ret (bc90_269_7 (mcall (d + 2)) _ _)
  · have H := H.1 q1
    refine rc_b (i' := 101) (ls' := [some (vR 0), o1]) (st' := [vI 10000, vI (z1 16), vR 0]) (L' := LR z1 f1) 4 (bc90_269_11 (mcall (d + 2)) o1 z1 f1) ?_
    refine rc_if (it := 114) (ie := 102) (ls' := [some (vR 0), o1]) (st' := [vR 0]) (bc90_269_12 (mcall (d + 2)) (z1 16) 10000 _ _) (fun q3 => ?_) (fun q3 => ?_)
    · have H := H.1 (cI3t q3 rfl rfl)
      refine rc_b (i' := 116) (ls' := [some (vR 0), o1]) (st' := [vI (z1 16), vR 0]) (L' := LR z1 f1) 2 (bc90_269_13 (mcall (d + 2)) o1 z1 f1) ?_
      refine rc_b (i' := 117) (ls' := [some (vR 0), o1]) (st' := []) (L' := LR (uZ z1 16 (z1 16)) f1) 1 (bc90_269_14 (mcall (d + 2)) (z1 16) _ z1 f1) ?_
      refine rc_b (i' := 122) (ls' := [some (vR 0), o1]) (st' := [vI ((z1 13) + 1), vR 0]) (L' := LR (uZ z1 16 (z1 16)) f1) 5 (bc90_269_15 (mcall (d + 2)) o1 (uZ z1 16 (z1 16)) f1) ?_
      refine rc_b (i' := 123) (ls' := [some (vR 0), o1]) (st' := []) (L' := LR (uZ (uZ z1 16 (z1 16)) 13 ((z1 13) + 1)) f1) 1 (bc90_269_16 (mcall (d + 2)) ((z1 13) + 1) _ (uZ z1 16 (z1 16)) f1) ?_
      refine rc_b (i' := 90) (ls' := [some (vR 0), o1]) (st' := []) (L' := LR (uZ (uZ z1 16 (z1 16)) 13 ((z1 13) + 1)) f1) 1 (bc90_269_17 (mcall (d + 2)) o1 _) ?_
      exact H
    · have H := H.2 (cI3f q3 rfl rfl)
      refine rc_b (i' := 109) (ls' := [some (vR 0), o1]) (st' := [vI (z1 13), vR 0, vI (10 * (z1 16)), vR 0]) (L' := LR z1 f1) 7 (bc90_269_18 (mcall (d + 2)) o1 z1 f1) ?_
      obtain ⟨r2, z2, f2, hc, H⟩ := H
      refine rc_call (t := 110) (ls' := [some (vR 0), o1]) (st' := [vI (10 * (z1 16)), vR 0]) (bc90_269_19 (mcall (d + 2)) (z1 13) (10 * (z1 16)) _ z1 f1) hc ?_
      show RC (mcall (d + 2)) (mP 269) 110 [some (vR 0), o1] [vI r2, vI (10 * (z1 16)), vR 0] (LR z2 f2) res
      refine rc_b (i' := 116) (ls' := [some (vR 0), o1]) (st' := [vI (((10 * (z1 16)) + r2) - 48), vR 0]) (L' := LR z2 f2) 4 (bc90_269_20 (mcall (d + 2)) o1 r2 (10 * (z1 16)) _) ?_
      refine rc_b (i' := 117) (ls' := [some (vR 0), o1]) (st' := []) (L' := LR (uZ z2 16 (((10 * (z1 16)) + r2) - 48)) f2) 1 (bc90_269_14 (mcall (d + 2)) (((10 * (z1 16)) + r2) - 48) _ z2 f2) ?_
      refine rc_b (i' := 122) (ls' := [some (vR 0), o1]) (st' := [vI ((z2 13) + 1), vR 0]) (L' := LR (uZ z2 16 (((10 * (z1 16)) + r2) - 48)) f2) 5 (bc90_269_15 (mcall (d + 2)) o1 (uZ z2 16 (((10 * (z1 16)) + r2) - 48)) f2) ?_
      refine rc_b (i' := 123) (ls' := [some (vR 0), o1]) (st' := []) (L' := LR (uZ (uZ z2 16 (((10 * (z1 16)) + r2) - 48)) 13 ((z2 13) + 1)) f2) 1 (bc90_269_16 (mcall (d + 2)) ((z2 13) + 1) _ (uZ z2 16 (((10 * (z1 16)) + r2) - 48)) f2) ?_
      refine rc_b (i' := 90) (ls' := [some (vR 0), o1]) (st' := []) (L' := LR (uZ (uZ z2 16 (((10 * (z1 16)) + r2) - 48)) 13 ((z2 13) + 1)) f2) 1 (bc90_269_17 (mcall (d + 2)) o1 _) ?_
      exact H
def RDZ (z z' : Nat → Int32) : Prop := ∀ j, j ≠ 13 → j ≠ 14 → j ≠ 15 → j ≠ 16 → z' j = z j
theorem RDZ.trans {z1 z2 z3 : Nat → Int32} (h1 : RDZ z1 z2) (h2 : RDZ z2 z3) : RDZ z1 z3 := fun j a b c e => (h2 j a b c e).trans (h1 j a b c e)
theorem RDZ.refl (z : Nat → Int32) : RDZ z z := fun _ _ _ _ _ => rfl
theorem RDZ.u {z : Nat → Int32} {j : Nat} {x : Int32} (hj : j = 13 ∨ j = 14 ∨ j = 15 ∨ j = 16) : RDZ z (uZ z j x) := fun i a b c e => uZ_n (by omega)
theorem rawv_ge {z : Nat → Int32} {f : Nat → FA} {s : Nat} (h : 0 ≤ I (rawv z f s)) : (s : Int) < I (z 12) ∧ rawv z f s = f 8 s := by
  unfold rawv at h ⊢
  by_cases c : (s : Int) < I (z 12)
  · rw [if_pos c]; exact ⟨c, rfl⟩
  · rw [if_neg c] at h
    exact absurd h (by decide)
/-- what a token is: where, and whether the tape ended -/
def TOK (t s : Nat) (z z' : Nat → Int32) : Prop := RDZ z z' ∧ ∃ a e, z' 14 = nI a ∧ z' 13 = nI e ∧ s ≤ a ∧ e ≤ max s t ∧ ((z' 15 = 0 ∧ e = a) ∨ (¬ z' 15 = 0 ∧ a < e))
theorem rd51 (d a t : Nat) (f : Nat → FA) (hw : f 9 132 = 32) (ht : t ≤ 400) : ∀ n s, s + n = t → a < s → ∀ z q, z 12 = nI t → z 13 = nI s → z 14 = nI a → ¬ z 15 = 0 → (∀ j, a ≤ j → j < s → ¬ f 8 j = 32) → ∃ z', RC (mcall (d + 2)) (mP 269) 51 [some (vR 0), q] [] (LR z f) (none, LR z' f) ∧ TOK t a z z' := by
  intro n
  induction n using Nat.strongRecOn with
  | _ n ih =>
    intro s hs has z q z12 z13 z14 z15 hL
    have i12 : I (z 12) = t := by rw [z12]; exact I_nI (by omega)
    have hr := raw_r (d + 1) s z f (by omega) (by omega)
    by_cases c : (97 ≤ I (rawv z f s) ∧ I (rawv z f s) ≤ 122) ∨ (65 ≤ I (rawv z f s) ∧ I (rawv z f s) ≤ 90)
    · obtain ⟨c1, c2⟩ := rawv_ge (z := z) (f := f) (s := s) (by omega)
      obtain ⟨z', h1, h2, h3⟩ := ih (n - 1) (by omega) (s + 1) (by omega) (by omega) (uZ z 13 (nI (s + 1))) q (by rw [uZ_n (by decide)]; exact z12) uZ_s (by rw [uZ_n (by decide)]; exact z14) (by rw [uZ_n (by decide)]; exact z15) (fun j h1 h2 => by
        by_cases e : j = s
        · subst e
          rw [← c2]
          intro h3
          rw [h3] at c
          revert c
          decide
        · exact hL j h1 (by omega))
      refine ⟨z', vcc51_269_51 _ _ _ _ _ ⟨rawv z f s, z, f, by rw [z13]; exact hr, fun _ => ?_, fun h => absurd c h⟩, (RDZ.u (Or.inl rfl)).trans h2, h3⟩
      rw [z13, show nI s + 1 = nI (s + 1) from nI_add s 1]
      exact h1
    · obtain ⟨v, hv⟩ := wordAt_r (d + 1) a s z f hw (by omega) (by omega) hL
      by_cases e : v = -1
      · refine ⟨uZ z 16 v, vcc51_269_51 _ _ _ _ _ ⟨rawv z f s, z, f, by rw [z13]; exact hr, fun h => absurd h c, fun _ => ⟨v, z, f, by rw [z13, z14]; exact hv, fun _ => rfl, fun h => absurd e h⟩⟩, RDZ.u (by omega), a, s, ?_, ?_, by omega, by omega, Or.inr ⟨?_, has⟩⟩
        · rw [uZ_n (by decide)]; exact z14
        · rw [uZ_n (by decide)]; exact z13
        · rw [uZ_n (by decide)]; exact z15
      · refine ⟨uZ (uZ z 16 v) 15 2, vcc51_269_51 _ _ _ _ _ ⟨rawv z f s, z, f, by rw [z13]; exact hr, fun h => absurd h c, fun _ => ⟨v, z, f, by rw [z13, z14]; exact hv, fun h => absurd h e, fun _ => rfl⟩⟩, (RDZ.u (by omega)).trans (RDZ.u (by omega)), a, s, ?_, ?_, by omega, by omega, Or.inr ⟨?_, has⟩⟩
        · rw [uZ_n (by decide), uZ_n (by decide)]; exact z14
        · rw [uZ_n (by decide), uZ_n (by decide)]; exact z13
        · rw [uZ_s]; decide
theorem rd90 (d a t : Nat) (f : Nat → FA) (ht : t ≤ 400) : ∀ n s, s + n = t → a < s → ∀ z q, z 12 = nI t → z 13 = nI s → z 14 = nI a → ¬ z 15 = 0 → ∃ z', RC (mcall (d + 2)) (mP 269) 90 [some (vR 0), q] [] (LR z f) (none, LR z' f) ∧ TOK t a z z' := by
  intro n
  induction n using Nat.strongRecOn with
  | _ n ih =>
    intro s hs has z q z12 z13 z14 z15
    have i12 : I (z 12) = t := by rw [z12]; exact I_nI (by omega)
    have hr := raw_r (d + 1) s z f (by omega) (by omega)
    by_cases c : 48 ≤ I (rawv z f s) ∧ I (rawv z f s) ≤ 57
    · obtain ⟨c1, c2⟩ := rawv_ge (z := z) (f := f) (s := s) (by omega)
      have key : ∀ x, ∃ z', RC (mcall (d + 2)) (mP 269) 90 [some (vR 0), q] [] (LR (uZ (uZ z 16 x) 13 (nI (s + 1))) f) (none, LR z' f) ∧ TOK t a z z' := by
        intro x
        obtain ⟨z', h1, h2, h3⟩ := ih (n - 1) (by omega) (s + 1) (by omega) (by omega) (uZ (uZ z 16 x) 13 (nI (s + 1))) q (by rw [uZ_n (by decide), uZ_n (by decide)]; exact z12) uZ_s (by rw [uZ_n (by decide), uZ_n (by decide)]; exact z14) (by rw [uZ_n (by decide), uZ_n (by decide)]; exact z15)
        exact ⟨z', h1, ((RDZ.u (by omega)).trans (RDZ.u (Or.inl rfl))).trans h2, h3⟩
      by_cases c3 : 10000 ≤ I (z 16)
      · obtain ⟨z', h1, h2⟩ := key (z 16)
        refine ⟨z', vcc90_269_90 _ _ _ _ _ ⟨rawv z f s, z, f, by rw [z13]; exact hr, fun _ => ⟨fun _ => ?_, fun h => by omega⟩, fun h => absurd c h⟩, h2⟩
        rw [z13, show nI s + 1 = nI (s + 1) from nI_add s 1]
        exact h1
      · obtain ⟨z', h1, h2⟩ := key (10 * z 16 + rawv z f s - 48)
        refine ⟨z', vcc90_269_90 _ _ _ _ _ ⟨rawv z f s, z, f, by rw [z13]; exact hr, fun _ => ⟨fun h => absurd h c3, fun _ => ⟨rawv z f s, z, f, by rw [z13]; exact hr, ?_⟩⟩, fun h => absurd c h⟩, h2⟩
        rw [z13, show nI s + 1 = nI (s + 1) from nI_add s 1]
        exact h1
    · by_cases c3 : 5 ≤ I (z 13 - z 14)
      · exact ⟨z, vcc90_269_90 _ _ _ _ _ ⟨rawv z f s, z, f, by rw [z13]; exact hr, fun h => absurd h c, fun _ => ⟨fun _ => rfl, fun h => by omega⟩⟩, RDZ.refl z, a, s, z14, z13, by omega, by omega, Or.inr ⟨z15, has⟩⟩
      · refine ⟨uZ z 15 3, vcc90_269_90 _ _ _ _ _ ⟨rawv z f s, z, f, by rw [z13]; exact hr, fun h => absurd h c, fun _ => ⟨fun h => absurd h c3, fun _ => rfl⟩⟩, RDZ.u (by omega), a, s, ?_, ?_, by omega, by omega, Or.inr ⟨?_, has⟩⟩
        · rw [uZ_n (by decide)]; exact z14
        · rw [uZ_n (by decide)]; exact z13
        · rw [uZ_s]; decide
theorem rd0 (d t : Nat) (f : Nat → FA) (hw : f 9 132 = 32) (ht : t ≤ 400) : ∀ n s, n + s = max s t → s ≤ 400 → ∀ z q, z 12 = nI t → z 13 = nI s → ∃ z', RC (mcall (d + 2)) (mP 269) 0 [some (vR 0), q] [] (LR z f) (none, LR z' f) ∧ TOK t s z z' := by
  intro n
  induction n using Nat.strongRecOn with
  | _ n ih =>
    intro s hn hs z q z12 z13
    have i12 : I (z 12) = t := by rw [z12]; exact I_nI (by omega)
    have hr := raw_r (d + 1) s z f (by omega) (by omega)
    have e13 : z 13 + 1 = nI (s + 1) := by rw [z13]; exact nI_add s 1
    by_cases c : rawv z f s = 32 ∨ rawv z f s = 10
    · have h0 : 0 ≤ I (rawv z f s) := by rcases c with c | c <;> rw [c] <;> decide
      obtain ⟨c1, c2⟩ := rawv_ge h0
      obtain ⟨z', h1, h2, a, e, h3, h4, h5, h6, h7⟩ := ih (n - 1) (by omega) (s + 1) (by omega) (by omega) (uZ z 13 (nI (s + 1))) q (by rw [uZ_n (by decide)]; exact z12) uZ_s
      refine ⟨z', vc269_0 _ _ _ _ _ ⟨rawv z f s, z, f, by rw [z13]; exact hr, fun _ => ?_, fun h => ⟨rawv z f s, z, f, by rw [z13]; exact hr, fun h8 => absurd c (fun q => q.elim h h8), fun _ => ?_⟩⟩, (RDZ.u (Or.inl rfl)).trans h2, a, e, h3, h4, by omega, by omega, h7⟩
      · rw [e13]; exact h1
      · rw [e13]; exact h1
    · have n1 : ¬ rawv z f s = 32 := fun h => c (Or.inl h)
      have n2 : ¬ rawv z f s = 10 := fun h => c (Or.inr h)
      -- the token begins here
      have hr2 : mcall (d + 2) 250 [vR 0, vI (z 13)] (LR (uZ (uZ z 14 (z 13)) 15 1) f) = some (some (vI (rawv z f s)), LR (uZ (uZ z 14 (z 13)) 15 1) f) := by
        rw [z13]
        have := raw_r (d + 1) s (uZ (uZ z 14 (nI s)) 15 1) f (by omega) (by rw [uZ_n (by decide), uZ_n (by decide)]; omega)
        exact this
      have pre : ∀ res, ((¬ rawv z f s = -1 → ((((97 ≤ I (rawv z f s) ∧ I (rawv z f s) ≤ 122) ∨ (65 ≤ I (rawv z f s) ∧ I (rawv z f s) ≤ 90)) → RC (mcall (d + 2)) (mP 269) 51 [some (vR 0), some (vI (rawv z f s))] [] (LR (uZ (uZ (uZ (uZ z 14 (z 13)) 15 1) 13 (nI (s + 1))) 16 (rawv z f s)) f) res) ∧ ((¬ ((97 ≤ I (rawv z f s) ∧ I (rawv z f s) ≤ 122) ∨ (65 ≤ I (rawv z f s) ∧ I (rawv z f s) ≤ 90))) → (((48 ≤ I (rawv z f s) ∧ I (rawv z f s) ≤ 57) → RC (mcall (d + 2)) (mP 269) 90 [some (vR 0), some (vI (rawv z f s))] [] (LR (uZ (uZ (uZ (uZ (uZ z 14 (z 13)) 15 1) 13 (nI (s + 1))) 16 (rawv z f s)) 16 (rawv z f s - 48)) f) res) ∧ ((¬ (48 ≤ I (rawv z f s) ∧ I (rawv z f s) ≤ 57)) → (((rawv z f s = 59 ∨ rawv z f s = 43 ∨ rawv z f s = 45 ∨ rawv z f s = 42 ∨ rawv z f s = 47 ∨ rawv z f s = 40 ∨ rawv z f s = 41 ∨ rawv z f s = 60 ∨ rawv z f s = 61 ∨ rawv z f s = 62) → res = (none, LR (uZ (uZ (uZ (uZ (uZ z 14 (z 13)) 15 1) 13 (nI (s + 1))) 16 (rawv z f s)) 15 4) f)) ∧ ((¬ (rawv z f s = 59 ∨ rawv z f s = 43 ∨ rawv z f s = 45 ∨ rawv z f s = 42 ∨ rawv z f s = 47 ∨ rawv z f s = 40 ∨ rawv z f s = 41 ∨ rawv z f s = 60 ∨ rawv z f s = 61 ∨ rawv z f s = 62)) → res = (none, LR (uZ (uZ (uZ (uZ z 14 (z 13)) 15 1) 13 (nI (s + 1))) 16 (rawv z f s)) f)))))))) ∧ (rawv z f s = -1 → res = (none, LR (uZ (uZ (uZ z 14 (z 13)) 15 1) 15 0) f))) → RC (mcall (d + 2)) (mP 269) 0 [some (vR 0), q] [] (LR z f) res := by
        intro res H
        refine vc269_0 _ _ _ _ _ ⟨rawv z f s, z, f, by rw [z13]; exact hr, fun h => absurd h n1, fun _ => ⟨rawv z f s, z, f, by rw [z13]; exact hr, fun _ => ⟨rawv z f s, uZ (uZ z 14 (z 13)) 15 1, f, hr2, ?_⟩, fun h => absurd h n2⟩⟩
        rw [show (uZ (uZ z 14 (z 13)) 15 1 13) + 1 = nI (s + 1) by rw [uZ_n (by decide), uZ_n (by decide)]; exact e13]
        exact H
      by_cases m1 : rawv z f s = -1
      · refine ⟨uZ (uZ (uZ z 14 (z 13)) 15 1) 15 0, pre _ ⟨fun h => absurd m1 h, fun _ => rfl⟩, ((RDZ.u (by omega)).trans (RDZ.u (by omega))).trans (RDZ.u (by omega)), s, s, ?_, ?_, by omega, by omega, Or.inl ⟨uZ_s, rfl⟩⟩
        · rw [uZ_n (by decide), uZ_n (by decide), uZ_s]; exact z13
        · rw [uZ_n (by decide), uZ_n (by decide), uZ_n (by decide)]; exact z13
      · have hst : s < t := by
          rcases Nat.lt_or_ge s t with h | h
          · exact h
          · exact absurd (by unfold rawv; rw [if_neg (by omega)]) m1
        have z0 : RDZ z (uZ (uZ (uZ (uZ z 14 (z 13)) 15 1) 13 (nI (s + 1))) 16 (rawv z f s)) := (((RDZ.u (by omega)).trans (RDZ.u (by omega))).trans (RDZ.u (by omega))).trans (RDZ.u (by omega))
        by_cases m2 : (97 ≤ I (rawv z f s) ∧ I (rawv z f s) ≤ 122) ∨ (65 ≤ I (rawv z f s) ∧ I (rawv z f s) ≤ 90)
        · obtain ⟨z', h1, h2, h3⟩ := rd51 d s t f hw ht (t - (s + 1)) (s + 1) (by omega) (by omega) (uZ (uZ (uZ (uZ z 14 (z 13)) 15 1) 13 (nI (s + 1))) 16 (rawv z f s)) (some (vI (rawv z f s))) (by rw [uZ_n (by decide), uZ_n (by decide), uZ_n (by decide), uZ_n (by decide)]; exact z12) (by rw [uZ_n (by decide), uZ_s]) (by rw [uZ_n (by decide), uZ_n (by decide), uZ_n (by decide), uZ_s]; exact z13) (by rw [uZ_n (by decide), uZ_n (by decide), uZ_s]; decide) (fun j h1 h2 => by
            obtain rfl : j = s := by omega
            rw [← (rawv_ge (z := z) (f := f) (s := j) (by omega)).2]
            exact n1)
          exact ⟨z', pre _ ⟨fun _ => ⟨fun _ => h1, fun h => absurd m2 h⟩, fun h => absurd h m1⟩, z0.trans h2, h3⟩
        · by_cases m3 : 48 ≤ I (rawv z f s) ∧ I (rawv z f s) ≤ 57
          · obtain ⟨z', h1, h2, h3⟩ := rd90 d s t f ht (t - (s + 1)) (s + 1) (by omega) (by omega) (uZ (uZ (uZ (uZ (uZ z 14 (z 13)) 15 1) 13 (nI (s + 1))) 16 (rawv z f s)) 16 (rawv z f s - 48)) (some (vI (rawv z f s))) (by rw [uZ_n (by decide), uZ_n (by decide), uZ_n (by decide), uZ_n (by decide), uZ_n (by decide)]; exact z12) (by rw [uZ_n (by decide), uZ_n (by decide), uZ_s]) (by rw [uZ_n (by decide), uZ_n (by decide), uZ_n (by decide), uZ_n (by decide), uZ_s]; exact z13) (by rw [uZ_n (by decide), uZ_n (by decide), uZ_n (by decide), uZ_s]; decide)
            exact ⟨z', pre _ ⟨fun _ => ⟨fun h => absurd h m2, fun _ => ⟨fun _ => h1, fun h => absurd m3 h⟩⟩, fun h => absurd h m1⟩, (z0.trans (RDZ.u (by omega))).trans h2, h3⟩
          · by_cases m4 : rawv z f s = 59 ∨ rawv z f s = 43 ∨ rawv z f s = 45 ∨ rawv z f s = 42 ∨ rawv z f s = 47 ∨ rawv z f s = 40 ∨ rawv z f s = 41 ∨ rawv z f s = 60 ∨ rawv z f s = 61 ∨ rawv z f s = 62
            · refine ⟨_, pre _ ⟨fun _ => ⟨fun h => absurd h m2, fun _ => ⟨fun h => absurd h m3, fun _ => ⟨fun _ => rfl, fun h => absurd m4 h⟩⟩⟩, fun h => absurd h m1⟩, z0.trans (RDZ.u (by omega)), s, s + 1, ?_, ?_, by omega, by omega, Or.inr ⟨?_, by omega⟩⟩
              · rw [uZ_n (by decide), uZ_n (by decide), uZ_n (by decide), uZ_n (by decide), uZ_s]; exact z13
              · rw [uZ_n (by decide), uZ_n (by decide), uZ_s]
              · rw [uZ_s]; decide
            · refine ⟨_, pre _ ⟨fun _ => ⟨fun h => absurd h m2, fun _ => ⟨fun h => absurd h m3, fun _ => ⟨fun h => absurd h m4, fun _ => rfl⟩⟩⟩, fun h => absurd h m1⟩, z0, s, s + 1, ?_, ?_, by omega, by omega, Or.inr ⟨?_, by omega⟩⟩
              · rw [uZ_n (by decide), uZ_n (by decide), uZ_n (by decide), uZ_s]; exact z13
              · rw [uZ_n (by decide), uZ_s]
              · rw [uZ_n (by decide), uZ_n (by decide), uZ_s]; decide
theorem reads_r (d t s : Nat) (z : Nat → Int32) (f : Nat → FA) (hw : f 9 132 = 32) (ht : t ≤ 400) (hs : s ≤ 400) (z12 : z 12 = nI t) (z13 : z 13 = nI s) : ∃ z', mcall (d + 3) 269 [vR 0] (LR z f) = some (none, LR z' f) ∧ TOK t s z z' := by
  obtain ⟨z', h1, h2⟩ := rd0 d t f hw ht (max s t - s) s (by omega) hs z none z12 z13
  exact ⟨z', mcall_i (mq269 (cu := [])).2.2 rfl h1, h2⟩
