/-! middle of the reference, and the pair -/
theorem greater_x (d0 : Nat) (x y : Int32) (z : Nat → Int32) (f : Nat → FA) : mcall (d0 + 1) 68 [vR 0, vI x, vI y] (LR z f) = some (some (vI (if I y < I x then x else y)), LR z f) := by
  have go : ∀ res, _ → mcall (d0 + 1) 68 [vR 0, vI x, vI y] (LR z f) = some res := fun res H => mcall_i (mq68 (cu := [])).2.2 rfl (vc68_0 (mcall d0) x y z f res H)
  refine go _ ?_
  first
    | exact ⟨fun q => by rw [if_pos (by omega)], fun q => by rw [if_neg (by omega)]⟩
    | exact ⟨fun q => by rw [if_neg (by omega)], fun q => by rw [if_pos (by omega)]⟩
set_option maxRecDepth 100000 in
theorem b240_1 (call : QC FA) (o1 : Option PV) (o2 : Option PV) (o3 : Option PV) (z : Nat → Int32) (f : Nat → FA) (F : Nat) : rnG call 240 (F + 2) 0 [some (vR 0), o1, o2, o3] [] (LR z f) = rnG call 240 F 2 [some (vR 0), o1, o2, o3] [vI (z 50)] (LR z f) := rfl
set_option maxRecDepth 100000 in
theorem b240_2 (call : QC FA) (x : Int32) (ls : List (Option PV)) (L : QH FA) (F : Nat) : rnG call 240 (F + 1) 2 ls [vI x] L = bif pcmp 1 x 0 then rnG call 240 F 5 ls [] L else rnG call 240 F 3 ls [] L := rfl
set_option maxRecDepth 100000 in
theorem b240_3 (call : QC FA) (o1 : Option PV) (o2 : Option PV) (o3 : Option PV) (L : QH FA) (F : Nat) : rnG call 240 (F + 2) 5 [some (vR 0), o1, o2, o3] [] L = rnG call 240 F 7 [some (vR 0), some (vI 0), o2, o3] [] L := rfl
set_option maxRecDepth 100000 in
theorem b240_4 (call : QC FA) (o1 : Option PV) (o2 : Option PV) (o3 : Option PV) (L : QH FA) (F : Nat) : rnG call 240 (F + 1) 3 [some (vR 0), o1, o2, o3] [] L = rnG call 240 F 4 [some (vR 0), o1, o2, o3] [vI ((-1))] L := rfl
set_option maxRecDepth 100000 in
theorem b240_5 (call : QC FA) (x : Int32) (ls : List (Option PV)) (L : QH FA) (F : Nat) : rnG call 240 (F + 1) 4 ls [vI x] L = some (some (vI x), L) := rfl
theorem vc240_0 (call : QC FA) (o1 : Option PV) (o2 : Option PV) (o3 : Option PV) (z : Nat → Int32) (f : Nat → FA) (res : Option PV × QH FA) (H : ((¬ z 50 = 0 → RC call (mP 240) 7 [some (vR 0), some (vI 0), o2, o3] [] (LR z f) res) ∧ (z 50 = 0 → res = (some (vI ((-1))), LR z f)))) : RC call (mP 240) 0 [some (vR 0), o1, o2, o3] [] (LR z f) res := by
  refine rc_b (i' := 2) (ls' := [some (vR 0), o1, o2, o3]) (st' := [vI (z 50)]) (L' := LR z f) 2 (b240_1 call o1 o2 o3 z f) ?_
  refine rc_if (it := 5) (ie := 3) (ls' := [some (vR 0), o1, o2, o3]) (st' := []) (b240_2 call (z 50) _ _) (fun q1 => ?_) (fun q1 => ?_)
  · have H := H.1 (cI1t q1)
    refine rc_b (i' := 7) (ls' := [some (vR 0), some (vI 0), o2, o3]) (st' := []) (L' := LR z f) 2 (b240_3 call o1 o2 o3 _) ?_
    exact H
  · have H := H.2 (cI1f q1)
    refine rc_b (i' := 4) (ls' := [some (vR 0), o1, o2, o3]) (st' := [vI ((-1))]) (L' := LR z f) 1 (b240_4 call o1 o2 o3 _) ?_
    subst H
    exact rc_ret (b240_5 call _ _ _)
set_option maxRecDepth 100000 in
theorem bc7_240_1 (call : QC FA) (x1 : Int32) (o2 : Option PV) (o3 : Option PV) (L : QH FA) (F : Nat) : rnG call 240 (F + 4) 7 [some (vR 0), some (vI x1), o2, o3] [] L = rnG call 240 F 11 [some (vR 0), some (vI x1), some (vI 0), some (vI 0)] [] L := rfl
theorem vcc7_240_7 (call : QC FA) (x1 : Int32) (o2 : Option PV) (o3 : Option PV) (z : Nat → Int32) (f : Nat → FA) (res : Option PV × QH FA) (H : RC call (mP 240) 11 [some (vR 0), some (vI x1), some (vI 0), some (vI 0)] [] (LR z f) res) : RC call (mP 240) 7 [some (vR 0), some (vI x1), o2, o3] [] (LR z f) res := by
  refine rc_b (i' := 11) (ls' := [some (vR 0), some (vI x1), some (vI 0), some (vI 0)]) (st' := []) (L' := LR z f) 4 (bc7_240_1 call x1 o2 o3 _) ?_
  exact H
set_option maxRecDepth 100000 in
theorem bc11_240_1 (call : QC FA) (x1 : Int32) (x2 : Int32) (x3 : Int32) (z : Nat → Int32) (f : Nat → FA) (F : Nat) : rnG call 240 (F + 3) 11 [some (vR 0), some (vI x1), some (vI x2), some (vI x3)] [] (LR z f) = rnG call 240 F 14 [some (vR 0), some (vI x1), some (vI x2), some (vI x3)] [vI (z 50), vI x3] (LR z f) := rfl
set_option maxRecDepth 100000 in
theorem bc11_240_2 (call : QC FA) (x y : Int32) (ls : List (Option PV)) (L : QH FA) (F : Nat) : rnG call 240 (F + 1) 14 ls [vI y, vI x] L = bif pcmp 3 x y then rnG call 240 F 27 ls [] L else rnG call 240 F 15 ls [] L := rfl
set_option maxRecDepth 100000 in
theorem bc11_240_3 (call : QC FA) (x1 : Int32) (x2 : Int32) (x3 : Int32) (z : Nat → Int32) (f : Nat → FA) (F : Nat) : rnG call 240 (F + 5) 27 [some (vR 0), some (vI x1), some (vI x2), some (vI x3)] [] (LR z f) = rnG call 240 F 32 [some (vR 0), some (vI x1), some (vI x2), some (vI x3)] [vI (z 50), vI (2 * x2)] (LR z f) := rfl
set_option maxRecDepth 100000 in
theorem bc11_240_4 (call : QC FA) (x y : Int32) (ls : List (Option PV)) (L : QH FA) (F : Nat) : rnG call 240 (F + 1) 32 ls [vI y, vI x] L = bif pcmp 2 x y then rnG call 240 F 35 ls [] L else rnG call 240 F 33 ls [] L := rfl
set_option maxRecDepth 100000 in
theorem bc11_240_5 (call : QC FA) (x1 : Int32) (x2 : Int32) (x3 : Int32) (L : QH FA) (F : Nat) : rnG call 240 (F + 5) 35 [some (vR 0), some (vI x1), some (vI x2), some (vI x3)] [] L = rnG call 240 F 7 [some (vR 0), some (vI (x1 + 1)), some (vI x2), some (vI x3)] [] L := rfl
set_option maxRecDepth 100000 in
theorem bc11_240_6 (call : QC FA) (x1 : Int32) (x2 : Int32) (x3 : Int32) (L : QH FA) (F : Nat) : rnG call 240 (F + 1) 33 [some (vR 0), some (vI x1), some (vI x2), some (vI x3)] [] L = rnG call 240 F 34 [some (vR 0), some (vI x1), some (vI x2), some (vI x3)] [vI x1] L := rfl
set_option maxRecDepth 100000 in
theorem bc11_240_7 (call : QC FA) (x : Int32) (ls : List (Option PV)) (L : QH FA) (F : Nat) : rnG call 240 (F + 1) 34 ls [vI x] L = some (some (vI x), L) := rfl
set_option maxRecDepth 100000 in
theorem bc11_240_8 (call : QC FA) (x1 : Int32) (x2 : Int32) (x3 : Int32) (z : Nat → Int32) (f : Nat → FA) (F : Nat) : rnG call 240 (F + 3) 15 [some (vR 0), some (vI x1), some (vI x2), some (vI x3)] [] (LR z f) = rnG call 240 F 18 [some (vR 0), some (vI x1), some (vI x2), some (vI x3)] [vI x3, vR 29] (LR z f) := rfl
set_option maxRecDepth 100000 in
theorem bc11_240_9 (call : QC FA) (x : Int32) (ls : List (Option PV)) (z : Nat → Int32) (f : Nat → FA) (F : Nat) : rnG call 240 (F + 1) 18 ls [vI x, vR 29] (LR z f) = bif (Nat.beq 0 0 && pin x 15) then rnG call 240 F 19 ls [vI (f 29 (ix x))] (LR z f) else none := rfl
set_option maxRecDepth 100000 in
theorem bc11_240_10 (call : QC FA) (x1 : Int32) (x2 : Int32) (x3 : Int32) (s0 : Int32) (L : QH FA) (F : Nat) : rnG call 240 (F + 1) 19 [some (vR 0), some (vI x1), some (vI x2), some (vI x3)] [vI s0] L = rnG call 240 F 20 [some (vR 0), some (vI x1), some (vI x2), some (vI x3)] [vI x1, vI s0] L := rfl
set_option maxRecDepth 100000 in
theorem bc11_240_11 (call : QC FA) (x y : Int32) (ls : List (Option PV)) (L : QH FA) (F : Nat) : rnG call 240 (F + 1) 20 ls [vI y, vI x] L = bif pcmp 4 x y then rnG call 240 F 25 ls [] L else rnG call 240 F 21 ls [] L := rfl
set_option maxRecDepth 100000 in
theorem bc11_240_12 (call : QC FA) (x1 : Int32) (x2 : Int32) (x3 : Int32) (L : QH FA) (F : Nat) : rnG call 240 (F + 1) 25 [some (vR 0), some (vI x1), some (vI x2), some (vI x3)] [] L = rnG call 240 F 26 [some (vR 0), some (vI x1), some (vI x2), some (vI (x3 + 1))] [] L := rfl
set_option maxRecDepth 100000 in
theorem bc11_240_13 (call : QC FA) (x1 : Int32) (x2 : Int32) (x3 : Int32) (L : QH FA) (F : Nat) : rnG call 240 (F + 1) 26 [some (vR 0), some (vI x1), some (vI x2), some (vI x3)] [] L = rnG call 240 F 11 [some (vR 0), some (vI x1), some (vI x2), some (vI x3)] [] L := rfl
set_option maxRecDepth 100000 in
theorem bc11_240_14 (call : QC FA) (x1 : Int32) (x2 : Int32) (x3 : Int32) (L : QH FA) (F : Nat) : rnG call 240 (F + 4) 21 [some (vR 0), some (vI x1), some (vI x2), some (vI x3)] [] L = rnG call 240 F 25 [some (vR 0), some (vI x1), some (vI (x2 + 1)), some (vI x3)] [] L := rfl
theorem vcc11_240_11 (call : QC FA) (x1 : Int32) (x2 : Int32) (x3 : Int32) (z : Nat → Int32) (f : Nat → FA) (res : Option PV × QH FA) (H : ((I (z 50) ≤ I x3 → ((I (2 * x2) < I (z 50) → RC call (mP 240) 7 [some (vR 0), some (vI (x1 + 1)), some (vI x2), some (vI x3)] [] (LR z f) res) ∧ (I (z 50) ≤ I (2 * x2) → res = (some (vI x1), LR z f)))) ∧ (I x3 < I (z 50) → (pin x3 15 = true ∧ ((I x1 < I (f 29 (ix x3)) → RC call (mP 240) 11 [some (vR 0), some (vI x1), some (vI x2), some (vI (x3 + 1))] [] (LR z f) res) ∧ (I (f 29 (ix x3)) ≤ I x1 → RC call (mP 240) 11 [some (vR 0), some (vI x1), some (vI (x2 + 1)), some (vI (x3 + 1))] [] (LR z f) res)))))) : RC call (mP 240) 11 [some (vR 0), some (vI x1), some (vI x2), some (vI x3)] [] (LR z f) res := by
  refine rc_b (i' := 14) (ls' := [some (vR 0), some (vI x1), some (vI x2), some (vI x3)]) (st' := [vI (z 50), vI x3]) (L' := LR z f) 3 (bc11_240_1 call x1 x2 x3 z f) ?_
  refine rc_if (it := 27) (ie := 15) (ls' := [some (vR 0), some (vI x1), some (vI x2), some (vI x3)]) (st' := []) (bc11_240_2 call x3 (z 50) _ _) (fun q1 => ?_) (fun q1 => ?_)
  · have H := H.1 (cI3t q1 rfl rfl)
    refine rc_b (i' := 32) (ls' := [some (vR 0), some (vI x1), some (vI x2), some (vI x3)]) (st' := [vI (z 50), vI (2 * x2)]) (L' := LR z f) 5 (bc11_240_3 call x1 x2 x3 z f) ?_
    refine rc_if (it := 35) (ie := 33) (ls' := [some (vR 0), some (vI x1), some (vI x2), some (vI x3)]) (st' := []) (bc11_240_4 call (2 * x2) (z 50) _ _) (fun q2 => ?_) (fun q2 => ?_)
    · have H := H.1 (cI2t q2 rfl rfl)
      refine rc_b (i' := 7) (ls' := [some (vR 0), some (vI (x1 + 1)), some (vI x2), some (vI x3)]) (st' := []) (L' := LR z f) 5 (bc11_240_5 call x1 x2 x3 _) ?_
      exact H
    · have H := H.2 (cI2f q2 rfl rfl)
      refine rc_b (i' := 34) (ls' := [some (vR 0), some (vI x1), some (vI x2), some (vI x3)]) (st' := [vI x1]) (L' := LR z f) 1 (bc11_240_6 call x1 x2 x3 _) ?_
      subst H
      exact rc_ret (bc11_240_7 call _ _ _)
  · have H := H.2 (cI3f q1 rfl rfl)
    refine rc_b (i' := 18) (ls' := [some (vR 0), some (vI x1), some (vI x2), some (vI x3)]) (st' := [vI x3, vR 29]) (L' := LR z f) 3 (bc11_240_8 call x1 x2 x3 z f) ?_
    obtain ⟨g1, H⟩ := H
    refine rc_g (i' := 19) (ls' := [some (vR 0), some (vI x1), some (vI x2), some (vI x3)]) (st' := [vI (f 29 (ix x3))]) (L' := LR z f) (bc11_240_9 call x3 _ z f) (pinG g1) ?_
    refine rc_b (i' := 20) (ls' := [some (vR 0), some (vI x1), some (vI x2), some (vI x3)]) (st' := [vI x1, vI (f 29 (ix x3))]) (L' := LR z f) 1 (bc11_240_10 call x1 x2 x3 (f 29 (ix x3)) _) ?_
    refine rc_if (it := 25) (ie := 21) (ls' := [some (vR 0), some (vI x1), some (vI x2), some (vI x3)]) (st' := []) (bc11_240_11 call (f 29 (ix x3)) x1 _ _) (fun q3 => ?_) (fun q3 => ?_)
    · have H := H.1 (cI4t q3 rfl rfl)
      refine rc_b (i' := 26) (ls' := [some (vR 0), some (vI x1), some (vI x2), some (vI (x3 + 1))]) (st' := []) (L' := LR z f) 1 (bc11_240_12 call x1 x2 x3 _) ?_
      refine rc_b (i' := 11) (ls' := [some (vR 0), some (vI x1), some (vI x2), some (vI (x3 + 1))]) (st' := []) (L' := LR z f) 1 (bc11_240_13 call x1 x2 (x3 + 1) _) ?_
      exact H
    · have H := H.2 (cI4f q3 rfl rfl)
      refine rc_b (i' := 25) (ls' := [some (vR 0), some (vI x1), some (vI (x2 + 1)), some (vI x3)]) (st' := []) (L' := LR z f) 4 (bc11_240_14 call x1 x2 x3 _) ?_
      refine rc_b (i' := 26) (ls' := [some (vR 0), some (vI x1), some (vI (x2 + 1)), some (vI (x3 + 1))]) (st' := []) (L' := LR z f) 1 (bc11_240_12 call x1 (x2 + 1) x3 _) ?_
      refine rc_b (i' := 11) (ls' := [some (vR 0), some (vI x1), some (vI (x2 + 1)), some (vI (x3 + 1))]) (st' := []) (L' := LR z f) 1 (bc11_240_13 call x1 (x2 + 1) (x3 + 1) _) ?_
      exact H
set_option maxRecDepth 100000 in
theorem b200_1 (call : QC FA) (x1 : Int32) (o2 : Option PV) (o3 : Option PV) (o4 : Option PV) (o5 : Option PV) (o6 : Option PV) (L : QH FA) (F : Nat) : rnG call 200 (F + 6) 0 [some (vR 0), some (vI x1), o2, o3, o4, o5, o6] [] L = rnG call 200 F 6 [some (vR 0), some (vI x1), some (vI 0), some (vI ((-1))), some (vI 0), o5, o6] [] L := rfl
theorem vc200_0 (d : Nat) (x1 : Int32) (o2 : Option PV) (o3 : Option PV) (o4 : Option PV) (o5 : Option PV) (o6 : Option PV) (z : Nat → Int32) (f : Nat → FA) (res : Option PV × QH FA) (H : RC (mcall (d + 1)) (mP 200) 6 [some (vR 0), some (vI x1), some (vI 0), some (vI ((-1))), some (vI 0), o5, o6] [] (LR z f) res) : RC (mcall (d + 1)) (mP 200) 0 [some (vR 0), some (vI x1), o2, o3, o4, o5, o6] [] (LR z f) res := by
  refine rc_b (i' := 6) (ls' := [some (vR 0), some (vI x1), some (vI 0), some (vI ((-1))), some (vI 0), o5, o6]) (st' := []) (L' := LR z f) 6 (b200_1 (mcall (d + 1)) x1 o2 o3 o4 o5 o6 _) ?_
  exact H
set_option maxRecDepth 100000 in
theorem bc6_200_1 (call : QC FA) (x1 : Int32) (x2 : Int32) (x3 : Int32) (x4 : Int32) (o5 : Option PV) (o6 : Option PV) (L : QH FA) (F : Nat) : rnG call 200 (F + 2) 6 [some (vR 0), some (vI x1), some (vI x2), some (vI x3), some (vI x4), o5, o6] [] L = rnG call 200 F 8 [some (vR 0), some (vI x1), some (vI x2), some (vI x3), some (vI x4), o5, o6] [vI 10, vI x4] L := rfl
set_option maxRecDepth 100000 in
theorem bc6_200_2 (call : QC FA) (x y : Int32) (ls : List (Option PV)) (L : QH FA) (F : Nat) : rnG call 200 (F + 1) 8 ls [vI y, vI x] L = bif pcmp 3 x y then rnG call 200 F 44 ls [] L else rnG call 200 F 9 ls [] L := rfl
set_option maxRecDepth 100000 in
theorem bc6_200_3 (call : QC FA) (x1 : Int32) (x2 : Int32) (x3 : Int32) (x4 : Int32) (o5 : Option PV) (o6 : Option PV) (L : QH FA) (F : Nat) : rnG call 200 (F + 1) 44 [some (vR 0), some (vI x1), some (vI x2), some (vI x3), some (vI x4), o5, o6] [] L = rnG call 200 F 45 [some (vR 0), some (vI x1), some (vI x2), some (vI x3), some (vI x4), o5, o6] [vI x1] L := rfl
set_option maxRecDepth 100000 in
theorem bc6_200_4 (call : QC FA) (x : Int32) (ls : List (Option PV)) (L : QH FA) (F : Nat) : rnG call 200 (F + 1) 45 ls [vI x] L = bif pcmp 0 x 0 then rnG call 200 F 48 ls [] L else rnG call 200 F 46 ls [] L := rfl
set_option maxRecDepth 100000 in
theorem bc6_200_5 (call : QC FA) (x1 : Int32) (x2 : Int32) (x3 : Int32) (x4 : Int32) (o5 : Option PV) (o6 : Option PV) (L : QH FA) (F : Nat) : rnG call 200 (F + 1) 48 [some (vR 0), some (vI x1), some (vI x2), some (vI x3), some (vI x4), o5, o6] [] L = rnG call 200 F 49 [some (vR 0), some (vI x1), some (vI x2), some (vI x3), some (vI x4), o5, o6] [vI x2] L := rfl
set_option maxRecDepth 100000 in
theorem bc6_200_6 (call : QC FA) (x : Int32) (ls : List (Option PV)) (L : QH FA) (F : Nat) : rnG call 200 (F + 1) 49 ls [vI x] L = some (some (vI x), L) := rfl
set_option maxRecDepth 100000 in
theorem bc6_200_7 (call : QC FA) (x1 : Int32) (x2 : Int32) (x3 : Int32) (x4 : Int32) (o5 : Option PV) (o6 : Option PV) (L : QH FA) (F : Nat) : rnG call 200 (F + 2) 46 [some (vR 0), some (vI x1), some (vI x2), some (vI x3), some (vI x4), o5, o6] [] L = rnG call 200 F 49 [some (vR 0), some (vI x1), some (vI x2), some (vI x3), some (vI x4), o5, o6] [vI x3] L := rfl
set_option maxRecDepth 100000 in
theorem bc6_200_8 (call : QC FA) (x1 : Int32) (x2 : Int32) (x3 : Int32) (x4 : Int32) (o5 : Option PV) (o6 : Option PV) (L : QH FA) (F : Nat) : rnG call 200 (F + 4) 9 [some (vR 0), some (vI x1), some (vI x2), some (vI x3), some (vI x4), o5, o6] [] L = rnG call 200 F 13 [some (vR 0), some (vI x1), some (vI x2), some (vI x3), some (vI x4), some (vI 0), some (vI 0)] [] L := rfl
theorem vcc6_200_6 (d : Nat) (x1 : Int32) (x2 : Int32) (x3 : Int32) (x4 : Int32) (o5 : Option PV) (o6 : Option PV) (z : Nat → Int32) (f : Nat → FA) (res : Option PV × QH FA) (H : ((10 ≤ I x4 → ((x1 = 0 → res = (some (vI x2), LR z f)) ∧ (¬ x1 = 0 → res = (some (vI x3), LR z f)))) ∧ (I x4 < 10 → RC (mcall (d + 1)) (mP 200) 13 [some (vR 0), some (vI x1), some (vI x2), some (vI x3), some (vI x4), some (vI 0), some (vI 0)] [] (LR z f) res))) : RC (mcall (d + 1)) (mP 200) 6 [some (vR 0), some (vI x1), some (vI x2), some (vI x3), some (vI x4), o5, o6] [] (LR z f) res := by
  refine rc_b (i' := 8) (ls' := [some (vR 0), some (vI x1), some (vI x2), some (vI x3), some (vI x4), o5, o6]) (st' := [vI 10, vI x4]) (L' := LR z f) 2 (bc6_200_1 (mcall (d + 1)) x1 x2 x3 x4 o5 o6 _) ?_
  refine rc_if (it := 44) (ie := 9) (ls' := [some (vR 0), some (vI x1), some (vI x2), some (vI x3), some (vI x4), o5, o6]) (st' := []) (bc6_200_2 (mcall (d + 1)) x4 10 _ _) (fun q1 => ?_) (fun q1 => ?_)
  · have H := H.1 (cI3t q1 rfl rfl)
    refine rc_b (i' := 45) (ls' := [some (vR 0), some (vI x1), some (vI x2), some (vI x3), some (vI x4), o5, o6]) (st' := [vI x1]) (L' := LR z f) 1 (bc6_200_3 (mcall (d + 1)) x1 x2 x3 x4 o5 o6 _) ?_
    refine rc_if (it := 48) (ie := 46) (ls' := [some (vR 0), some (vI x1), some (vI x2), some (vI x3), some (vI x4), o5, o6]) (st' := []) (bc6_200_4 (mcall (d + 1)) x1 _ _) (fun q2 => ?_) (fun q2 => ?_)
    · have H := H.1 (cI0t q2)
      refine rc_b (i' := 49) (ls' := [some (vR 0), some (vI x1), some (vI x2), some (vI x3), some (vI x4), o5, o6]) (st' := [vI x2]) (L' := LR z f) 1 (bc6_200_5 (mcall (d + 1)) x1 x2 x3 x4 o5 o6 _) ?_
      subst H
      exact rc_ret (bc6_200_6 (mcall (d + 1)) _ _ _)
    · have H := H.2 (cI0f q2)
      refine rc_b (i' := 49) (ls' := [some (vR 0), some (vI x1), some (vI x2), some (vI x3), some (vI x4), o5, o6]) (st' := [vI x3]) (L' := LR z f) 2 (bc6_200_7 (mcall (d + 1)) x1 x2 x3 x4 o5 o6 _) ?_
      subst H
      exact rc_ret (bc6_200_6 (mcall (d + 1)) _ _ _)
  · have H := H.2 (cI3f q1 rfl rfl)
    refine rc_b (i' := 13) (ls' := [some (vR 0), some (vI x1), some (vI x2), some (vI x3), some (vI x4), some (vI 0), some (vI 0)]) (st' := []) (L' := LR z f) 4 (bc6_200_8 (mcall (d + 1)) x1 x2 x3 x4 o5 o6 _) ?_
    exact H
set_option maxRecDepth 100000 in
theorem bc13_200_1 (call : QC FA) (x1 : Int32) (x2 : Int32) (x3 : Int32) (x4 : Int32) (x5 : Int32) (x6 : Int32) (z : Nat → Int32) (f : Nat → FA) (F : Nat) : rnG call 200 (F + 3) 13 [some (vR 0), some (vI x1), some (vI x2), some (vI x3), some (vI x4), some (vI x5), some (vI x6)] [] (LR z f) = rnG call 200 F 16 [some (vR 0), some (vI x1), some (vI x2), some (vI x3), some (vI x4), some (vI x5), some (vI x6)] [vI (z 52), vI x6] (LR z f) := rfl
set_option maxRecDepth 100000 in
theorem bc13_200_2 (call : QC FA) (x y : Int32) (ls : List (Option PV)) (L : QH FA) (F : Nat) : rnG call 200 (F + 1) 16 ls [vI y, vI x] L = bif pcmp 3 x y then rnG call 200 F 29 ls [] L else rnG call 200 F 17 ls [] L := rfl
set_option maxRecDepth 100000 in
theorem bc13_200_3 (call : QC FA) (x1 : Int32) (x2 : Int32) (x3 : Int32) (x4 : Int32) (x5 : Int32) (x6 : Int32) (z : Nat → Int32) (f : Nat → FA) (F : Nat) : rnG call 200 (F + 5) 29 [some (vR 0), some (vI x1), some (vI x2), some (vI x3), some (vI x4), some (vI x5), some (vI x6)] [] (LR z f) = rnG call 200 F 34 [some (vR 0), some (vI x1), some (vI x2), some (vI x3), some (vI x4), some (vI x5), some (vI x6)] [vI (z 52), vI (2 * x5)] (LR z f) := rfl
set_option maxRecDepth 100000 in
theorem bc13_200_4 (call : QC FA) (x y : Int32) (ls : List (Option PV)) (L : QH FA) (F : Nat) : rnG call 200 (F + 1) 34 ls [vI y, vI x] L = bif pcmp 5 x y then rnG call 200 F 37 ls [] L else rnG call 200 F 35 ls [] L := rfl
set_option maxRecDepth 100000 in
theorem bc13_200_5 (call : QC FA) (x1 : Int32) (x2 : Int32) (x3 : Int32) (x4 : Int32) (x5 : Int32) (x6 : Int32) (L : QH FA) (F : Nat) : rnG call 200 (F + 3) 37 [some (vR 0), some (vI x1), some (vI x2), some (vI x3), some (vI x4), some (vI x5), some (vI x6)] [] L = rnG call 200 F 40 [some (vR 0), some (vI x1), some (vI x2), some (vI x3), some (vI x4), some (vI x5), some (vI x6)] [vI x5, vI x2, vR 0] L := rfl
set_option maxRecDepth 100000 in
theorem bc13_200_6 (call : QC FA) (a0 : Int32) (a1 : Int32) (ls : List (Option PV)) (z : Nat → Int32) (f : Nat → FA) (F : Nat) : rnG call 200 (F + 1) 40 ls [vI a1, vI a0, vR 0] (LR z f) = cbd (call 68 [vR 0, vI a0, vI a1] (LR z f)) (fun r L' => rnG call 200 F 41 ls (r.toList ++ []) L') := pcY (ih := rnG call 200 F) (call := call) (a := 68) (b := 2) (v := 12) (t := 41) (x := 0) (ls := ls) (As := [vI a0, vI a1]) (st' := []) (L := LR z f) rfl rfl rfl
set_option maxRecDepth 100000 in
theorem bc13_200_7 (call : QC FA) (x1 : Int32) (x2 : Int32) (x3 : Int32) (x4 : Int32) (x5 : Int32) (x6 : Int32) (s0 : Int32) (L : QH FA) (F : Nat) : rnG call 200 (F + 1) 41 [some (vR 0), some (vI x1), some (vI x2), some (vI x3), some (vI x4), some (vI x5), some (vI x6)] [vI s0] L = rnG call 200 F 42 [some (vR 0), some (vI x1), some (vI s0), some (vI x3), some (vI x4), some (vI x5), some (vI x6)] [] L := rfl
set_option maxRecDepth 100000 in
theorem bc13_200_8 (call : QC FA) (x1 : Int32) (x2 : Int32) (x3 : Int32) (x4 : Int32) (x5 : Int32) (x6 : Int32) (L : QH FA) (F : Nat) : rnG call 200 (F + 1) 42 [some (vR 0), some (vI x1), some (vI x2), some (vI x3), some (vI x4), some (vI x5), some (vI x6)] [] L = rnG call 200 F 43 [some (vR 0), some (vI x1), some (vI x2), some (vI x3), some (vI (x4 + 1)), some (vI x5), some (vI x6)] [] L := rfl
set_option maxRecDepth 100000 in
theorem bc13_200_9 (call : QC FA) (x1 : Int32) (x2 : Int32) (x3 : Int32) (x4 : Int32) (x5 : Int32) (x6 : Int32) (L : QH FA) (F : Nat) : rnG call 200 (F + 1) 43 [some (vR 0), some (vI x1), some (vI x2), some (vI x3), some (vI x4), some (vI x5), some (vI x6)] [] L = rnG call 200 F 6 [some (vR 0), some (vI x1), some (vI x2), some (vI x3), some (vI x4), some (vI x5), some (vI x6)] [] L := rfl
set_option maxRecDepth 100000 in
theorem bc13_200_10 (call : QC FA) (x1 : Int32) (x2 : Int32) (x3 : Int32) (x4 : Int32) (x5 : Int32) (x6 : Int32) (L : QH FA) (F : Nat) : rnG call 200 (F + 5) 35 [some (vR 0), some (vI x1), some (vI x2), some (vI x3), some (vI x4), some (vI x5), some (vI x6)] [] L = rnG call 200 F 40 [some (vR 0), some (vI x1), some (vI x2), some (vI x4), some (vI x4), some (vI x5), some (vI x6)] [vI x5, vI x2, vR 0] L := rfl
set_option maxRecDepth 100000 in
theorem bc13_200_11 (call : QC FA) (x1 : Int32) (x2 : Int32) (x3 : Int32) (x4 : Int32) (x5 : Int32) (x6 : Int32) (z : Nat → Int32) (f : Nat → FA) (F : Nat) : rnG call 200 (F + 3) 17 [some (vR 0), some (vI x1), some (vI x2), some (vI x3), some (vI x4), some (vI x5), some (vI x6)] [] (LR z f) = rnG call 200 F 20 [some (vR 0), some (vI x1), some (vI x2), some (vI x3), some (vI x4), some (vI x5), some (vI x6)] [vI x6, vR 30] (LR z f) := rfl
set_option maxRecDepth 100000 in
theorem bc13_200_12 (call : QC FA) (x : Int32) (ls : List (Option PV)) (z : Nat → Int32) (f : Nat → FA) (F : Nat) : rnG call 200 (F + 1) 20 ls [vI x, vR 30] (LR z f) = bif (Nat.beq 0 0 && pin x 15) then rnG call 200 F 21 ls [vI (f 30 (ix x))] (LR z f) else none := rfl
set_option maxRecDepth 100000 in
theorem bc13_200_13 (call : QC FA) (x1 : Int32) (x2 : Int32) (x3 : Int32) (x4 : Int32) (x5 : Int32) (x6 : Int32) (s0 : Int32) (L : QH FA) (F : Nat) : rnG call 200 (F + 1) 21 [some (vR 0), some (vI x1), some (vI x2), some (vI x3), some (vI x4), some (vI x5), some (vI x6)] [vI s0] L = rnG call 200 F 22 [some (vR 0), some (vI x1), some (vI x2), some (vI x3), some (vI x4), some (vI x5), some (vI x6)] [vI x4, vI s0] L := rfl
set_option maxRecDepth 100000 in
theorem bc13_200_14 (call : QC FA) (x y : Int32) (ls : List (Option PV)) (L : QH FA) (F : Nat) : rnG call 200 (F + 1) 22 ls [vI y, vI x] L = bif pcmp 1 x y then rnG call 200 F 27 ls [] L else rnG call 200 F 23 ls [] L := rfl
set_option maxRecDepth 100000 in
theorem bc13_200_15 (call : QC FA) (x1 : Int32) (x2 : Int32) (x3 : Int32) (x4 : Int32) (x5 : Int32) (x6 : Int32) (L : QH FA) (F : Nat) : rnG call 200 (F + 1) 27 [some (vR 0), some (vI x1), some (vI x2), some (vI x3), some (vI x4), some (vI x5), some (vI x6)] [] L = rnG call 200 F 28 [some (vR 0), some (vI x1), some (vI x2), some (vI x3), some (vI x4), some (vI x5), some (vI (x6 + 1))] [] L := rfl
set_option maxRecDepth 100000 in
theorem bc13_200_16 (call : QC FA) (x1 : Int32) (x2 : Int32) (x3 : Int32) (x4 : Int32) (x5 : Int32) (x6 : Int32) (L : QH FA) (F : Nat) : rnG call 200 (F + 1) 28 [some (vR 0), some (vI x1), some (vI x2), some (vI x3), some (vI x4), some (vI x5), some (vI x6)] [] L = rnG call 200 F 13 [some (vR 0), some (vI x1), some (vI x2), some (vI x3), some (vI x4), some (vI x5), some (vI x6)] [] L := rfl
set_option maxRecDepth 100000 in
theorem bc13_200_17 (call : QC FA) (x1 : Int32) (x2 : Int32) (x3 : Int32) (x4 : Int32) (x5 : Int32) (x6 : Int32) (L : QH FA) (F : Nat) : rnG call 200 (F + 4) 23 [some (vR 0), some (vI x1), some (vI x2), some (vI x3), some (vI x4), some (vI x5), some (vI x6)] [] L = rnG call 200 F 27 [some (vR 0), some (vI x1), some (vI x2), some (vI x3), some (vI x4), some (vI (x5 + 1)), some (vI x6)] [] L := rfl
theorem vcc13_200_13 (d : Nat) (x1 : Int32) (x2 : Int32) (x3 : Int32) (x4 : Int32) (x5 : Int32) (x6 : Int32) (z : Nat → Int32) (f : Nat → FA) (res : Option PV × QH FA) (H : ((I (z 52) ≤ I x6 → ((I (2 * x5) ≤ I (z 52) → (∃ (r1 : Int32) (z1 : Nat → Int32) (f1 : Nat → FA), (mcall (d + 1)) 68 [vR 0, vI x2, vI x5] (LR z f) = some (some (vI r1), LR z1 f1) ∧ RC (mcall (d + 1)) (mP 200) 6 [some (vR 0), some (vI x1), some (vI r1), some (vI x3), some (vI (x4 + 1)), some (vI x5), some (vI x6)] [] (LR z1 f1) res)) ∧ (I (z 52) < I (2 * x5) → (∃ (r2 : Int32) (z2 : Nat → Int32) (f2 : Nat → FA), (mcall (d + 1)) 68 [vR 0, vI x2, vI x5] (LR z f) = some (some (vI r2), LR z2 f2) ∧ RC (mcall (d + 1)) (mP 200) 6 [some (vR 0), some (vI x1), some (vI r2), some (vI x4), some (vI (x4 + 1)), some (vI x5), some (vI x6)] [] (LR z2 f2) res)))) ∧ (I x6 < I (z 52) → (pin x6 15 = true ∧ ((¬ f 30 (ix x6) = x4 → RC (mcall (d + 1)) (mP 200) 13 [some (vR 0), some (vI x1), some (vI x2), some (vI x3), some (vI x4), some (vI x5), some (vI (x6 + 1))] [] (LR z f) res) ∧ (f 30 (ix x6) = x4 → RC (mcall (d + 1)) (mP 200) 13 [some (vR 0), some (vI x1), some (vI x2), some (vI x3), some (vI x4), some (vI (x5 + 1)), some (vI (x6 + 1))] [] (LR z f) res)))))) : RC (mcall (d + 1)) (mP 200) 13 [some (vR 0), some (vI x1), some (vI x2), some (vI x3), some (vI x4), some (vI x5), some (vI x6)] [] (LR z f) res := by
  refine rc_b (i' := 16) (ls' := [some (vR 0), some (vI x1), some (vI x2), some (vI x3), some (vI x4), some (vI x5), some (vI x6)]) (st' := [vI (z 52), vI x6]) (L' := LR z f) 3 (bc13_200_1 (mcall (d + 1)) x1 x2 x3 x4 x5 x6 z f) ?_
  refine rc_if (it := 29) (ie := 17) (ls' := [some (vR 0), some (vI x1), some (vI x2), some (vI x3), some (vI x4), some (vI x5), some (vI x6)]) (st' := []) (bc13_200_2 (mcall (d + 1)) x6 (z 52) _ _) (fun q1 => ?_) (fun q1 => ?_)
  · have H := H.1 (cI3t q1 rfl rfl)
    refine rc_b (i' := 34) (ls' := [some (vR 0), some (vI x1), some (vI x2), some (vI x3), some (vI x4), some (vI x5), some (vI x6)]) (st' := [vI (z 52), vI (2 * x5)]) (L' := LR z f) 5 (bc13_200_3 (mcall (d + 1)) x1 x2 x3 x4 x5 x6 z f) ?_
    refine rc_if (it := 37) (ie := 35) (ls' := [some (vR 0), some (vI x1), some (vI x2), some (vI x3), some (vI x4), some (vI x5), some (vI x6)]) (st' := []) (bc13_200_4 (mcall (d + 1)) (2 * x5) (z 52) _ _) (fun q2 => ?_) (fun q2 => ?_)
    · have H := H.1 (cI5t q2 rfl rfl)
      refine rc_b (i' := 40) (ls' := [some (vR 0), some (vI x1), some (vI x2), some (vI x3), some (vI x4), some (vI x5), some (vI x6)]) (st' := [vI x5, vI x2, vR 0]) (L' := LR z f) 3 (bc13_200_5 (mcall (d + 1)) x1 x2 x3 x4 x5 x6 _) ?_
      obtain ⟨r1, z1, f1, hc, H⟩ := H
      refine rc_call (t := 41) (ls' := [some (vR 0), some (vI x1), some (vI x2), some (vI x3), some (vI x4), some (vI x5), some (vI x6)]) (st' := []) (bc13_200_6 (mcall (d + 1)) x2 x5 _ z f) hc ?_
      show RC (mcall (d + 1)) (mP 200) 41 [some (vR 0), some (vI x1), some (vI x2), some (vI x3), some (vI x4), some (vI x5), some (vI x6)] [vI r1] (LR z1 f1) res
      refine rc_b (i' := 42) (ls' := [some (vR 0), some (vI x1), some (vI r1), some (vI x3), some (vI x4), some (vI x5), some (vI x6)]) (st' := []) (L' := LR z1 f1) 1 (bc13_200_7 (mcall (d + 1)) x1 x2 x3 x4 x5 x6 r1 _) ?_
      refine rc_b (i' := 43) (ls' := [some (vR 0), some (vI x1), some (vI r1), some (vI x3), some (vI (x4 + 1)), some (vI x5), some (vI x6)]) (st' := []) (L' := LR z1 f1) 1 (bc13_200_8 (mcall (d + 1)) x1 r1 x3 x4 x5 x6 _) ?_
      refine rc_b (i' := 6) (ls' := [some (vR 0), some (vI x1), some (vI r1), some (vI x3), some (vI (x4 + 1)), some (vI x5), some (vI x6)]) (st' := []) (L' := LR z1 f1) 1 (bc13_200_9 (mcall (d + 1)) x1 r1 x3 (x4 + 1) x5 x6 _) ?_
      exact H
    · have H := H.2 (cI5f q2 rfl rfl)
      refine rc_b (i' := 40) (ls' := [some (vR 0), some (vI x1), some (vI x2), some (vI x4), some (vI x4), some (vI x5), some (vI x6)]) (st' := [vI x5, vI x2, vR 0]) (L' := LR z f) 5 (bc13_200_10 (mcall (d + 1)) x1 x2 x3 x4 x5 x6 _) ?_
      obtain ⟨r2, z2, f2, hc, H⟩ := H
      refine rc_call (t := 41) (ls' := [some (vR 0), some (vI x1), some (vI x2), some (vI x4), some (vI x4), some (vI x5), some (vI x6)]) (st' := []) (bc13_200_6 (mcall (d + 1)) x2 x5 _ z f) hc ?_
      show RC (mcall (d + 1)) (mP 200) 41 [some (vR 0), some (vI x1), some (vI x2), some (vI x4), some (vI x4), some (vI x5), some (vI x6)] [vI r2] (LR z2 f2) res
      refine rc_b (i' := 42) (ls' := [some (vR 0), some (vI x1), some (vI r2), some (vI x4), some (vI x4), some (vI x5), some (vI x6)]) (st' := []) (L' := LR z2 f2) 1 (bc13_200_7 (mcall (d + 1)) x1 x2 x4 x4 x5 x6 r2 _) ?_
      refine rc_b (i' := 43) (ls' := [some (vR 0), some (vI x1), some (vI r2), some (vI x4), some (vI (x4 + 1)), some (vI x5), some (vI x6)]) (st' := []) (L' := LR z2 f2) 1 (bc13_200_8 (mcall (d + 1)) x1 r2 x4 x4 x5 x6 _) ?_
      refine rc_b (i' := 6) (ls' := [some (vR 0), some (vI x1), some (vI r2), some (vI x4), some (vI (x4 + 1)), some (vI x5), some (vI x6)]) (st' := []) (L' := LR z2 f2) 1 (bc13_200_9 (mcall (d + 1)) x1 r2 x4 (x4 + 1) x5 x6 _) ?_
      exact H
  · have H := H.2 (cI3f q1 rfl rfl)
    refine rc_b (i' := 20) (ls' := [some (vR 0), some (vI x1), some (vI x2), some (vI x3), some (vI x4), some (vI x5), some (vI x6)]) (st' := [vI x6, vR 30]) (L' := LR z f) 3 (bc13_200_11 (mcall (d + 1)) x1 x2 x3 x4 x5 x6 z f) ?_
    obtain ⟨g1, H⟩ := H
    refine rc_g (i' := 21) (ls' := [some (vR 0), some (vI x1), some (vI x2), some (vI x3), some (vI x4), some (vI x5), some (vI x6)]) (st' := [vI (f 30 (ix x6))]) (L' := LR z f) (bc13_200_12 (mcall (d + 1)) x6 _ z f) (pinG g1) ?_
    refine rc_b (i' := 22) (ls' := [some (vR 0), some (vI x1), some (vI x2), some (vI x3), some (vI x4), some (vI x5), some (vI x6)]) (st' := [vI x4, vI (f 30 (ix x6))]) (L' := LR z f) 1 (bc13_200_13 (mcall (d + 1)) x1 x2 x3 x4 x5 x6 (f 30 (ix x6)) _) ?_
    refine rc_if (it := 27) (ie := 23) (ls' := [some (vR 0), some (vI x1), some (vI x2), some (vI x3), some (vI x4), some (vI x5), some (vI x6)]) (st' := []) (bc13_200_14 (mcall (d + 1)) (f 30 (ix x6)) x4 _ _) (fun q3 => ?_) (fun q3 => ?_)
    · have H := H.1 (cI1t q3)
      refine rc_b (i' := 28) (ls' := [some (vR 0), some (vI x1), some (vI x2), some (vI x3), some (vI x4), some (vI x5), some (vI (x6 + 1))]) (st' := []) (L' := LR z f) 1 (bc13_200_15 (mcall (d + 1)) x1 x2 x3 x4 x5 x6 _) ?_
      refine rc_b (i' := 13) (ls' := [some (vR 0), some (vI x1), some (vI x2), some (vI x3), some (vI x4), some (vI x5), some (vI (x6 + 1))]) (st' := []) (L' := LR z f) 1 (bc13_200_16 (mcall (d + 1)) x1 x2 x3 x4 x5 (x6 + 1) _) ?_
      exact H
    · have H := H.2 (cI1f q3)
      refine rc_b (i' := 27) (ls' := [some (vR 0), some (vI x1), some (vI x2), some (vI x3), some (vI x4), some (vI (x5 + 1)), some (vI x6)]) (st' := []) (L' := LR z f) 4 (bc13_200_17 (mcall (d + 1)) x1 x2 x3 x4 x5 x6 _) ?_
      refine rc_b (i' := 28) (ls' := [some (vR 0), some (vI x1), some (vI x2), some (vI x3), some (vI x4), some (vI (x5 + 1)), some (vI (x6 + 1))]) (st' := []) (L' := LR z f) 1 (bc13_200_15 (mcall (d + 1)) x1 x2 x3 x4 (x5 + 1) x6 _) ?_
      refine rc_b (i' := 13) (ls' := [some (vR 0), some (vI x1), some (vI x2), some (vI x3), some (vI x4), some (vI (x5 + 1)), some (vI (x6 + 1))]) (st' := []) (L' := LR z f) 1 (bc13_200_16 (mcall (d + 1)) x1 x2 x3 x4 (x5 + 1) (x6 + 1) _) ?_
      exact H
set_option maxRecDepth 100000 in
theorem b187_1 (call : QC FA) (x1 : Int32) (x2 : Int32) (L : QH FA) (F : Nat) : rnG call 187 (F + 2) 0 [some (vR 0), some (vI x1), some (vI x2)] [] L = rnG call 187 F 2 [some (vR 0), some (vI x1), some (vI x2)] [vI x2, vI x1] L := rfl
set_option maxRecDepth 100000 in
theorem b187_2 (call : QC FA) (x y : Int32) (ls : List (Option PV)) (L : QH FA) (F : Nat) : rnG call 187 (F + 1) 2 ls [vI y, vI x] L = bif pcmp 5 x y then rnG call 187 F 7 ls [] L else rnG call 187 F 3 ls [] L := rfl
set_option maxRecDepth 100000 in
theorem b187_3 (call : QC FA) (x1 : Int32) (x2 : Int32) (L : QH FA) (F : Nat) : rnG call 187 (F + 3) 7 [some (vR 0), some (vI x1), some (vI x2)] [] L = rnG call 187 F 10 [some (vR 0), some (vI x1), some (vI x2)] [vI (x2 - x1)] L := rfl
set_option maxRecDepth 100000 in
theorem b187_4 (call : QC FA) (x : Int32) (ls : List (Option PV)) (L : QH FA) (F : Nat) : rnG call 187 (F + 1) 10 ls [vI x] L = some (some (vI x), L) := rfl
set_option maxRecDepth 100000 in
theorem b187_5 (call : QC FA) (x1 : Int32) (x2 : Int32) (L : QH FA) (F : Nat) : rnG call 187 (F + 4) 3 [some (vR 0), some (vI x1), some (vI x2)] [] L = rnG call 187 F 10 [some (vR 0), some (vI x1), some (vI x2)] [vI (x1 - x2)] L := rfl
theorem vc187_0 (call : QC FA) (x1 : Int32) (x2 : Int32) (z : Nat → Int32) (f : Nat → FA) (res : Option PV × QH FA) (H : ((I x1 ≤ I x2 → res = (some (vI (x2 - x1)), LR z f)) ∧ (I x2 < I x1 → res = (some (vI (x1 - x2)), LR z f)))) : RC call (mP 187) 0 [some (vR 0), some (vI x1), some (vI x2)] [] (LR z f) res := by
  refine rc_b (i' := 2) (ls' := [some (vR 0), some (vI x1), some (vI x2)]) (st' := [vI x2, vI x1]) (L' := LR z f) 2 (b187_1 call x1 x2 _) ?_
  refine rc_if (it := 7) (ie := 3) (ls' := [some (vR 0), some (vI x1), some (vI x2)]) (st' := []) (b187_2 call x1 x2 _ _) (fun q1 => ?_) (fun q1 => ?_)
  · have H := H.1 (cI5t q1 rfl rfl)
    refine rc_b (i' := 10) (ls' := [some (vR 0), some (vI x1), some (vI x2)]) (st' := [vI (x2 - x1)]) (L' := LR z f) 3 (b187_3 call x1 x2 _) ?_
    subst H
    exact rc_ret (b187_4 call _ _ _)
  · have H := H.2 (cI5f q1 rfl rfl)
    refine rc_b (i' := 10) (ls' := [some (vR 0), some (vI x1), some (vI x2)]) (st' := [vI (x1 - x2)]) (L' := LR z f) 4 (b187_5 call x1 x2 _) ?_
    subst H
    exact rc_ret (b187_4 call _ _ _)
set_option maxRecDepth 100000 in
theorem b239_1 (call : QC FA) (x1 : Int32) (o2 : Option PV) (o3 : Option PV) (o4 : Option PV) (L : QH FA) (F : Nat) : rnG call 239 (F + 2) 0 [some (vR 0), some (vI x1), o2, o3, o4] [] L = rnG call 239 F 2 [some (vR 0), some (vI x1), o2, o3, o4] [vI 0, vR 0] L := rfl
set_option maxRecDepth 100000 in
theorem b239_2 (call : QC FA) (y : Int32) (ls : List (Option PV)) (z : Nat → Int32) (f : Nat → FA) (F : Nat) : rnG call 239 (F + 1) 2 ls [vI y, vR 0] (LR z f) = rnG call 239 F 3 ls [] (LR (uZ z 0 y) f) := rfl
set_option maxRecDepth 100000 in
theorem b239_3 (call : QC FA) (x1 : Int32) (o2 : Option PV) (o3 : Option PV) (o4 : Option PV) (L : QH FA) (F : Nat) : rnG call 239 (F + 4) 3 [some (vR 0), some (vI x1), o2, o3, o4] [] L = rnG call 239 F 7 [some (vR 0), some (vI x1), o2, o3, o4] [vI 3, vI 0, vI x1, vR 0] L := rfl
set_option maxRecDepth 100000 in
theorem b239_4 (call : QC FA) (a0 : Int32) (a1 : Int32) (a2 : Int32) (ls : List (Option PV)) (z : Nat → Int32) (f : Nat → FA) (F : Nat) : rnG call 239 (F + 1) 7 ls [vI a2, vI a1, vI a0, vR 0] (LR z f) = cbd (call 47 [vR 0, vI a0, vI a1, vI a2] (LR z f)) (fun r L' => rnG call 239 F 8 ls (r.toList ++ []) L') := pcY (ih := rnG call 239 F) (call := call) (a := 47) (b := 3) (v := 12) (t := 8) (x := 0) (ls := ls) (As := [vI a0, vI a1, vI a2]) (st' := []) (L := LR z f) rfl rfl rfl
set_option maxRecDepth 100000 in
theorem b239_5 (call : QC FA) (x : Int32) (ls : List (Option PV)) (L : QH FA) (F : Nat) : rnG call 239 (F + 1) 8 ls [vI x] L = bif pcmp 1 x 0 then rnG call 239 F 11 ls [] L else rnG call 239 F 9 ls [] L := rfl
set_option maxRecDepth 100000 in
theorem b239_6 (call : QC FA) (x1 : Int32) (o2 : Option PV) (o3 : Option PV) (o4 : Option PV) (L : QH FA) (F : Nat) : rnG call 239 (F + 2) 11 [some (vR 0), some (vI x1), o2, o3, o4] [] L = rnG call 239 F 13 [some (vR 0), some (vI x1), o2, o3, o4] [vI 1, vI x1] L := rfl
set_option maxRecDepth 100000 in
theorem b239_7 (call : QC FA) (x y : Int32) (ls : List (Option PV)) (L : QH FA) (F : Nat) : rnG call 239 (F + 1) 13 ls [vI y, vI x] L = bif pcmp 5 x y then rnG call 239 F 23 ls [] L else rnG call 239 F 14 ls [] L := rfl
set_option maxRecDepth 100000 in
theorem b239_8 (call : QC FA) (x1 : Int32) (o2 : Option PV) (o3 : Option PV) (o4 : Option PV) (L : QH FA) (F : Nat) : rnG call 239 (F + 1) 23 [some (vR 0), some (vI x1), o2, o3, o4] [] L = rnG call 239 F 24 [some (vR 0), some (vI x1), o2, o3, o4] [vR 0] L := rfl
set_option maxRecDepth 100000 in
theorem b239_9 (call : QC FA) (ls : List (Option PV)) (z : Nat → Int32) (f : Nat → FA) (F : Nat) : rnG call 239 (F + 1) 24 ls [vR 0] (LR z f) = cbd (call 240 [vR 0] (LR z f)) (fun r L' => rnG call 239 F 25 ls (r.toList ++ []) L') := pcY (ih := rnG call 239 F) (call := call) (a := 240) (b := 0) (v := 12) (t := 25) (x := 0) (ls := ls) (As := []) (st' := []) (L := LR z f) rfl rfl rfl
set_option maxRecDepth 100000 in
theorem b239_10 (call : QC FA) (x1 : Int32) (o2 : Option PV) (o3 : Option PV) (o4 : Option PV) (s0 : Int32) (L : QH FA) (F : Nat) : rnG call 239 (F + 2) 25 [some (vR 0), some (vI x1), o2, o3, o4] [vI s0] L = rnG call 239 F 27 [some (vR 0), some (vI x1), some (vI s0), o3, o4] [vI x1] L := rfl
set_option maxRecDepth 100000 in
theorem b239_11 (call : QC FA) (x : Int32) (ls : List (Option PV)) (L : QH FA) (F : Nat) : rnG call 239 (F + 1) 27 ls [vI x] L = bif pcmp 1 x 0 then rnG call 239 F 30 ls [] L else rnG call 239 F 28 ls [] L := rfl
set_option maxRecDepth 100000 in
theorem b239_12 (call : QC FA) (x1 : Int32) (x2 : Int32) (o3 : Option PV) (o4 : Option PV) (L : QH FA) (F : Nat) : rnG call 239 (F + 4) 30 [some (vR 0), some (vI x1), some (vI x2), o3, o4] [] L = rnG call 239 F 34 [some (vR 0), some (vI x1), some (vI x2), some (vI 0), some (vI 0)] [] L := rfl
set_option maxRecDepth 100000 in
theorem b239_13 (call : QC FA) (x1 : Int32) (x2 : Int32) (o3 : Option PV) (o4 : Option PV) (L : QH FA) (F : Nat) : rnG call 239 (F + 1) 28 [some (vR 0), some (vI x1), some (vI x2), o3, o4] [] L = rnG call 239 F 29 [some (vR 0), some (vI x1), some (vI x2), o3, o4] [vI x2] L := rfl
set_option maxRecDepth 100000 in
theorem b239_14 (call : QC FA) (x : Int32) (ls : List (Option PV)) (L : QH FA) (F : Nat) : rnG call 239 (F + 1) 29 ls [vI x] L = some (some (vI x), L) := rfl
set_option maxRecDepth 100000 in
theorem b239_15 (call : QC FA) (x1 : Int32) (o2 : Option PV) (o3 : Option PV) (o4 : Option PV) (L : QH FA) (F : Nat) : rnG call 239 (F + 3) 14 [some (vR 0), some (vI x1), o2, o3, o4] [] L = rnG call 239 F 17 [some (vR 0), some (vI x1), o2, o3, o4] [vI 2, vI x1, vR 0] L := rfl
set_option maxRecDepth 100000 in
theorem b239_16 (call : QC FA) (x y : Int32) (ls : List (Option PV)) (L : QH FA) (F : Nat) : rnG call 239 (F + 1) 17 ls [vI y, vI x, vR 0] L = bif pcmp 1 x y then rnG call 239 F 20 ls [vR 0] L else rnG call 239 F 18 ls [vR 0] L := rfl
set_option maxRecDepth 100000 in
theorem b239_17 (call : QC FA) (x1 : Int32) (o2 : Option PV) (o3 : Option PV) (o4 : Option PV) (L : QH FA) (F : Nat) : rnG call 239 (F + 1) 20 [some (vR 0), some (vI x1), o2, o3, o4] [vR 0] L = rnG call 239 F 21 [some (vR 0), some (vI x1), o2, o3, o4] [vI 0, vR 0] L := rfl
set_option maxRecDepth 100000 in
theorem b239_18 (call : QC FA) (a0 : Int32) (ls : List (Option PV)) (z : Nat → Int32) (f : Nat → FA) (F : Nat) : rnG call 239 (F + 1) 21 ls [vI a0, vR 0] (LR z f) = cbd (call 200 [vR 0, vI a0] (LR z f)) (fun r L' => rnG call 239 F 22 ls (r.toList ++ []) L') := pcY (ih := rnG call 239 F) (call := call) (a := 200) (b := 1) (v := 12) (t := 22) (x := 0) (ls := ls) (As := [vI a0]) (st' := []) (L := LR z f) rfl rfl rfl
set_option maxRecDepth 100000 in
theorem b239_19 (call : QC FA) (x : Int32) (ls : List (Option PV)) (L : QH FA) (F : Nat) : rnG call 239 (F + 1) 22 ls [vI x] L = some (some (vI x), L) := rfl
set_option maxRecDepth 100000 in
theorem b239_20 (call : QC FA) (x1 : Int32) (o2 : Option PV) (o3 : Option PV) (o4 : Option PV) (L : QH FA) (F : Nat) : rnG call 239 (F + 2) 18 [some (vR 0), some (vI x1), o2, o3, o4] [vR 0] L = rnG call 239 F 21 [some (vR 0), some (vI x1), o2, o3, o4] [vI 1, vR 0] L := rfl
set_option maxRecDepth 100000 in
theorem b239_21 (call : QC FA) (x1 : Int32) (o2 : Option PV) (o3 : Option PV) (o4 : Option PV) (L : QH FA) (F : Nat) : rnG call 239 (F + 1) 9 [some (vR 0), some (vI x1), o2, o3, o4] [] L = rnG call 239 F 10 [some (vR 0), some (vI x1), o2, o3, o4] [vI ((-1))] L := rfl
set_option maxRecDepth 100000 in
theorem b239_22 (call : QC FA) (x : Int32) (ls : List (Option PV)) (L : QH FA) (F : Nat) : rnG call 239 (F + 1) 10 ls [vI x] L = some (some (vI x), L) := rfl
theorem vc239_0 (d : Nat) (x1 : Int32) (o2 : Option PV) (o3 : Option PV) (o4 : Option PV) (z : Nat → Int32) (f : Nat → FA) (res : Option PV × QH FA) (H : (((0 ≤ I x1 ∧ I x1 ≤ 3) → ((I x1 ≤ 1 → (∃ (r1 : Int32) (z1 : Nat → Int32) (f1 : Nat → FA), (mcall (d + 2)) 240 [vR 0] (LR (uZ z 0 0) f) = some (some (vI r1), LR z1 f1) ∧ ((¬ x1 = 0 → RC (mcall (d + 2)) (mP 239) 34 [some (vR 0), some (vI x1), some (vI r1), some (vI 0), some (vI 0)] [] (LR z1 f1) res) ∧ (x1 = 0 → res = (some (vI r1), LR z1 f1))))) ∧ (1 < I x1 → ((¬ x1 = 2 → (∃ (r2 : Int32) (z2 : Nat → Int32) (f2 : Nat → FA), (mcall (d + 2)) 200 [vR 0, vI 0] (LR (uZ z 0 0) f) = some (some (vI r2), LR z2 f2) ∧ res = (some (vI r2), LR z2 f2))) ∧ (x1 = 2 → (∃ (r3 : Int32) (z3 : Nat → Int32) (f3 : Nat → FA), (mcall (d + 2)) 200 [vR 0, vI 1] (LR (uZ z 0 0) f) = some (some (vI r3), LR z3 f3) ∧ res = (some (vI r3), LR z3 f3))))))) ∧ ((¬ (0 ≤ I x1 ∧ I x1 ≤ 3)) → res = (some (vI ((-1))), LR (uZ z 0 0) f)))) : RC (mcall (d + 2)) (mP 239) 0 [some (vR 0), some (vI x1), o2, o3, o4] [] (LR z f) res := by
  refine rc_b (i' := 2) (ls' := [some (vR 0), some (vI x1), o2, o3, o4]) (st' := [vI 0, vR 0]) (L' := LR z f) 2 (b239_1 (mcall (d + 2)) x1 o2 o3 o4 _) ?_
  refine rc_b (i' := 3) (ls' := [some (vR 0), some (vI x1), o2, o3, o4]) (st' := []) (L' := LR (uZ z 0 0) f) 1 (b239_2 (mcall (d + 2)) 0 _ z f) ?_
  refine rc_b (i' := 7) (ls' := [some (vR 0), some (vI x1), o2, o3, o4]) (st' := [vI 3, vI 0, vI x1, vR 0]) (L' := LR (uZ z 0 0) f) 4 (b239_3 (mcall (d + 2)) x1 o2 o3 o4 _) ?_
  refine rc_call (t := 8) (ls' := [some (vR 0), some (vI x1), o2, o3, o4]) (st' := []) (b239_4 (mcall (d + 2)) x1 0 3 _ (uZ z 0 0) f) (isIn_r _ x1 0 3 (uZ z 0 0) f) ?_
  show RC (mcall (d + 2)) (mP 239) 8 [some (vR 0), some (vI x1), o2, o3, o4] [vI (bI (0 ≤ I x1 ∧ I x1 ≤ 3))] (LR (uZ z 0 0) f) res
  refine rc_bn (it := 11) (ie := 9) (ls' := [some (vR 0), some (vI x1), o2, o3, o4]) (st' := []) (b239_5 (mcall (d + 2)) (bI (0 ≤ I x1 ∧ I x1 ≤ 3)) _ _) (fun q1 => ?_) (fun q1 => ?_)
  · have H := H.1 q1
    refine rc_b (i' := 13) (ls' := [some (vR 0), some (vI x1), o2, o3, o4]) (st' := [vI 1, vI x1]) (L' := LR (uZ z 0 0) f) 2 (b239_6 (mcall (d + 2)) x1 o2 o3 o4 _) ?_
    refine rc_if (it := 23) (ie := 14) (ls' := [some (vR 0), some (vI x1), o2, o3, o4]) (st' := []) (b239_7 (mcall (d + 2)) x1 1 _ _) (fun q2 => ?_) (fun q2 => ?_)
    · have H := H.1 (cI5t q2 rfl rfl)
      refine rc_b (i' := 24) (ls' := [some (vR 0), some (vI x1), o2, o3, o4]) (st' := [vR 0]) (L' := LR (uZ z 0 0) f) 1 (b239_8 (mcall (d + 2)) x1 o2 o3 o4 _) ?_
      obtain ⟨r1, z1, f1, hc, H⟩ := H
      refine rc_call (t := 25) (ls' := [some (vR 0), some (vI x1), o2, o3, o4]) (st' := []) (b239_9 (mcall (d + 2)) _ (uZ z 0 0) f) hc ?_
      show RC (mcall (d + 2)) (mP 239) 25 [some (vR 0), some (vI x1), o2, o3, o4] [vI r1] (LR z1 f1) res
      refine rc_b (i' := 27) (ls' := [some (vR 0), some (vI x1), some (vI r1), o3, o4]) (st' := [vI x1]) (L' := LR z1 f1) 2 (b239_10 (mcall (d + 2)) x1 o2 o3 o4 r1 _) ?_
      refine rc_if (it := 30) (ie := 28) (ls' := [some (vR 0), some (vI x1), some (vI r1), o3, o4]) (st' := []) (b239_11 (mcall (d + 2)) x1 _ _) (fun q3 => ?_) (fun q3 => ?_)
      · have H := H.1 (cI1t q3)
        refine rc_b (i' := 34) (ls' := [some (vR 0), some (vI x1), some (vI r1), some (vI 0), some (vI 0)]) (st' := []) (L' := LR z1 f1) 4 (b239_12 (mcall (d + 2)) x1 r1 o3 o4 _) ?_
        exact H
      · have H := H.2 (cI1f q3)
        refine rc_b (i' := 29) (ls' := [some (vR 0), some (vI x1), some (vI r1), o3, o4]) (st' := [vI r1]) (L' := LR z1 f1) 1 (b239_13 (mcall (d + 2)) x1 r1 o3 o4 _) ?_
        subst H
        exact rc_ret (b239_14 (mcall (d + 2)) _ _ _)
    · have H := H.2 (cI5f q2 rfl rfl)
      refine rc_b (i' := 17) (ls' := [some (vR 0), some (vI x1), o2, o3, o4]) (st' := [vI 2, vI x1, vR 0]) (L' := LR (uZ z 0 0) f) 3 (b239_15 (mcall (d + 2)) x1 o2 o3 o4 _) ?_
      refine rc_if (it := 20) (ie := 18) (ls' := [some (vR 0), some (vI x1), o2, o3, o4]) (st' := [vR 0]) (b239_16 (mcall (d + 2)) x1 2 _ _) (fun q4 => ?_) (fun q4 => ?_)
      · have H := H.1 (cI1t q4)
        refine rc_b (i' := 21) (ls' := [some (vR 0), some (vI x1), o2, o3, o4]) (st' := [vI 0, vR 0]) (L' := LR (uZ z 0 0) f) 1 (b239_17 (mcall (d + 2)) x1 o2 o3 o4 _) ?_
        obtain ⟨r2, z2, f2, hc, H⟩ := H
        refine rc_call (t := 22) (ls' := [some (vR 0), some (vI x1), o2, o3, o4]) (st' := []) (b239_18 (mcall (d + 2)) 0 _ (uZ z 0 0) f) hc ?_
        show RC (mcall (d + 2)) (mP 239) 22 [some (vR 0), some (vI x1), o2, o3, o4] [vI r2] (LR z2 f2) res
        subst H
        exact rc_ret (b239_19 (mcall (d + 2)) _ _ _)
      · have H := H.2 (cI1f q4)
        refine rc_b (i' := 21) (ls' := [some (vR 0), some (vI x1), o2, o3, o4]) (st' := [vI 1, vR 0]) (L' := LR (uZ z 0 0) f) 2 (b239_20 (mcall (d + 2)) x1 o2 o3 o4 _) ?_
        obtain ⟨r3, z3, f3, hc, H⟩ := H
        refine rc_call (t := 22) (ls' := [some (vR 0), some (vI x1), o2, o3, o4]) (st' := []) (b239_18 (mcall (d + 2)) 1 _ (uZ z 0 0) f) hc ?_
        show RC (mcall (d + 2)) (mP 239) 22 [some (vR 0), some (vI x1), o2, o3, o4] [vI r3] (LR z3 f3) res
        subst H
        exact rc_ret (b239_19 (mcall (d + 2)) _ _ _)
  · have H := H.2 q1
    refine rc_b (i' := 10) (ls' := [some (vR 0), some (vI x1), o2, o3, o4]) (st' := [vI ((-1))]) (L' := LR (uZ z 0 0) f) 1 (b239_21 (mcall (d + 2)) x1 o2 o3 o4 _) ?_
    subst H
    exact rc_ret (b239_22 (mcall (d + 2)) _ _ _)
set_option maxRecDepth 100000 in
theorem bc34_239_1 (call : QC FA) (o1 : Option PV) (x2 : Int32) (x3 : Int32) (x4 : Int32) (z : Nat → Int32) (f : Nat → FA) (F : Nat) : rnG call 239 (F + 3) 34 [some (vR 0), o1, some (vI x2), some (vI x3), some (vI x4)] [] (LR z f) = rnG call 239 F 37 [some (vR 0), o1, some (vI x2), some (vI x3), some (vI x4)] [vI (z 50), vI x4] (LR z f) := rfl
set_option maxRecDepth 100000 in
theorem bc34_239_2 (call : QC FA) (x y : Int32) (ls : List (Option PV)) (L : QH FA) (F : Nat) : rnG call 239 (F + 1) 37 ls [vI y, vI x] L = bif pcmp 3 x y then rnG call 239 F 50 ls [] L else rnG call 239 F 38 ls [] L := rfl
set_option maxRecDepth 100000 in
theorem bc34_239_3 (call : QC FA) (o1 : Option PV) (x2 : Int32) (x3 : Int32) (x4 : Int32) (L : QH FA) (F : Nat) : rnG call 239 (F + 1) 50 [some (vR 0), o1, some (vI x2), some (vI x3), some (vI x4)] [] L = rnG call 239 F 51 [some (vR 0), o1, some (vI x2), some (vI x3), some (vI x4)] [vI x3] L := rfl
set_option maxRecDepth 100000 in
theorem bc34_239_4 (call : QC FA) (x : Int32) (ls : List (Option PV)) (L : QH FA) (F : Nat) : rnG call 239 (F + 1) 51 ls [vI x] L = some (some (vI x), L) := rfl
set_option maxRecDepth 100000 in
theorem bc34_239_5 (call : QC FA) (o1 : Option PV) (x2 : Int32) (x3 : Int32) (x4 : Int32) (z : Nat → Int32) (f : Nat → FA) (F : Nat) : rnG call 239 (F + 5) 38 [some (vR 0), o1, some (vI x2), some (vI x3), some (vI x4)] [] (LR z f) = rnG call 239 F 43 [some (vR 0), o1, some (vI x2), some (vI x3), some (vI x4)] [vI x4, vR 29, vR 0, vI x3] (LR z f) := rfl
set_option maxRecDepth 100000 in
theorem bc34_239_6 (call : QC FA) (x : Int32) (s1 : Int32) (ls : List (Option PV)) (z : Nat → Int32) (f : Nat → FA) (F : Nat) : rnG call 239 (F + 1) 43 ls [vI x, vR 29, vR 0, vI s1] (LR z f) = bif (Nat.beq 0 0 && pin x 15) then rnG call 239 F 44 ls [vI (f 29 (ix x)), vR 0, vI s1] (LR z f) else none := rfl
set_option maxRecDepth 100000 in
theorem bc34_239_7 (call : QC FA) (o1 : Option PV) (x2 : Int32) (x3 : Int32) (x4 : Int32) (s0 : Int32) (s2 : Int32) (L : QH FA) (F : Nat) : rnG call 239 (F + 1) 44 [some (vR 0), o1, some (vI x2), some (vI x3), some (vI x4)] [vI s0, vR 0, vI s2] L = rnG call 239 F 45 [some (vR 0), o1, some (vI x2), some (vI x3), some (vI x4)] [vI x2, vI s0, vR 0, vI s2] L := rfl
set_option maxRecDepth 100000 in
theorem bc34_239_8 (call : QC FA) (a0 : Int32) (a1 : Int32) (s0 : Int32) (ls : List (Option PV)) (z : Nat → Int32) (f : Nat → FA) (F : Nat) : rnG call 239 (F + 1) 45 ls [vI a1, vI a0, vR 0, vI s0] (LR z f) = cbd (call 187 [vR 0, vI a0, vI a1] (LR z f)) (fun r L' => rnG call 239 F 46 ls (r.toList ++ [vI s0]) L') := pcY (ih := rnG call 239 F) (call := call) (a := 187) (b := 2) (v := 12) (t := 46) (x := 0) (ls := ls) (As := [vI a0, vI a1]) (st' := [vI s0]) (L := LR z f) rfl rfl rfl
set_option maxRecDepth 100000 in
theorem bc34_239_9 (call : QC FA) (o1 : Option PV) (x2 : Int32) (x3 : Int32) (x4 : Int32) (s0 : Int32) (s1 : Int32) (L : QH FA) (F : Nat) : rnG call 239 (F + 2) 46 [some (vR 0), o1, some (vI x2), some (vI x3), some (vI x4)] [vI s0, vI s1] L = rnG call 239 F 48 [some (vR 0), o1, some (vI x2), some (vI (s1 + s0)), some (vI x4)] [] L := rfl
set_option maxRecDepth 100000 in
theorem bc34_239_10 (call : QC FA) (o1 : Option PV) (x2 : Int32) (x3 : Int32) (x4 : Int32) (L : QH FA) (F : Nat) : rnG call 239 (F + 1) 48 [some (vR 0), o1, some (vI x2), some (vI x3), some (vI x4)] [] L = rnG call 239 F 49 [some (vR 0), o1, some (vI x2), some (vI x3), some (vI (x4 + 1))] [] L := rfl
set_option maxRecDepth 100000 in
theorem bc34_239_11 (call : QC FA) (o1 : Option PV) (x2 : Int32) (x3 : Int32) (x4 : Int32) (L : QH FA) (F : Nat) : rnG call 239 (F + 1) 49 [some (vR 0), o1, some (vI x2), some (vI x3), some (vI x4)] [] L = rnG call 239 F 34 [some (vR 0), o1, some (vI x2), some (vI x3), some (vI x4)] [] L := rfl
theorem vcc34_239_34 (d : Nat) (o1 : Option PV) (x2 : Int32) (x3 : Int32) (x4 : Int32) (z : Nat → Int32) (f : Nat → FA) (res : Option PV × QH FA) (H : ((I (z 50) ≤ I x4 → res = (some (vI x3), LR z f)) ∧ (I x4 < I (z 50) → (pin x4 15 = true ∧ (∃ (r1 : Int32) (z1 : Nat → Int32) (f1 : Nat → FA), (mcall (d + 2)) 187 [vR 0, vI (f 29 (ix x4)), vI x2] (LR z f) = some (some (vI r1), LR z1 f1) ∧ RC (mcall (d + 2)) (mP 239) 34 [some (vR 0), o1, some (vI x2), some (vI (x3 + r1)), some (vI (x4 + 1))] [] (LR z1 f1) res))))) : RC (mcall (d + 2)) (mP 239) 34 [some (vR 0), o1, some (vI x2), some (vI x3), some (vI x4)] [] (LR z f) res := by
  refine rc_b (i' := 37) (ls' := [some (vR 0), o1, some (vI x2), some (vI x3), some (vI x4)]) (st' := [vI (z 50), vI x4]) (L' := LR z f) 3 (bc34_239_1 (mcall (d + 2)) o1 x2 x3 x4 z f) ?_
  refine rc_if (it := 50) (ie := 38) (ls' := [some (vR 0), o1, some (vI x2), some (vI x3), some (vI x4)]) (st' := []) (bc34_239_2 (mcall (d + 2)) x4 (z 50) _ _) (fun q1 => ?_) (fun q1 => ?_)
  · have H := H.1 (cI3t q1 rfl rfl)
    refine rc_b (i' := 51) (ls' := [some (vR 0), o1, some (vI x2), some (vI x3), some (vI x4)]) (st' := [vI x3]) (L' := LR z f) 1 (bc34_239_3 (mcall (d + 2)) o1 x2 x3 x4 _) ?_
    subst H
    exact rc_ret (bc34_239_4 (mcall (d + 2)) _ _ _)
  · have H := H.2 (cI3f q1 rfl rfl)
    refine rc_b (i' := 43) (ls' := [some (vR 0), o1, some (vI x2), some (vI x3), some (vI x4)]) (st' := [vI x4, vR 29, vR 0, vI x3]) (L' := LR z f) 5 (bc34_239_5 (mcall (d + 2)) o1 x2 x3 x4 z f) ?_
    obtain ⟨g1, H⟩ := H
    refine rc_g (i' := 44) (ls' := [some (vR 0), o1, some (vI x2), some (vI x3), some (vI x4)]) (st' := [vI (f 29 (ix x4)), vR 0, vI x3]) (L' := LR z f) (bc34_239_6 (mcall (d + 2)) x4 x3 _ z f) (pinG g1) ?_
    refine rc_b (i' := 45) (ls' := [some (vR 0), o1, some (vI x2), some (vI x3), some (vI x4)]) (st' := [vI x2, vI (f 29 (ix x4)), vR 0, vI x3]) (L' := LR z f) 1 (bc34_239_7 (mcall (d + 2)) o1 x2 x3 x4 (f 29 (ix x4)) x3 _) ?_
    obtain ⟨r1, z1, f1, hc, H⟩ := H
    refine rc_call (t := 46) (ls' := [some (vR 0), o1, some (vI x2), some (vI x3), some (vI x4)]) (st' := [vI x3]) (bc34_239_8 (mcall (d + 2)) (f 29 (ix x4)) x2 x3 _ z f) hc ?_
    show RC (mcall (d + 2)) (mP 239) 46 [some (vR 0), o1, some (vI x2), some (vI x3), some (vI x4)] [vI r1, vI x3] (LR z1 f1) res
    refine rc_b (i' := 48) (ls' := [some (vR 0), o1, some (vI x2), some (vI (x3 + r1)), some (vI x4)]) (st' := []) (L' := LR z1 f1) 2 (bc34_239_9 (mcall (d + 2)) o1 x2 x3 x4 r1 x3 _) ?_
    refine rc_b (i' := 49) (ls' := [some (vR 0), o1, some (vI x2), some (vI (x3 + r1)), some (vI (x4 + 1))]) (st' := []) (L' := LR z1 f1) 1 (bc34_239_10 (mcall (d + 2)) o1 x2 (x3 + r1) x4 _) ?_
    refine rc_b (i' := 34) (ls' := [some (vR 0), o1, some (vI x2), some (vI (x3 + r1)), some (vI (x4 + 1))]) (st' := []) (L' := LR z1 f1) 1 (bc34_239_11 (mcall (d + 2)) o1 x2 (x3 + r1) (x4 + 1) _) ?_
    exact H
theorem apart_r (d : Nat) (x y : Int32) (z : Nat → Int32) (f : Nat → FA) : mcall (d + 1) 187 [vR 0, vI x, vI y] (LR z f) = some (some (vI (if I x ≤ I y then y - x else x - y)), LR z f) := by
  have go : ∀ res, _ → mcall (d + 1) 187 [vR 0, vI x, vI y] (LR z f) = some res := fun res H => mcall_i (mq187 (cu := [])).2.2 rfl (vc187_0 (mcall d) x y z f res H)
  exact go _ ⟨fun q => by rw [if_pos q], fun q => by rw [if_neg (by omega)]⟩
theorem mm11 (call : QC FA) {z : Nat → Int32} {f : Nat → FA} {n w : Nat} (hz : z 50 = nI n) (hn : n ≤ 15) (hw : w < 200) : ∀ t i, i + t = n → ∀ res, RC call (mP 240) 11 [some (vR 0), some (vI (nI w)), some (vI (nI (cnL (f 29) w n))), some (vI (nI n))] [] (LR z f) res → RC call (mP 240) 11 [some (vR 0), some (vI (nI w)), some (vI (nI (cnL (f 29) w i))), some (vI (nI i))] [] (LR z f) res := by
  intro t
  induction t with
  | zero =>
    intro i hi res h
    obtain rfl : i = n := by omega
    exact h
  | succ t ih =>
    intro i hi res h
    have h1 := ih (i + 1) (by omega) res h
    rw [← nI_add i 1] at h1
    refine vcc11_240_11 _ _ _ _ _ _ _ ⟨fun q => ?_, fun _ => ⟨pin_nI (by omega) (by omega), fun q => ?_, fun q => ?_⟩⟩
    · rw [hz, I_nI (n := n) (by omega), I_nI (n := i) (by omega)] at q
      omega
    · rw [I_nI (n := w) (by omega), ix_nI (j := i) (by omega)] at q
      rw [show cnL (f 29) w (i + 1) = cnL (f 29) w i from by
        show cnL (f 29) w i + (if I (f 29 i) ≤ (w : Int) then 1 else 0) = _
        rw [if_neg (by omega), Nat.add_zero]] at h1
      exact h1
    · rw [I_nI (n := w) (by omega), ix_nI (j := i) (by omega)] at q
      rw [show cnL (f 29) w (i + 1) = cnL (f 29) w i + 1 from by
        show cnL (f 29) w i + (if I (f 29 i) ≤ (w : Int) then 1 else 0) = _
        rw [if_pos (by omega)], ← nI_add] at h1
      exact h1
theorem m_middleOf (d : Nat) {z : Nat → Int32} {f : Nat → FA} {n : Nat} {m : Int32} (hz : z 50 = nI n) (hn : n ≤ 15) (hM : MID (f 29) n m) : mcall (d + 1) 240 [vR 0] (LR z f) = some (some (vI m), LR z f) := by
  rcases hM with ⟨rfl, rfl⟩ | ⟨h0, w, hw, rfl, h1, h2⟩
  · refine mcall_i (mq240 (cu := [])).2.2 rfl (vc240_0 (mcall d) none none none z f _ ⟨fun q => ?_, fun _ => rfl⟩)
    rw [hz] at q
    exact absurd rfl q
  · have lp : ∀ t v, v + t = w → ∀ o2 o3, RC (mcall d) (mP 240) 7 [some (vR 0), some (vI (nI v)), o2, o3] [] (LR z f) (some (vI (nI w)), LR z f) := by
      intro t
      induction t with
      | zero =>
        intro v hv o2 o3
        obtain rfl : v = w := by omega
        refine vcc7_240_7 _ _ _ _ _ _ _ (mm11 (mcall d) hz hn (by omega) n 0 (by omega) _ (vcc11_240_11 _ _ _ _ _ _ _ ⟨fun _ => ⟨fun q => ?_, fun _ => rfl⟩, fun q => by rw [hz] at q; omega⟩))
        have := cnL_le (f 29) v n
        rw [two_nI (by omega), hz, I_nI (n := n) (by omega)] at q
        omega
      | succ t ih =>
        intro v hv o2 o3
        have h3 := h2 v (by omega)
        have h4 := ih (v + 1) (by omega)
        refine vcc7_240_7 _ _ _ _ _ _ _ (mm11 (mcall d) hz hn (by omega) n 0 (by omega) _ (vcc11_240_11 _ _ _ _ _ _ _ ⟨fun _ => ⟨fun _ => ?_, fun q => ?_⟩, fun q => by rw [hz] at q; omega⟩))
        · rw [show nI v + 1 = nI (v + 1) from nI_add v 1]
          exact h4 _ _
        · have := cnL_le (f 29) v n
          rw [two_nI (by omega), hz, I_nI (n := n) (by omega)] at q
          omega
    refine mcall_i (mq240 (cu := [])).2.2 rfl (vc240_0 (mcall d) none none none z f _ ⟨fun _ => lp w 0 (by omega) none none, fun q => ?_⟩)
    rw [hz] at q
    exact absurd (nI_inj (a := n) (b := 0) (by omega) (by omega) q) h0
theorem md13 (d : Nat) (x1 x2 x3 : Int32) {z : Nat → Int32} {f : Nat → FA} {n v : Nat} (hz : z 52 = nI n) (hn : n ≤ 15) : ∀ t i, i + t = n → ∀ res, RC (mcall (d + 1)) (mP 200) 13 [some (vR 0), some (vI x1), some (vI x2), some (vI x3), some (vI (nI v)), some (vI (nI (cnE (f 30) (nI v) n))), some (vI (nI n))] [] (LR z f) res → RC (mcall (d + 1)) (mP 200) 13 [some (vR 0), some (vI x1), some (vI x2), some (vI x3), some (vI (nI v)), some (vI (nI (cnE (f 30) (nI v) i))), some (vI (nI i))] [] (LR z f) res := by
  intro t
  induction t with
  | zero =>
    intro i hi res h
    obtain rfl : i = n := by omega
    exact h
  | succ t ih =>
    intro i hi res h
    have h1 := ih (i + 1) (by omega) res h
    rw [← nI_add i 1] at h1
    refine vcc13_200_13 d _ _ _ _ _ _ _ _ _ ⟨fun q => ?_, fun _ => ⟨pin_nI (by omega) (by omega), fun q => ?_, fun q => ?_⟩⟩
    · rw [hz, I_nI (n := n) (by omega), I_nI (n := i) (by omega)] at q
      omega
    · rw [ix_nI (j := i) (by omega)] at q
      rw [show cnE (f 30) (nI v) (i + 1) = cnE (f 30) (nI v) i from by
        show cnE (f 30) (nI v) i + (if f 30 i = nI v then 1 else 0) = _
        rw [if_neg q]
        rfl] at h1
      exact h1
    · rw [ix_nI (j := i) (by omega)] at q
      rw [show cnE (f 30) (nI v) (i + 1) = cnE (f 30) (nI v) i + 1 from by
        show cnE (f 30) (nI v) i + (if f 30 i = nI v then 1 else 0) = _
        rw [if_pos q], ← nI_add] at h1
      exact h1
def BST (g : FA) (n v : Nat) (m : Int32) : Prop := (m = -1 ∧ ∀ w : Nat, w < v → 2 * cnE g (nI w) n ≤ n) ∨ ∃ w, w < v ∧ m = nI w ∧ n < 2 * cnE g (nI w) n
theorem m_dearest (d : Nat) (x1 : Int32) {z : Nat → Int32} {f : Nat → FA} {n : Nat} (hz : z 52 = nI n) (hn : n ≤ 15) : ∃ m, HLF (f 30) n m ∧ mcall (d + 2) 200 [vR 0, vI x1] (LR z f) = some (some (vI (if x1 = 0 then nI (mxE (f 30) n 10) else m)), LR z f) := by
  have lp : ∀ t v, v + t = 10 → ∀ x3, BST (f 30) n v x3 → ∀ o5 o6, ∃ m, HLF (f 30) n m ∧ RC (mcall (d + 1)) (mP 200) 6 [some (vR 0), some (vI x1), some (vI (nI (mxE (f 30) n v))), some (vI x3), some (vI (nI v)), o5, o6] [] (LR z f) (some (vI (if x1 = 0 then nI (mxE (f 30) n 10) else m)), LR z f) := by
    intro t
    induction t with
    | zero =>
      intro v hv x3 hb o5 o6
      obtain rfl : v = 10 := by omega
      refine ⟨x3, hb, vcc6_200_6 d _ _ _ _ _ _ _ _ _ ⟨fun _ => ⟨fun q => by rw [if_pos q], fun q => by rw [if_neg q]⟩, fun q => by rw [I_nI (n := 10) (by omega)] at q; omega⟩⟩
    | succ t ih =>
      intro v hv x3 hb o5 o6
      have cl := cnE_le (f 30) (nI v) n
      have ml := mxE_le (f 30) n v
      have gx : (if I (nI (cnE (f 30) (nI v) n)) < I (nI (mxE (f 30) n v)) then nI (mxE (f 30) n v) else nI (cnE (f 30) (nI v) n)) = nI (mxE (f 30) n (v + 1)) := by
        show _ = nI (max (mxE (f 30) n v) (cnE (f 30) (nI v) n))
        rw [I_nI (n := mxE (f 30) n v) (by omega), I_nI (n := cnE (f 30) (nI v) n) (by omega)]
        by_cases c : ((cnE (f 30) (nI v) n : Nat) : Int) < (mxE (f 30) n v : Nat)
        · rw [if_pos c]
          congr 1
          omega
        · rw [if_neg c]
          congr 1
          omega
      have e1 : nI v + 1 = nI (v + 1) := nI_add v 1
      by_cases hc : n < 2 * cnE (f 30) (nI v) n
      · obtain ⟨m, k1, k2⟩ := ih (v + 1) (by omega) (nI v) (Or.inr ⟨v, by omega, rfl, hc⟩) (some (vI (nI (cnE (f 30) (nI v) n)))) (some (vI (nI n)))
        refine ⟨m, k1, vcc6_200_6 d _ _ _ _ _ _ _ _ _ ⟨fun q => by rw [I_nI (n := v) (by omega)] at q; omega, fun _ => md13 d _ _ _ hz hn n 0 (by omega) _ (vcc13_200_13 d _ _ _ _ _ _ _ _ _ ⟨fun _ => ⟨fun q => ?_, fun _ => ⟨_, _, _, greater_x d _ _ _ _, ?_⟩⟩, fun q => by rw [hz] at q; omega⟩)⟩⟩
        · rw [two_nI (by omega), hz, I_nI (n := n) (by omega)] at q
          omega
        · rw [gx, e1]
          exact k2
      · obtain ⟨m, k1, k2⟩ := ih (v + 1) (by omega) x3 (by
          rcases hb with ⟨b1, b2⟩ | ⟨w, b1, b2⟩
          · refine Or.inl ⟨b1, fun w hw => ?_⟩
            by_cases q : w = v
            · subst q
              omega
            · exact b2 w (by omega)
          · exact Or.inr ⟨w, by omega, b2⟩) (some (vI (nI (cnE (f 30) (nI v) n)))) (some (vI (nI n)))
        refine ⟨m, k1, vcc6_200_6 d _ _ _ _ _ _ _ _ _ ⟨fun q => by rw [I_nI (n := v) (by omega)] at q; omega, fun _ => md13 d _ _ _ hz hn n 0 (by omega) _ (vcc13_200_13 d _ _ _ _ _ _ _ _ _ ⟨fun _ => ⟨fun _ => ⟨_, _, _, greater_x d _ _ _ _, ?_⟩, fun q => ?_⟩, fun q => by rw [hz] at q; omega⟩)⟩⟩
        · rw [gx, e1]
          exact k2
        · rw [two_nI (by omega), hz, I_nI (n := n) (by omega)] at q
          omega
  obtain ⟨m, k1, k2⟩ := lp 10 0 rfl (-1) (Or.inl ⟨rfl, fun w hw => absurd hw (Nat.not_lt_zero w)⟩) none none
  exact ⟨m, k1, mcall_i (mq200 (cu := [])).2.2 rfl (vc200_0 d x1 none none none none none z f _ k2)⟩
theorem mfar (d : Nat) (o1 : Option PV) (m : Int32) {z : Nat → Int32} {f : Nat → FA} {n : Nat} (hz : z 50 = nI n) (hn : n ≤ 15) : ∀ t i, i + t = n → RC (mcall (d + 2)) (mP 239) 34 [some (vR 0), o1, some (vI m), some (vI (far (f 29) m i)), some (vI (nI i))] [] (LR z f) (some (vI (far (f 29) m n)), LR z f) := by
  intro t
  induction t with
  | zero =>
    intro i hi
    obtain rfl : i = n := by omega
    exact vcc34_239_34 d _ _ _ _ _ _ _ ⟨fun _ => rfl, fun q => by rw [hz] at q; omega⟩
  | succ t ih =>
    intro i hi
    have h1 := ih (i + 1) (by omega)
    rw [← nI_add i 1] at h1
    refine vcc34_239_34 d _ _ _ _ _ _ _ ⟨fun q => ?_, fun _ => ⟨pin_nI (by omega) (by omega), _, _, _, apart_r (d + 1) _ _ _ _, ?_⟩⟩
    · rw [hz, I_nI (n := n) (by omega), I_nI (n := i) (by omega)] at q
      omega
    · rw [ix_nI (j := i) (by omega)]
      exact h1
theorem m_middle (d : Nat) (x : Int32) {z : Nat → Int32} {f : Nat → FA} {n k : Nat} {m1 : Int32} (hz : z 50 = nI n) (hn : n ≤ 15) (hz2 : z 52 = nI k) (hk : k ≤ 15) (h1 : MID (f 29) n m1) : ∃ m2, HLF (f 30) k m2 ∧ mcall (d + 3) 239 [vR 0, vI x] (LR z f) = some (some (vI (mdA x m1 (far (f 29) m1 n) m2 (nI (mxE (f 30) k 10)))), LR (uZ z 0 0) f) := by
  have hz' : (uZ z 0 0) 50 = nI n := by rw [uZ_n (by decide)]; exact hz
  have hz2' : (uZ z 0 0) 52 = nI k := by rw [uZ_n (by decide)]; exact hz2
  have go : ∀ res, _ → mcall (d + 3) 239 [vR 0, vI x] (LR z f) = some res := fun res H => mcall_i (mq239 (cu := [])).2.2 rfl (vc239_0 d x none none none z f res H)
  unfold mdA
  by_cases c0 : x = 0
  · subst c0
    obtain ⟨m2, k1, -⟩ := m_dearest d 0 hz2' hk
    refine ⟨m2, k1, go _ ⟨fun _ => ⟨fun _ => ⟨_, _, _, m_middleOf (d + 1) hz' hn h1, fun q => absurd rfl q, fun _ => ?_⟩, fun q => absurd q (by decide)⟩, fun q => absurd (by decide) q⟩⟩
    rw [if_pos rfl]
  simp only [if_neg c0]
  by_cases c1 : x = 1
  · subst c1
    obtain ⟨m2, k1, -⟩ := m_dearest d 0 hz2' hk
    refine ⟨m2, k1, go _ ⟨fun _ => ⟨fun _ => ⟨_, _, _, m_middleOf (d + 1) hz' hn h1, fun _ => ?_, fun q => absurd q (by decide)⟩, fun q => absurd q (by decide)⟩, fun q => absurd (by decide) q⟩⟩
    rw [if_pos rfl]
    exact mfar d _ m1 hz' hn n 0 (by omega)
  simp only [if_neg c1]
  by_cases c2 : x = 2
  · subst c2
    obtain ⟨m2, k1, k2⟩ := m_dearest d 1 hz2' hk
    refine ⟨m2, k1, go _ ⟨fun _ => ⟨fun q => absurd q (by decide), fun _ => ⟨fun q => absurd rfl q, fun _ => ⟨_, _, _, k2, ?_⟩⟩⟩, fun q => absurd (by decide) q⟩⟩
    rw [if_pos rfl, if_neg (by decide)]
  simp only [if_neg c2]
  by_cases c3 : x = 3
  · subst c3
    obtain ⟨m2, k1, k2⟩ := m_dearest d 0 hz2' hk
    refine ⟨m2, k1, go _ ⟨fun _ => ⟨fun q => absurd q (by decide), fun _ => ⟨fun _ => ⟨_, _, _, k2, ?_⟩, fun q => absurd q (by decide)⟩⟩, fun q => absurd (by decide) q⟩⟩
    rw [if_pos rfl, if_pos rfl]
  simp only [if_neg c3]
  obtain ⟨m2, k1, -⟩ := m_dearest d 0 hz2' hk
  refine ⟨m2, k1, go _ ⟨fun q => ?_, fun _ => rfl⟩⟩
  exfalso
  have e : ∀ v : Nat, v < 4 → ¬ x = nI v → ¬ I x = v := fun v hv h q => h (Int32.toInt_inj.mp (by
    show I x = I (nI v)
    rw [q, I_nI (n := v) (by omega)]))
  have := e 0 (by omega) c0
  have := e 1 (by omega) c1
  have := e 2 (by omega) c2
  have := e 3 (by omega) c3
  omega
theorem tq_middle (l : Launch) (G : PG) {nc nm : Nat} {h : PH} (hI : LIY TP nc nm h) (x1 : Int32) : PRY TP l G nc nm h 169 4 239 3 [vI x1] := by
  obtain ⟨lam, b, u, z, f, zm, fm, hB, hR, hM, hT, hX⟩ := TP_link hI
  obtain ⟨n, hn, e1, e2, e3⟩ : SL 0 99 15 (z 7) (f 8) (zm 50) (fm 29) := hT 2 (by decide)
  obtain ⟨k, hk, e4, e5, e6⟩ : SL 0 9 15 (z 9) (f 10) (zm 52) (fm 30) := hT 3 (by decide)
  have q1 : ∀ j, j < n → fm 29 j = f 8 j := fun j hj => (e3 j hj).1.symm
  have q2 : ∀ j, j < k → fm 30 j = f 10 j := fun j hj => (e6 j hj).1.symm
  obtain ⟨m1, h1⟩ := MID_ex (g := f 8) (n := n) (fun j hj => (e3 j hj).2.2)
  have h1' : MID (fm 29) n m1 := by
    rcases h1 with h1 | ⟨a1, w, a2, a3, a4, a5⟩
    · exact Or.inl h1
    · exact Or.inr ⟨a1, w, a2, a3, by rw [cnL_cong n q1]; exact a4, fun v hv => by rw [cnL_cong n q1]; exact a5 v hv⟩
  obtain ⟨m2, h2', r⟩ := m_middle 0 x1 e2 hn e5 hk h1'
  have h2 : HLF (f 10) k m2 := by
    rcases h2' with ⟨a1, a2⟩ | ⟨w, a1, a2, a3⟩
    · exact Or.inl ⟨a1, fun v hv => by rw [← cnE_cong k q2]; exact a2 v hv⟩
    · exact Or.inr ⟨w, a1, a2, by rw [← cnE_cong k q2]; exact a3⟩
  have hc := c_middle (u := u) 0 x1 e1 hn (fun j hj => (e3 j hj).2) e4 hk h1 h2
  rw [far_cong n q1, mxE_cong q2] at r
  exact tp_pair l G hB hR hM hX (kc_q186_ok l G lam hB.2.1) (kr_q48_ok l G _ (lamM_r nm) _ (EXK_of (lamM_r nm)) (rm_24 l G nm)) (As := [x1]) hc r (TA_0 hT) (by decide +kernel) (by decide +kernel) ⟨by rw [show nc = lam 0 from (hB.2.2.1 0 (by decide)).symm]; rfl, ⟨_, rfl, inb_top _⟩, trivial⟩ ⟨rfl, ⟨_, rfl, inb_top _⟩, trivial⟩ rfl
