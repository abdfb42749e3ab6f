/-! parishes of the reference, and the pair -/
theorem greater_x (d0 : Nat) (x y : Int32) (z : Nat → Int32) (f : Nat → FA) : mcall (d0 + 1) 68 [vR 0, vI x, vI y] (LR z f) = some (some (vI (if I y < I x then x else y)), LR z f) := by
  have go : ∀ res, _ → mcall (d0 + 1) 68 [vR 0, vI x, vI y] (LR z f) = some res := fun res H => mcall_i (mq68 (cu := [])).2.2 rfl (vc68_0 (mcall d0) x y z f res H)
  refine go _ ?_
  first
    | exact ⟨fun q => by rw [if_pos (by omega)], fun q => by rw [if_neg (by omega)]⟩
    | exact ⟨fun q => by rw [if_neg (by omega)], fun q => by rw [if_pos (by omega)]⟩
set_option maxRecDepth 100000 in
theorem b62_1 (call : QC FA) (x1 : Int32) (x2 : Int32) (L : QH FA) (F : Nat) : rnG call 62 (F + 2) 0 [some (vR 0), some (vI x1), some (vI x2)] [] L = rnG call 62 F 2 [some (vR 0), some (vI x1), some (vI x2)] [vI x2, vI x1] L := rfl
set_option maxRecDepth 100000 in
theorem b62_2 (call : QC FA) (x y : Int32) (ls : List (Option PV)) (L : QH FA) (F : Nat) : rnG call 62 (F + 1) 2 ls [vI y, vI x] L = bif pcmp 3 x y then rnG call 62 F 5 ls [] L else rnG call 62 F 3 ls [] L := rfl
set_option maxRecDepth 100000 in
theorem b62_3 (call : QC FA) (x1 : Int32) (x2 : Int32) (L : QH FA) (F : Nat) : rnG call 62 (F + 1) 5 [some (vR 0), some (vI x1), some (vI x2)] [] L = rnG call 62 F 6 [some (vR 0), some (vI x1), some (vI x2)] [vI x2] L := rfl
set_option maxRecDepth 100000 in
theorem b62_4 (call : QC FA) (x : Int32) (ls : List (Option PV)) (L : QH FA) (F : Nat) : rnG call 62 (F + 1) 6 ls [vI x] L = some (some (vI x), L) := rfl
set_option maxRecDepth 100000 in
theorem b62_5 (call : QC FA) (x1 : Int32) (x2 : Int32) (L : QH FA) (F : Nat) : rnG call 62 (F + 2) 3 [some (vR 0), some (vI x1), some (vI x2)] [] L = rnG call 62 F 6 [some (vR 0), some (vI x1), some (vI x2)] [vI x1] L := rfl
theorem vc62_0 (call : QC FA) (x1 : Int32) (x2 : Int32) (z : Nat → Int32) (f : Nat → FA) (res : Option PV × QH FA) (H : ((I x2 ≤ I x1 → res = (some (vI x2), LR z f)) ∧ (I x1 < I x2 → res = (some (vI x1), LR z f)))) : RC call (mP 62) 0 [some (vR 0), some (vI x1), some (vI x2)] [] (LR z f) res := by
  refine rc_b (i' := 2) (ls' := [some (vR 0), some (vI x1), some (vI x2)]) (st' := [vI x2, vI x1]) (L' := LR z f) 2 (b62_1 call x1 x2 _) ?_
  refine rc_if (it := 5) (ie := 3) (ls' := [some (vR 0), some (vI x1), some (vI x2)]) (st' := []) (b62_2 call x1 x2 _ _) (fun q1 => ?_) (fun q1 => ?_)
  · have H := H.1 (cI3t q1 rfl rfl)
    refine rc_b (i' := 6) (ls' := [some (vR 0), some (vI x1), some (vI x2)]) (st' := [vI x2]) (L' := LR z f) 1 (b62_3 call x1 x2 _) ?_
    subst H
    exact rc_ret (b62_4 call _ _ _)
  · have H := H.2 (cI3f q1 rfl rfl)
    refine rc_b (i' := 6) (ls' := [some (vR 0), some (vI x1), some (vI x2)]) (st' := [vI x1]) (L' := LR z f) 2 (b62_5 call x1 x2 _) ?_
    subst H
    exact rc_ret (b62_4 call _ _ _)
set_option maxRecDepth 100000 in
theorem b212_1 (call : QC FA) (x1 : Int32) (x2 : Int32) (o3 : Option PV) (o4 : Option PV) (o5 : Option PV) (o6 : Option PV) (o7 : Option PV) (L : QH FA) (F : Nat) : rnG call 212 (F + 1) 0 [some (vR 0), some (vI x1), some (vI x2), o3, o4, o5, o6, o7] [] L = rnG call 212 F 1 [some (vR 0), some (vI x1), some (vI x2), o3, o4, o5, o6, o7] [vI x1] L := rfl
set_option maxRecDepth 100000 in
theorem b212_2 (call : QC FA) (x : Int32) (ls : List (Option PV)) (L : QH FA) (F : Nat) : rnG call 212 (F + 1) 1 ls [vI x] L = bif pcmp 1 x 0 then rnG call 212 F 8 ls [] L else rnG call 212 F 2 ls [] L := rfl
set_option maxRecDepth 100000 in
theorem b212_3 (call : QC FA) (x1 : Int32) (x2 : Int32) (o3 : Option PV) (o4 : Option PV) (o5 : Option PV) (o6 : Option PV) (o7 : Option PV) (L : QH FA) (F : Nat) : rnG call 212 (F + 3) 8 [some (vR 0), some (vI x1), some (vI x2), o3, o4, o5, o6, o7] [] L = rnG call 212 F 11 [some (vR 0), some (vI x1), some (vI x2), some (vI ((-100000000))), o4, o5, o6, o7] [vI x1] L := rfl
set_option maxRecDepth 100000 in
theorem b212_4 (call : QC FA) (x : Int32) (ls : List (Option PV)) (L : QH FA) (F : Nat) : rnG call 212 (F + 1) 11 ls [vI x] L = bif pcmp 1 x 0 then rnG call 212 F 18 ls [] L else rnG call 212 F 12 ls [] L := rfl
set_option maxRecDepth 100000 in
theorem b212_5 (call : QC FA) (x1 : Int32) (x2 : Int32) (x3 : Int32) (o4 : Option PV) (o5 : Option PV) (o6 : Option PV) (o7 : Option PV) (L : QH FA) (F : Nat) : rnG call 212 (F + 8) 18 [some (vR 0), some (vI x1), some (vI x2), some (vI x3), o4, o5, o6, o7] [] L = rnG call 212 F 26 [some (vR 0), some (vI x1), some (vI x2), some (vI x3), some (vI 100000000), some (vI 0), some (vI (x2 + 1)), o7] [] L := rfl
set_option maxRecDepth 100000 in
theorem b212_6 (call : QC FA) (x1 : Int32) (x2 : Int32) (o3 : Option PV) (o4 : Option PV) (o5 : Option PV) (o6 : Option PV) (o7 : Option PV) (z : Nat → Int32) (f : Nat → FA) (F : Nat) : rnG call 212 (F + 3) 2 [some (vR 0), some (vI x1), some (vI x2), o3, o4, o5, o6, o7] [] (LR z f) = rnG call 212 F 5 [some (vR 0), some (vI x1), some (vI x2), o3, o4, o5, o6, o7] [vI (z 46), vI x2] (LR z f) := rfl
set_option maxRecDepth 100000 in
theorem b212_7 (call : QC FA) (x y : Int32) (ls : List (Option PV)) (L : QH FA) (F : Nat) : rnG call 212 (F + 1) 5 ls [vI y, vI x] L = bif pcmp 1 x y then rnG call 212 F 8 ls [] L else rnG call 212 F 6 ls [] L := rfl
set_option maxRecDepth 100000 in
theorem b212_8 (call : QC FA) (x1 : Int32) (x2 : Int32) (x3 : Int32) (o4 : Option PV) (o5 : Option PV) (o6 : Option PV) (o7 : Option PV) (z : Nat → Int32) (f : Nat → FA) (F : Nat) : rnG call 212 (F + 3) 12 [some (vR 0), some (vI x1), some (vI x2), some (vI x3), o4, o5, o6, o7] [] (LR z f) = rnG call 212 F 15 [some (vR 0), some (vI x1), some (vI x2), some (vI x3), o4, o5, o6, o7] [vI (z 46), vI x2] (LR z f) := rfl
set_option maxRecDepth 100000 in
theorem b212_9 (call : QC FA) (x y : Int32) (ls : List (Option PV)) (L : QH FA) (F : Nat) : rnG call 212 (F + 1) 15 ls [vI y, vI x] L = bif pcmp 1 x y then rnG call 212 F 18 ls [] L else rnG call 212 F 16 ls [] L := rfl
set_option maxRecDepth 100000 in
theorem b212_10 (call : QC FA) (x1 : Int32) (x2 : Int32) (o3 : Option PV) (o4 : Option PV) (o5 : Option PV) (o6 : Option PV) (o7 : Option PV) (L : QH FA) (F : Nat) : rnG call 212 (F + 4) 6 [some (vR 0), some (vI x1), some (vI x2), o3, o4, o5, o6, o7] [] L = rnG call 212 F 11 [some (vR 0), some (vI x1), some (vI x2), some (vI 0), o4, o5, o6, o7] [vI x1] L := rfl
set_option maxRecDepth 100000 in
theorem b212_11 (call : QC FA) (x1 : Int32) (x2 : Int32) (x3 : Int32) (o4 : Option PV) (o5 : Option PV) (o6 : Option PV) (o7 : Option PV) (L : QH FA) (F : Nat) : rnG call 212 (F + 9) 16 [some (vR 0), some (vI x1), some (vI x2), some (vI x3), o4, o5, o6, o7] [] L = rnG call 212 F 26 [some (vR 0), some (vI x1), some (vI x2), some (vI x3), some (vI 0), some (vI 0), some (vI (x2 + 1)), o7] [] L := rfl
theorem vc212_0 (d : Nat) (x1 : Int32) (x2 : Int32) (o3 : Option PV) (o4 : Option PV) (o5 : Option PV) (o6 : Option PV) (o7 : Option PV) (z : Nat → Int32) (f : Nat → FA) (res : Option PV × QH FA) (H : ((¬ x1 = 0 → RC (mcall (d + 1)) (mP 212) 26 [some (vR 0), some (vI x1), some (vI x2), some (vI ((-100000000))), some (vI 100000000), some (vI 0), some (vI (x2 + 1)), o7] [] (LR z f) res) ∧ (x1 = 0 → ((¬ x2 = z 46 → RC (mcall (d + 1)) (mP 212) 26 [some (vR 0), some (vI x1), some (vI x2), some (vI ((-100000000))), some (vI 100000000), some (vI 0), some (vI (x2 + 1)), o7] [] (LR z f) res) ∧ (x2 = z 46 → RC (mcall (d + 1)) (mP 212) 26 [some (vR 0), some (vI x1), some (vI x2), some (vI 0), some (vI 0), some (vI 0), some (vI (x2 + 1)), o7] [] (LR z f) res))))) : RC (mcall (d + 1)) (mP 212) 0 [some (vR 0), some (vI x1), some (vI x2), o3, o4, o5, o6, o7] [] (LR z f) res := by
  refine rc_b (i' := 1) (ls' := [some (vR 0), some (vI x1), some (vI x2), o3, o4, o5, o6, o7]) (st' := [vI x1]) (L' := LR z f) 1 (b212_1 (mcall (d + 1)) x1 x2 o3 o4 o5 o6 o7 _) ?_
  refine rc_if (it := 8) (ie := 2) (ls' := [some (vR 0), some (vI x1), some (vI x2), o3, o4, o5, o6, o7]) (st' := []) (b212_2 (mcall (d + 1)) x1 _ _) (fun q1 => ?_) (fun q1 => ?_)
  · have H := H.1 (cI1t q1)
    refine rc_b (i' := 11) (ls' := [some (vR 0), some (vI x1), some (vI x2), some (vI ((-100000000))), o4, o5, o6, o7]) (st' := [vI x1]) (L' := LR z f) 3 (b212_3 (mcall (d + 1)) x1 x2 o3 o4 o5 o6 o7 _) ?_
    refine rc_t (it := 18) (ie := 12) (ls' := [some (vR 0), some (vI x1), some (vI x2), some (vI ((-100000000))), o4, o5, o6, o7]) (st' := []) (b212_4 (mcall (d + 1)) x1 _ _) (pNt (cI1t q1)) ?_
    refine rc_b (i' := 26) (ls' := [some (vR 0), some (vI x1), some (vI x2), some (vI ((-100000000))), some (vI 100000000), some (vI 0), some (vI (x2 + 1)), o7]) (st' := []) (L' := LR z f) 8 (b212_5 (mcall (d + 1)) x1 x2 ((-100000000)) o4 o5 o6 o7 _) ?_
    exact H
  · have H := H.2 (cI1f q1)
    refine rc_b (i' := 5) (ls' := [some (vR 0), some (vI x1), some (vI x2), o3, o4, o5, o6, o7]) (st' := [vI (z 46), vI x2]) (L' := LR z f) 3 (b212_6 (mcall (d + 1)) x1 x2 o3 o4 o5 o6 o7 z f) ?_
    refine rc_if (it := 8) (ie := 6) (ls' := [some (vR 0), some (vI x1), some (vI x2), o3, o4, o5, o6, o7]) (st' := []) (b212_7 (mcall (d + 1)) x2 (z 46) _ _) (fun q2 => ?_) (fun q2 => ?_)
    · have H := H.1 (cI1t q2)
      refine rc_b (i' := 11) (ls' := [some (vR 0), some (vI x1), some (vI x2), some (vI ((-100000000))), o4, o5, o6, o7]) (st' := [vI x1]) (L' := LR z f) 3 (b212_3 (mcall (d + 1)) x1 x2 o3 o4 o5 o6 o7 _) ?_
      refine rc_f (it := 18) (ie := 12) (ls' := [some (vR 0), some (vI x1), some (vI x2), some (vI ((-100000000))), o4, o5, o6, o7]) (st' := []) (b212_4 (mcall (d + 1)) x1 _ _) (pNf (cI1f q1)) ?_
      refine rc_b (i' := 15) (ls' := [some (vR 0), some (vI x1), some (vI x2), some (vI ((-100000000))), o4, o5, o6, o7]) (st' := [vI (z 46), vI x2]) (L' := LR z f) 3 (b212_8 (mcall (d + 1)) x1 x2 ((-100000000)) o4 o5 o6 o7 z f) ?_
      refine rc_t (it := 18) (ie := 16) (ls' := [some (vR 0), some (vI x1), some (vI x2), some (vI ((-100000000))), o4, o5, o6, o7]) (st' := []) (b212_9 (mcall (d + 1)) x2 (z 46) _ _) (pNt (cI1t q2)) ?_
      refine rc_b (i' := 26) (ls' := [some (vR 0), some (vI x1), some (vI x2), some (vI ((-100000000))), some (vI 100000000), some (vI 0), some (vI (x2 + 1)), o7]) (st' := []) (L' := LR z f) 8 (b212_5 (mcall (d + 1)) x1 x2 ((-100000000)) o4 o5 o6 o7 _) ?_
      exact H
    · have H := H.2 (cI1f q2)
      refine rc_b (i' := 11) (ls' := [some (vR 0), some (vI x1), some (vI x2), some (vI 0), o4, o5, o6, o7]) (st' := [vI x1]) (L' := LR z f) 4 (b212_10 (mcall (d + 1)) x1 x2 o3 o4 o5 o6 o7 _) ?_
      refine rc_f (it := 18) (ie := 12) (ls' := [some (vR 0), some (vI x1), some (vI x2), some (vI 0), o4, o5, o6, o7]) (st' := []) (b212_4 (mcall (d + 1)) x1 _ _) (pNf (cI1f q1)) ?_
      refine rc_b (i' := 15) (ls' := [some (vR 0), some (vI x1), some (vI x2), some (vI 0), o4, o5, o6, o7]) (st' := [vI (z 46), vI x2]) (L' := LR z f) 3 (b212_8 (mcall (d + 1)) x1 x2 0 o4 o5 o6 o7 z f) ?_
      refine rc_f (it := 18) (ie := 16) (ls' := [some (vR 0), some (vI x1), some (vI x2), some (vI 0), o4, o5, o6, o7]) (st' := []) (b212_9 (mcall (d + 1)) x2 (z 46) _ _) (pNf (cI1f q2)) ?_
      refine rc_b (i' := 26) (ls' := [some (vR 0), some (vI x1), some (vI x2), some (vI 0), some (vI 0), some (vI 0), some (vI (x2 + 1)), o7]) (st' := []) (L' := LR z f) 9 (b212_11 (mcall (d + 1)) x1 x2 0 o4 o5 o6 o7 _) ?_
      exact H
set_option maxRecDepth 100000 in
theorem bc26_212_1 (call : QC FA) (x1 : Int32) (x2 : Int32) (x3 : Int32) (x4 : Int32) (x5 : Int32) (x6 : Int32) (o7 : Option PV) (z : Nat → Int32) (f : Nat → FA) (F : Nat) : rnG call 212 (F + 3) 26 [some (vR 0), some (vI x1), some (vI x2), some (vI x3), some (vI x4), some (vI x5), some (vI x6), o7] [] (LR z f) = rnG call 212 F 29 [some (vR 0), some (vI x1), some (vI x2), some (vI x3), some (vI x4), some (vI x5), some (vI x6), o7] [vI (z 46), vI x6] (LR z f) := rfl
set_option maxRecDepth 100000 in
theorem bc26_212_2 (call : QC FA) (x y : Int32) (ls : List (Option PV)) (L : QH FA) (F : Nat) : rnG call 212 (F + 1) 29 ls [vI y, vI x] L = bif pcmp 4 x y then rnG call 212 F 86 ls [] L else rnG call 212 F 30 ls [] L := rfl
set_option maxRecDepth 100000 in
theorem bc26_212_3 (call : QC FA) (x1 : Int32) (x2 : Int32) (x3 : Int32) (x4 : Int32) (x5 : Int32) (x6 : Int32) (o7 : Option PV) (z : Nat → Int32) (f : Nat → FA) (F : Nat) : rnG call 212 (F + 8) 86 [some (vR 0), some (vI x1), some (vI x2), some (vI x3), some (vI x4), some (vI x5), some (vI x6), o7] [] (LR z f) = rnG call 212 F 94 [some (vR 0), some (vI x1), some (vI x2), some (vI x3), some (vI x4), some (vI x5), some (vI x6), o7] [vI x3, vI ((17 * x1) + x2), vR 27] (LR z f) := rfl
set_option maxRecDepth 100000 in
theorem bc26_212_4 (call : QC FA) (x y : Int32) (ls : List (Option PV)) (z : Nat → Int32) (f : Nat → FA) (F : Nat) : rnG call 212 (F + 1) 94 ls [vI y, vI x, vR 27] (LR z f) = bif (Nat.beq 0 0 && pin x 153) then rnG call 212 F 95 ls [] (LR z (uA f 27 (upd (f 27) (ix x) y))) else none := rfl
set_option maxRecDepth 100000 in
theorem bc26_212_5 (call : QC FA) (x1 : Int32) (x2 : Int32) (x3 : Int32) (x4 : Int32) (x5 : Int32) (x6 : Int32) (o7 : Option PV) (z : Nat → Int32) (f : Nat → FA) (F : Nat) : rnG call 212 (F + 8) 95 [some (vR 0), some (vI x1), some (vI x2), some (vI x3), some (vI x4), some (vI x5), some (vI x6), o7] [] (LR z f) = rnG call 212 F 103 [some (vR 0), some (vI x1), some (vI x2), some (vI x3), some (vI x4), some (vI x5), some (vI x6), o7] [vI x4, vI ((17 * x1) + x2), vR 28] (LR z f) := rfl
set_option maxRecDepth 100000 in
theorem bc26_212_6 (call : QC FA) (x y : Int32) (ls : List (Option PV)) (z : Nat → Int32) (f : Nat → FA) (F : Nat) : rnG call 212 (F + 1) 103 ls [vI y, vI x, vR 28] (LR z f) = bif (Nat.beq 0 0 && pin x 153) then rnG call 212 F 104 ls [] (LR z (uA f 28 (upd (f 28) (ix x) y))) else none := rfl
set_option maxRecDepth 100000 in
theorem bc26_212_7 (call : QC FA) (ls : List (Option PV)) (L : QH FA) (F : Nat) : rnG call 212 (F + 1) 104 ls [] L = some (none, L) := rfl
set_option maxRecDepth 100000 in
theorem bc26_212_8 (call : QC FA) (x1 : Int32) (x2 : Int32) (x3 : Int32) (x4 : Int32) (x5 : Int32) (x6 : Int32) (o7 : Option PV) (L : QH FA) (F : Nat) : rnG call 212 (F + 1) 30 [some (vR 0), some (vI x1), some (vI x2), some (vI x3), some (vI x4), some (vI x5), some (vI x6), o7] [] L = rnG call 212 F 31 [some (vR 0), some (vI x1), some (vI x2), some (vI x3), some (vI x4), some (vI x5), some (vI x6), o7] [vI x1] L := rfl
set_option maxRecDepth 100000 in
theorem bc26_212_9 (call : QC FA) (x : Int32) (ls : List (Option PV)) (L : QH FA) (F : Nat) : rnG call 212 (F + 1) 31 ls [vI x] L = bif pcmp 5 x 0 then rnG call 212 F 86 ls [] L else rnG call 212 F 32 ls [] L := rfl
set_option maxRecDepth 100000 in
theorem bc26_212_10 (call : QC FA) (x1 : Int32) (x2 : Int32) (x3 : Int32) (x4 : Int32) (x5 : Int32) (x6 : Int32) (o7 : Option PV) (z : Nat → Int32) (f : Nat → FA) (F : Nat) : rnG call 212 (F + 6) 32 [some (vR 0), some (vI x1), some (vI x2), some (vI x3), some (vI x4), some (vI x5), some (vI x6), o7] [] (LR z f) = rnG call 212 F 38 [some (vR 0), some (vI x1), some (vI x2), some (vI x3), some (vI x4), some (vI x5), some (vI x6), o7] [vI (x6 - 1), vR 26, vI x5] (LR z f) := rfl
set_option maxRecDepth 100000 in
theorem bc26_212_11 (call : QC FA) (x : Int32) (s0 : Int32) (ls : List (Option PV)) (z : Nat → Int32) (f : Nat → FA) (F : Nat) : rnG call 212 (F + 1) 38 ls [vI x, vR 26, vI s0] (LR z f) = bif (Nat.beq 0 0 && pin x 16) then rnG call 212 F 39 ls [vI (f 26 (ix x)), vI s0] (LR z f) else none := rfl
set_option maxRecDepth 100000 in
theorem bc26_212_12 (call : QC FA) (x1 : Int32) (x2 : Int32) (x3 : Int32) (x4 : Int32) (x5 : Int32) (x6 : Int32) (o7 : Option PV) (s0 : Int32) (s1 : Int32) (L : QH FA) (F : Nat) : rnG call 212 (F + 8) 39 [some (vR 0), some (vI x1), some (vI x2), some (vI x3), some (vI x4), some (vI x5), some (vI x6), o7] [vI s0, vI s1] L = rnG call 212 F 47 [some (vR 0), some (vI x1), some (vI x2), some (vI x3), some (vI x4), some (vI (s1 + s0)), some (vI x6), o7] [vI (x6 - x2), vI (2 * (s1 + s0))] L := rfl
set_option maxRecDepth 100000 in
theorem bc26_212_13 (call : QC FA) (x y : Int32) (ls : List (Option PV)) (L : QH FA) (F : Nat) : rnG call 212 (F + 1) 47 ls [vI y, vI x] L = bif pcmp 5 x y then rnG call 212 F 50 ls [] L else rnG call 212 F 48 ls [] L := rfl
set_option maxRecDepth 100000 in
theorem bc26_212_14 (call : QC FA) (x1 : Int32) (x2 : Int32) (x3 : Int32) (x4 : Int32) (x5 : Int32) (x6 : Int32) (o7 : Option PV) (z : Nat → Int32) (f : Nat → FA) (F : Nat) : rnG call 212 (F + 13) 50 [some (vR 0), some (vI x1), some (vI x2), some (vI x3), some (vI x4), some (vI x5), some (vI x6), o7] [] (LR z f) = rnG call 212 F 63 [some (vR 0), some (vI x1), some (vI x2), some (vI x3), some (vI x4), some (vI x5), some (vI x6), some (vI 0)] [vI ((17 * (x1 - 1)) + x6), vR 27, vI x3, vR 0] (LR z f) := rfl
set_option maxRecDepth 100000 in
theorem bc26_212_15 (call : QC FA) (x : Int32) (s0 : Int32) (ls : List (Option PV)) (z : Nat → Int32) (f : Nat → FA) (F : Nat) : rnG call 212 (F + 1) 63 ls [vI x, vR 27, vI s0, vR 0] (LR z f) = bif (Nat.beq 0 0 && pin x 153) then rnG call 212 F 64 ls [vI (f 27 (ix x)), vI s0, vR 0] (LR z f) else none := rfl
set_option maxRecDepth 100000 in
theorem bc26_212_16 (call : QC FA) (x1 : Int32) (x2 : Int32) (x3 : Int32) (x4 : Int32) (x5 : Int32) (x6 : Int32) (x7 : Int32) (s0 : Int32) (s1 : Int32) (L : QH FA) (F : Nat) : rnG call 212 (F + 2) 64 [some (vR 0), some (vI x1), some (vI x2), some (vI x3), some (vI x4), some (vI x5), some (vI x6), some (vI x7)] [vI s0, vI s1, vR 0] L = rnG call 212 F 66 [some (vR 0), some (vI x1), some (vI x2), some (vI x3), some (vI x4), some (vI x5), some (vI x6), some (vI x7)] [vI (s0 + x7), vI s1, vR 0] L := rfl
set_option maxRecDepth 100000 in
theorem bc26_212_17 (call : QC FA) (a0 : Int32) (a1 : Int32) (ls : List (Option PV)) (z : Nat → Int32) (f : Nat → FA) (F : Nat) : rnG call 212 (F + 1) 66 ls [vI a1, vI a0, vR 0] (LR z f) = cbd (call 68 [vR 0, vI a0, vI a1] (LR z f)) (fun r L' => rnG call 212 F 67 ls (r.toList ++ []) L') := pcY (ih := rnG call 212 F) (call := call) (a := 68) (b := 2) (v := 12) (t := 67) (x := 0) (ls := ls) (As := [vI a0, vI a1]) (st' := []) (L := LR z f) rfl rfl rfl
set_option maxRecDepth 100000 in
theorem bc26_212_18 (call : QC FA) (x1 : Int32) (x2 : Int32) (x3 : Int32) (x4 : Int32) (x5 : Int32) (x6 : Int32) (x7 : Int32) (s0 : Int32) (z : Nat → Int32) (f : Nat → FA) (F : Nat) : rnG call 212 (F + 12) 67 [some (vR 0), some (vI x1), some (vI x2), some (vI x3), some (vI x4), some (vI x5), some (vI x6), some (vI x7)] [vI s0] (LR z f) = rnG call 212 F 79 [some (vR 0), some (vI x1), some (vI x2), some (vI s0), some (vI x4), some (vI x5), some (vI x6), some (vI x7)] [vI ((17 * (x1 - 1)) + x6), vR 28, vI x4, vR 0] (LR z f) := rfl
set_option maxRecDepth 100000 in
theorem bc26_212_19 (call : QC FA) (x : Int32) (s0 : Int32) (ls : List (Option PV)) (z : Nat → Int32) (f : Nat → FA) (F : Nat) : rnG call 212 (F + 1) 79 ls [vI x, vR 28, vI s0, vR 0] (LR z f) = bif (Nat.beq 0 0 && pin x 153) then rnG call 212 F 80 ls [vI (f 28 (ix x)), vI s0, vR 0] (LR z f) else none := rfl
set_option maxRecDepth 100000 in
theorem bc26_212_20 (call : QC FA) (x1 : Int32) (x2 : Int32) (x3 : Int32) (x4 : Int32) (x5 : Int32) (x6 : Int32) (x7 : Int32) (s0 : Int32) (s1 : Int32) (L : QH FA) (F : Nat) : rnG call 212 (F + 2) 80 [some (vR 0), some (vI x1), some (vI x2), some (vI x3), some (vI x4), some (vI x5), some (vI x6), some (vI x7)] [vI s0, vI s1, vR 0] L = rnG call 212 F 82 [some (vR 0), some (vI x1), some (vI x2), some (vI x3), some (vI x4), some (vI x5), some (vI x6), some (vI x7)] [vI (s0 + x7), vI s1, vR 0] L := rfl
set_option maxRecDepth 100000 in
theorem bc26_212_21 (call : QC FA) (a0 : Int32) (a1 : Int32) (ls : List (Option PV)) (z : Nat → Int32) (f : Nat → FA) (F : Nat) : rnG call 212 (F + 1) 82 ls [vI a1, vI a0, vR 0] (LR z f) = cbd (call 62 [vR 0, vI a0, vI a1] (LR z f)) (fun r L' => rnG call 212 F 83 ls (r.toList ++ []) L') := pcY (ih := rnG call 212 F) (call := call) (a := 62) (b := 2) (v := 12) (t := 83) (x := 0) (ls := ls) (As := [vI a0, vI a1]) (st' := []) (L := LR z f) rfl rfl rfl
set_option maxRecDepth 100000 in
theorem bc26_212_22 (call : QC FA) (x1 : Int32) (x2 : Int32) (x3 : Int32) (x4 : Int32) (x5 : Int32) (x6 : Int32) (x7 : Int32) (s0 : Int32) (L : QH FA) (F : Nat) : rnG call 212 (F + 1) 83 [some (vR 0), some (vI x1), some (vI x2), some (vI x3), some (vI x4), some (vI x5), some (vI x6), some (vI x7)] [vI s0] L = rnG call 212 F 84 [some (vR 0), some (vI x1), some (vI x2), some (vI x3), some (vI s0), some (vI x5), some (vI x6), some (vI x7)] [] L := rfl
set_option maxRecDepth 100000 in
theorem bc26_212_23 (call : QC FA) (x1 : Int32) (x2 : Int32) (x3 : Int32) (x4 : Int32) (x5 : Int32) (x6 : Int32) (x7 : Int32) (L : QH FA) (F : Nat) : rnG call 212 (F + 1) 84 [some (vR 0), some (vI x1), some (vI x2), some (vI x3), some (vI x4), some (vI x5), some (vI x6), some (vI x7)] [] L = rnG call 212 F 85 [some (vR 0), some (vI x1), some (vI x2), some (vI x3), some (vI x4), some (vI x5), some (vI (x6 + 1)), some (vI x7)] [] L := rfl
set_option maxRecDepth 100000 in
theorem bc26_212_24 (call : QC FA) (x1 : Int32) (x2 : Int32) (x3 : Int32) (x4 : Int32) (x5 : Int32) (x6 : Int32) (x7 : Int32) (L : QH FA) (F : Nat) : rnG call 212 (F + 1) 85 [some (vR 0), some (vI x1), some (vI x2), some (vI x3), some (vI x4), some (vI x5), some (vI x6), some (vI x7)] [] L = rnG call 212 F 26 [some (vR 0), some (vI x1), some (vI x2), some (vI x3), some (vI x4), some (vI x5), some (vI x6), some (vI x7)] [] L := rfl
set_option maxRecDepth 100000 in
theorem bc26_212_25 (call : QC FA) (x1 : Int32) (x2 : Int32) (x3 : Int32) (x4 : Int32) (x5 : Int32) (x6 : Int32) (o7 : Option PV) (z : Nat → Int32) (f : Nat → FA) (F : Nat) : rnG call 212 (F + 14) 48 [some (vR 0), some (vI x1), some (vI x2), some (vI x3), some (vI x4), some (vI x5), some (vI x6), o7] [] (LR z f) = rnG call 212 F 63 [some (vR 0), some (vI x1), some (vI x2), some (vI x3), some (vI x4), some (vI x5), some (vI x6), some (vI 1)] [vI ((17 * (x1 - 1)) + x6), vR 27, vI x3, vR 0] (LR z f) := rfl
theorem vcc26_212_26 (d : Nat) (x1 : Int32) (x2 : Int32) (x3 : Int32) (x4 : Int32) (x5 : Int32) (x6 : Int32) (o7 : Option PV) (z : Nat → Int32) (f : Nat → FA) (res : Option PV × QH FA) (H : ((I (z 46) < I x6 → (pin ((17 * x1) + x2) 153 = true ∧ (pin ((17 * x1) + x2) 153 = true ∧ res = (none, LR z (uA (uA f 27 (upd (f 27) (ix ((17 * x1) + x2)) x3)) 28 (upd (f 28) (ix ((17 * x1) + x2)) x4)))))) ∧ (I x6 ≤ I (z 46) → ((I x1 ≤ 0 → (pin ((17 * x1) + x2) 153 = true ∧ (pin ((17 * x1) + x2) 153 = true ∧ res = (none, LR z (uA (uA f 27 (upd (f 27) (ix ((17 * x1) + x2)) x3)) 28 (upd (f 28) (ix ((17 * x1) + x2)) x4)))))) ∧ (0 < I x1 → (pin (x6 - 1) 16 = true ∧ ((I (2 * (x5 + (f 26 (ix (x6 - 1))))) ≤ I (x6 - x2) → (pin ((17 * (x1 - 1)) + x6) 153 = true ∧ (∃ (r1 : Int32) (z1 : Nat → Int32) (f1 : Nat → FA), (mcall (d + 1)) 68 [vR 0, vI x3, vI ((f 27 (ix ((17 * (x1 - 1)) + x6))) + 0)] (LR z f) = some (some (vI r1), LR z1 f1) ∧ (pin ((17 * (x1 - 1)) + x6) 153 = true ∧ (∃ (r2 : Int32) (z2 : Nat → Int32) (f2 : Nat → FA), (mcall (d + 1)) 62 [vR 0, vI x4, vI ((f1 28 (ix ((17 * (x1 - 1)) + x6))) + 0)] (LR z1 f1) = some (some (vI r2), LR z2 f2) ∧ RC (mcall (d + 1)) (mP 212) 26 [some (vR 0), some (vI x1), some (vI x2), some (vI r1), some (vI r2), some (vI (x5 + (f 26 (ix (x6 - 1))))), some (vI (x6 + 1)), some (vI 0)] [] (LR z2 f2) res))))) ∧ (I (x6 - x2) < I (2 * (x5 + (f 26 (ix (x6 - 1))))) → (pin ((17 * (x1 - 1)) + x6) 153 = true ∧ (∃ (r3 : Int32) (z3 : Nat → Int32) (f3 : Nat → FA), (mcall (d + 1)) 68 [vR 0, vI x3, vI ((f 27 (ix ((17 * (x1 - 1)) + x6))) + 1)] (LR z f) = some (some (vI r3), LR z3 f3) ∧ (pin ((17 * (x1 - 1)) + x6) 153 = true ∧ (∃ (r4 : Int32) (z4 : Nat → Int32) (f4 : Nat → FA), (mcall (d + 1)) 62 [vR 0, vI x4, vI ((f3 28 (ix ((17 * (x1 - 1)) + x6))) + 1)] (LR z3 f3) = some (some (vI r4), LR z4 f4) ∧ RC (mcall (d + 1)) (mP 212) 26 [some (vR 0), some (vI x1), some (vI x2), some (vI r3), some (vI r4), some (vI (x5 + (f 26 (ix (x6 - 1))))), some (vI (x6 + 1)), some (vI 1)] [] (LR z4 f4) res)))))))))))) : RC (mcall (d + 1)) (mP 212) 26 [some (vR 0), some (vI x1), some (vI x2), some (vI x3), some (vI x4), some (vI x5), some (vI x6), o7] [] (LR z f) res := by
  refine rc_b (i' := 29) (ls' := [some (vR 0), some (vI x1), some (vI x2), some (vI x3), some (vI x4), some (vI x5), some (vI x6), o7]) (st' := [vI (z 46), vI x6]) (L' := LR z f) 3 (bc26_212_1 (mcall (d + 1)) x1 x2 x3 x4 x5 x6 o7 z f) ?_
  refine rc_if (it := 86) (ie := 30) (ls' := [some (vR 0), some (vI x1), some (vI x2), some (vI x3), some (vI x4), some (vI x5), some (vI x6), o7]) (st' := []) (bc26_212_2 (mcall (d + 1)) x6 (z 46) _ _) (fun q1 => ?_) (fun q1 => ?_)
  · have H := H.1 (cI4t q1 rfl rfl)
    refine rc_b (i' := 94) (ls' := [some (vR 0), some (vI x1), some (vI x2), some (vI x3), some (vI x4), some (vI x5), some (vI x6), o7]) (st' := [vI x3, vI ((17 * x1) + x2), vR 27]) (L' := LR z f) 8 (bc26_212_3 (mcall (d + 1)) x1 x2 x3 x4 x5 x6 o7 z f) ?_
    obtain ⟨g1, H⟩ := H
    refine rc_g (i' := 95) (ls' := [some (vR 0), some (vI x1), some (vI x2), some (vI x3), some (vI x4), some (vI x5), some (vI x6), o7]) (st' := []) (L' := LR z (uA f 27 (upd (f 27) (ix ((17 * x1) + x2)) x3))) (bc26_212_4 (mcall (d + 1)) ((17 * x1) + x2) x3 _ z f) (pinG g1) ?_
    refine rc_b (i' := 103) (ls' := [some (vR 0), some (vI x1), some (vI x2), some (vI x3), some (vI x4), some (vI x5), some (vI x6), o7]) (st' := [vI x4, vI ((17 * x1) + x2), vR 28]) (L' := LR z (uA f 27 (upd (f 27) (ix ((17 * x1) + x2)) x3))) 8 (bc26_212_5 (mcall (d + 1)) x1 x2 x3 x4 x5 x6 o7 z (uA f 27 (upd (f 27) (ix ((17 * x1) + x2)) x3))) ?_
    obtain ⟨g1, H⟩ := H
    refine rc_g (i' := 104) (ls' := [some (vR 0), some (vI x1), some (vI x2), some (vI x3), some (vI x4), some (vI x5), some (vI x6), o7]) (st' := []) (L' := LR z (uA (uA f 27 (upd (f 27) (ix ((17 * x1) + x2)) x3)) 28 (upd (f 28) (ix ((17 * x1) + x2)) x4))) (bc26_212_6 (mcall (d + 1)) ((17 * x1) + x2) x4 _ z (uA f 27 (upd (f 27) (ix ((17 * x1) + x2)) x3))) (pinG g1) ?_
    subst H
    exact rc_ret (bc26_212_7 (mcall (d + 1)) _ _)
  · have H := H.2 (cI4f q1 rfl rfl)
    refine rc_b (i' := 31) (ls' := [some (vR 0), some (vI x1), some (vI x2), some (vI x3), some (vI x4), some (vI x5), some (vI x6), o7]) (st' := [vI x1]) (L' := LR z f) 1 (bc26_212_8 (mcall (d + 1)) x1 x2 x3 x4 x5 x6 o7 _) ?_
    refine rc_if (it := 86) (ie := 32) (ls' := [some (vR 0), some (vI x1), some (vI x2), some (vI x3), some (vI x4), some (vI x5), some (vI x6), o7]) (st' := []) (bc26_212_9 (mcall (d + 1)) x1 _ _) (fun q2 => ?_) (fun q2 => ?_)
    · have H := H.1 (cI5t q2 rfl rfl)
      refine rc_b (i' := 94) (ls' := [some (vR 0), some (vI x1), some (vI x2), some (vI x3), some (vI x4), some (vI x5), some (vI x6), o7]) (st' := [vI x3, vI ((17 * x1) + x2), vR 27]) (L' := LR z f) 8 (bc26_212_3 (mcall (d + 1)) x1 x2 x3 x4 x5 x6 o7 z f) ?_
      obtain ⟨g1, H⟩ := H
      refine rc_g (i' := 95) (ls' := [some (vR 0), some (vI x1), some (vI x2), some (vI x3), some (vI x4), some (vI x5), some (vI x6), o7]) (st' := []) (L' := LR z (uA f 27 (upd (f 27) (ix ((17 * x1) + x2)) x3))) (bc26_212_4 (mcall (d + 1)) ((17 * x1) + x2) x3 _ z f) (pinG g1) ?_
      refine rc_b (i' := 103) (ls' := [some (vR 0), some (vI x1), some (vI x2), some (vI x3), some (vI x4), some (vI x5), some (vI x6), o7]) (st' := [vI x4, vI ((17 * x1) + x2), vR 28]) (L' := LR z (uA f 27 (upd (f 27) (ix ((17 * x1) + x2)) x3))) 8 (bc26_212_5 (mcall (d + 1)) x1 x2 x3 x4 x5 x6 o7 z (uA f 27 (upd (f 27) (ix ((17 * x1) + x2)) x3))) ?_
      obtain ⟨g1, H⟩ := H
      refine rc_g (i' := 104) (ls' := [some (vR 0), some (vI x1), some (vI x2), some (vI x3), some (vI x4), some (vI x5), some (vI x6), o7]) (st' := []) (L' := LR z (uA (uA f 27 (upd (f 27) (ix ((17 * x1) + x2)) x3)) 28 (upd (f 28) (ix ((17 * x1) + x2)) x4))) (bc26_212_6 (mcall (d + 1)) ((17 * x1) + x2) x4 _ z (uA f 27 (upd (f 27) (ix ((17 * x1) + x2)) x3))) (pinG g1) ?_
      subst H
      exact rc_ret (bc26_212_7 (mcall (d + 1)) _ _)
    · have H := H.2 (cI5f q2 rfl rfl)
      refine rc_b (i' := 38) (ls' := [some (vR 0), some (vI x1), some (vI x2), some (vI x3), some (vI x4), some (vI x5), some (vI x6), o7]) (st' := [vI (x6 - 1), vR 26, vI x5]) (L' := LR z f) 6 (bc26_212_10 (mcall (d + 1)) x1 x2 x3 x4 x5 x6 o7 z f) ?_
      obtain ⟨g1, H⟩ := H
      refine rc_g (i' := 39) (ls' := [some (vR 0), some (vI x1), some (vI x2), some (vI x3), some (vI x4), some (vI x5), some (vI x6), o7]) (st' := [vI (f 26 (ix (x6 - 1))), vI x5]) (L' := LR z f) (bc26_212_11 (mcall (d + 1)) (x6 - 1) x5 _ z f) (pinG g1) ?_
      refine rc_b (i' := 47) (ls' := [some (vR 0), some (vI x1), some (vI x2), some (vI x3), some (vI x4), some (vI (x5 + (f 26 (ix (x6 - 1))))), some (vI x6), o7]) (st' := [vI (x6 - x2), vI (2 * (x5 + (f 26 (ix (x6 - 1)))))]) (L' := LR z f) 8 (bc26_212_12 (mcall (d + 1)) x1 x2 x3 x4 x5 x6 o7 (f 26 (ix (x6 - 1))) x5 _) ?_
      refine rc_if (it := 50) (ie := 48) (ls' := [some (vR 0), some (vI x1), some (vI x2), some (vI x3), some (vI x4), some (vI (x5 + (f 26 (ix (x6 - 1))))), some (vI x6), o7]) (st' := []) (bc26_212_13 (mcall (d + 1)) (2 * (x5 + (f 26 (ix (x6 - 1))))) (x6 - x2) _ _) (fun q3 => ?_) (fun q3 => ?_)
      · have H := H.1 (cI5t q3 rfl rfl)
        refine rc_b (i' := 63) (ls' := [some (vR 0), some (vI x1), some (vI x2), some (vI x3), some (vI x4), some (vI (x5 + (f 26 (ix (x6 - 1))))), some (vI x6), some (vI 0)]) (st' := [vI ((17 * (x1 - 1)) + x6), vR 27, vI x3, vR 0]) (L' := LR z f) 13 (bc26_212_14 (mcall (d + 1)) x1 x2 x3 x4 (x5 + (f 26 (ix (x6 - 1)))) x6 o7 z f) ?_
        obtain ⟨g1, H⟩ := H
        refine rc_g (i' := 64) (ls' := [some (vR 0), some (vI x1), some (vI x2), some (vI x3), some (vI x4), some (vI (x5 + (f 26 (ix (x6 - 1))))), some (vI x6), some (vI 0)]) (st' := [vI (f 27 (ix ((17 * (x1 - 1)) + x6))), vI x3, vR 0]) (L' := LR z f) (bc26_212_15 (mcall (d + 1)) ((17 * (x1 - 1)) + x6) x3 _ z f) (pinG g1) ?_
        refine rc_b (i' := 66) (ls' := [some (vR 0), some (vI x1), some (vI x2), some (vI x3), some (vI x4), some (vI (x5 + (f 26 (ix (x6 - 1))))), some (vI x6), some (vI 0)]) (st' := [vI ((f 27 (ix ((17 * (x1 - 1)) + x6))) + 0), vI x3, vR 0]) (L' := LR z f) 2 (bc26_212_16 (mcall (d + 1)) x1 x2 x3 x4 (x5 + (f 26 (ix (x6 - 1)))) x6 0 (f 27 (ix ((17 * (x1 - 1)) + x6))) x3 _) ?_
        obtain ⟨r1, z1, f1, hc, H⟩ := H
        refine rc_call (t := 67) (ls' := [some (vR 0), some (vI x1), some (vI x2), some (vI x3), some (vI x4), some (vI (x5 + (f 26 (ix (x6 - 1))))), some (vI x6), some (vI 0)]) (st' := []) (bc26_212_17 (mcall (d + 1)) x3 ((f 27 (ix ((17 * (x1 - 1)) + x6))) + 0) _ z f) hc ?_
        show RC (mcall (d + 1)) (mP 212) 67 [some (vR 0), some (vI x1), some (vI x2), some (vI x3), some (vI x4), some (vI (x5 + (f 26 (ix (x6 - 1))))), some (vI x6), some (vI 0)] [vI r1] (LR z1 f1) res
        refine rc_b (i' := 79) (ls' := [some (vR 0), some (vI x1), some (vI x2), some (vI r1), some (vI x4), some (vI (x5 + (f 26 (ix (x6 - 1))))), some (vI x6), some (vI 0)]) (st' := [vI ((17 * (x1 - 1)) + x6), vR 28, vI x4, vR 0]) (L' := LR z1 f1) 12 (bc26_212_18 (mcall (d + 1)) x1 x2 x3 x4 (x5 + (f 26 (ix (x6 - 1)))) x6 0 r1 z1 f1) ?_
        obtain ⟨g1, H⟩ := H
        refine rc_g (i' := 80) (ls' := [some (vR 0), some (vI x1), some (vI x2), some (vI r1), some (vI x4), some (vI (x5 + (f 26 (ix (x6 - 1))))), some (vI x6), some (vI 0)]) (st' := [vI (f1 28 (ix ((17 * (x1 - 1)) + x6))), vI x4, vR 0]) (L' := LR z1 f1) (bc26_212_19 (mcall (d + 1)) ((17 * (x1 - 1)) + x6) x4 _ z1 f1) (pinG g1) ?_
        refine rc_b (i' := 82) (ls' := [some (vR 0), some (vI x1), some (vI x2), some (vI r1), some (vI x4), some (vI (x5 + (f 26 (ix (x6 - 1))))), some (vI x6), some (vI 0)]) (st' := [vI ((f1 28 (ix ((17 * (x1 - 1)) + x6))) + 0), vI x4, vR 0]) (L' := LR z1 f1) 2 (bc26_212_20 (mcall (d + 1)) x1 x2 r1 x4 (x5 + (f 26 (ix (x6 - 1)))) x6 0 (f1 28 (ix ((17 * (x1 - 1)) + x6))) x4 _) ?_
        obtain ⟨r2, z2, f2, hc, H⟩ := H
        refine rc_call (t := 83) (ls' := [some (vR 0), some (vI x1), some (vI x2), some (vI r1), some (vI x4), some (vI (x5 + (f 26 (ix (x6 - 1))))), some (vI x6), some (vI 0)]) (st' := []) (bc26_212_21 (mcall (d + 1)) x4 ((f1 28 (ix ((17 * (x1 - 1)) + x6))) + 0) _ z1 f1) hc ?_
        show RC (mcall (d + 1)) (mP 212) 83 [some (vR 0), some (vI x1), some (vI x2), some (vI r1), some (vI x4), some (vI (x5 + (f 26 (ix (x6 - 1))))), some (vI x6), some (vI 0)] [vI r2] (LR z2 f2) res
        refine rc_b (i' := 84) (ls' := [some (vR 0), some (vI x1), some (vI x2), some (vI r1), some (vI r2), some (vI (x5 + (f 26 (ix (x6 - 1))))), some (vI x6), some (vI 0)]) (st' := []) (L' := LR z2 f2) 1 (bc26_212_22 (mcall (d + 1)) x1 x2 r1 x4 (x5 + (f 26 (ix (x6 - 1)))) x6 0 r2 _) ?_
        refine rc_b (i' := 85) (ls' := [some (vR 0), some (vI x1), some (vI x2), some (vI r1), some (vI r2), some (vI (x5 + (f 26 (ix (x6 - 1))))), some (vI (x6 + 1)), some (vI 0)]) (st' := []) (L' := LR z2 f2) 1 (bc26_212_23 (mcall (d + 1)) x1 x2 r1 r2 (x5 + (f 26 (ix (x6 - 1)))) x6 0 _) ?_
        refine rc_b (i' := 26) (ls' := [some (vR 0), some (vI x1), some (vI x2), some (vI r1), some (vI r2), some (vI (x5 + (f 26 (ix (x6 - 1))))), some (vI (x6 + 1)), some (vI 0)]) (st' := []) (L' := LR z2 f2) 1 (bc26_212_24 (mcall (d + 1)) x1 x2 r1 r2 (x5 + (f 26 (ix (x6 - 1)))) (x6 + 1) 0 _) ?_
        exact H
      · have H := H.2 (cI5f q3 rfl rfl)
        refine rc_b (i' := 63) (ls' := [some (vR 0), some (vI x1), some (vI x2), some (vI x3), some (vI x4), some (vI (x5 + (f 26 (ix (x6 - 1))))), some (vI x6), some (vI 1)]) (st' := [vI ((17 * (x1 - 1)) + x6), vR 27, vI x3, vR 0]) (L' := LR z f) 14 (bc26_212_25 (mcall (d + 1)) x1 x2 x3 x4 (x5 + (f 26 (ix (x6 - 1)))) x6 o7 z f) ?_
        obtain ⟨g1, H⟩ := H
        refine rc_g (i' := 64) (ls' := [some (vR 0), some (vI x1), some (vI x2), some (vI x3), some (vI x4), some (vI (x5 + (f 26 (ix (x6 - 1))))), some (vI x6), some (vI 1)]) (st' := [vI (f 27 (ix ((17 * (x1 - 1)) + x6))), vI x3, vR 0]) (L' := LR z f) (bc26_212_15 (mcall (d + 1)) ((17 * (x1 - 1)) + x6) x3 _ z f) (pinG g1) ?_
        refine rc_b (i' := 66) (ls' := [some (vR 0), some (vI x1), some (vI x2), some (vI x3), some (vI x4), some (vI (x5 + (f 26 (ix (x6 - 1))))), some (vI x6), some (vI 1)]) (st' := [vI ((f 27 (ix ((17 * (x1 - 1)) + x6))) + 1), vI x3, vR 0]) (L' := LR z f) 2 (bc26_212_16 (mcall (d + 1)) x1 x2 x3 x4 (x5 + (f 26 (ix (x6 - 1)))) x6 1 (f 27 (ix ((17 * (x1 - 1)) + x6))) x3 _) ?_
        obtain ⟨r3, z3, f3, hc, H⟩ := H
        refine rc_call (t := 67) (ls' := [some (vR 0), some (vI x1), some (vI x2), some (vI x3), some (vI x4), some (vI (x5 + (f 26 (ix (x6 - 1))))), some (vI x6), some (vI 1)]) (st' := []) (bc26_212_17 (mcall (d + 1)) x3 ((f 27 (ix ((17 * (x1 - 1)) + x6))) + 1) _ z f) hc ?_
        show RC (mcall (d + 1)) (mP 212) 67 [some (vR 0), some (vI x1), some (vI x2), some (vI x3), some (vI x4), some (vI (x5 + (f 26 (ix (x6 - 1))))), some (vI x6), some (vI 1)] [vI r3] (LR z3 f3) res
        refine rc_b (i' := 79) (ls' := [some (vR 0), some (vI x1), some (vI x2), some (vI r3), some (vI x4), some (vI (x5 + (f 26 (ix (x6 - 1))))), some (vI x6), some (vI 1)]) (st' := [vI ((17 * (x1 - 1)) + x6), vR 28, vI x4, vR 0]) (L' := LR z3 f3) 12 (bc26_212_18 (mcall (d + 1)) x1 x2 x3 x4 (x5 + (f 26 (ix (x6 - 1)))) x6 1 r3 z3 f3) ?_
        obtain ⟨g1, H⟩ := H
        refine rc_g (i' := 80) (ls' := [some (vR 0), some (vI x1), some (vI x2), some (vI r3), some (vI x4), some (vI (x5 + (f 26 (ix (x6 - 1))))), some (vI x6), some (vI 1)]) (st' := [vI (f3 28 (ix ((17 * (x1 - 1)) + x6))), vI x4, vR 0]) (L' := LR z3 f3) (bc26_212_19 (mcall (d + 1)) ((17 * (x1 - 1)) + x6) x4 _ z3 f3) (pinG g1) ?_
        refine rc_b (i' := 82) (ls' := [some (vR 0), some (vI x1), some (vI x2), some (vI r3), some (vI x4), some (vI (x5 + (f 26 (ix (x6 - 1))))), some (vI x6), some (vI 1)]) (st' := [vI ((f3 28 (ix ((17 * (x1 - 1)) + x6))) + 1), vI x4, vR 0]) (L' := LR z3 f3) 2 (bc26_212_20 (mcall (d + 1)) x1 x2 r3 x4 (x5 + (f 26 (ix (x6 - 1)))) x6 1 (f3 28 (ix ((17 * (x1 - 1)) + x6))) x4 _) ?_
        obtain ⟨r4, z4, f4, hc, H⟩ := H
        refine rc_call (t := 83) (ls' := [some (vR 0), some (vI x1), some (vI x2), some (vI r3), some (vI x4), some (vI (x5 + (f 26 (ix (x6 - 1))))), some (vI x6), some (vI 1)]) (st' := []) (bc26_212_21 (mcall (d + 1)) x4 ((f3 28 (ix ((17 * (x1 - 1)) + x6))) + 1) _ z3 f3) hc ?_
        show RC (mcall (d + 1)) (mP 212) 83 [some (vR 0), some (vI x1), some (vI x2), some (vI r3), some (vI x4), some (vI (x5 + (f 26 (ix (x6 - 1))))), some (vI x6), some (vI 1)] [vI r4] (LR z4 f4) res
        refine rc_b (i' := 84) (ls' := [some (vR 0), some (vI x1), some (vI x2), some (vI r3), some (vI r4), some (vI (x5 + (f 26 (ix (x6 - 1))))), some (vI x6), some (vI 1)]) (st' := []) (L' := LR z4 f4) 1 (bc26_212_22 (mcall (d + 1)) x1 x2 r3 x4 (x5 + (f 26 (ix (x6 - 1)))) x6 1 r4 _) ?_
        refine rc_b (i' := 85) (ls' := [some (vR 0), some (vI x1), some (vI x2), some (vI r3), some (vI r4), some (vI (x5 + (f 26 (ix (x6 - 1))))), some (vI (x6 + 1)), some (vI 1)]) (st' := []) (L' := LR z4 f4) 1 (bc26_212_23 (mcall (d + 1)) x1 x2 r3 r4 (x5 + (f 26 (ix (x6 - 1)))) x6 1 _) ?_
        refine rc_b (i' := 26) (ls' := [some (vR 0), some (vI x1), some (vI x2), some (vI r3), some (vI r4), some (vI (x5 + (f 26 (ix (x6 - 1))))), some (vI (x6 + 1)), some (vI 1)]) (st' := []) (L' := LR z4 f4) 1 (bc26_212_24 (mcall (d + 1)) x1 x2 r3 r4 (x5 + (f 26 (ix (x6 - 1)))) (x6 + 1) 1 _) ?_
        exact H
set_option maxRecDepth 100000 in
theorem b246_1 (call : QC FA) (x1 : Int32) (x2 : Int32) (o3 : Option PV) (o4 : Option PV) (L : QH FA) (F : Nat) : rnG call 246 (F + 2) 0 [some (vR 0), some (vI x1), some (vI x2), o3, o4] [] L = rnG call 246 F 2 [some (vR 0), some (vI x1), some (vI x2), o3, o4] [vI 0, vR 0] L := rfl
set_option maxRecDepth 100000 in
theorem b246_2 (call : QC FA) (y : Int32) (ls : List (Option PV)) (z : Nat → Int32) (f : Nat → FA) (F : Nat) : rnG call 246 (F + 1) 2 ls [vI y, vR 0] (LR z f) = rnG call 246 F 3 ls [] (LR (uZ z 0 y) f) := rfl
set_option maxRecDepth 100000 in
theorem b246_3 (call : QC FA) (x1 : Int32) (x2 : Int32) (o3 : Option PV) (o4 : Option PV) (L : QH FA) (F : Nat) : rnG call 246 (F + 4) 3 [some (vR 0), some (vI x1), some (vI x2), o3, o4] [] L = rnG call 246 F 7 [some (vR 0), some (vI x1), some (vI x2), o3, o4] [vI 8, vI 1, vI x1, vR 0] L := rfl
set_option maxRecDepth 100000 in
theorem b246_4 (call : QC FA) (a0 : Int32) (a1 : Int32) (a2 : Int32) (ls : List (Option PV)) (z : Nat → Int32) (f : Nat → FA) (F : Nat) : rnG call 246 (F + 1) 7 ls [vI a2, vI a1, vI a0, vR 0] (LR z f) = cbd (call 47 [vR 0, vI a0, vI a1, vI a2] (LR z f)) (fun r L' => rnG call 246 F 8 ls (r.toList ++ []) L') := pcY (ih := rnG call 246 F) (call := call) (a := 47) (b := 3) (v := 12) (t := 8) (x := 0) (ls := ls) (As := [vI a0, vI a1, vI a2]) (st' := []) (L := LR z f) rfl rfl rfl
set_option maxRecDepth 100000 in
theorem b246_5 (call : QC FA) (x : Int32) (ls : List (Option PV)) (L : QH FA) (F : Nat) : rnG call 246 (F + 1) 8 ls [vI x] L = bif pcmp 0 x 0 then rnG call 246 F 19 ls [] L else rnG call 246 F 9 ls [] L := rfl
set_option maxRecDepth 100000 in
theorem b246_6 (call : QC FA) (x1 : Int32) (x2 : Int32) (o3 : Option PV) (o4 : Option PV) (L : QH FA) (F : Nat) : rnG call 246 (F + 1) 19 [some (vR 0), some (vI x1), some (vI x2), o3, o4] [] L = rnG call 246 F 20 [some (vR 0), some (vI x1), some (vI x2), o3, o4] [vI ((-1))] L := rfl
set_option maxRecDepth 100000 in
theorem b246_7 (call : QC FA) (x : Int32) (ls : List (Option PV)) (L : QH FA) (F : Nat) : rnG call 246 (F + 1) 20 ls [vI x] L = some (some (vI x), L) := rfl
set_option maxRecDepth 100000 in
theorem b246_8 (call : QC FA) (x1 : Int32) (x2 : Int32) (o3 : Option PV) (o4 : Option PV) (z : Nat → Int32) (f : Nat → FA) (F : Nat) : rnG call 246 (F + 3) 9 [some (vR 0), some (vI x1), some (vI x2), o3, o4] [] (LR z f) = rnG call 246 F 12 [some (vR 0), some (vI x1), some (vI x2), o3, o4] [vI (z 46), vI x1] (LR z f) := rfl
set_option maxRecDepth 100000 in
theorem b246_9 (call : QC FA) (x y : Int32) (ls : List (Option PV)) (L : QH FA) (F : Nat) : rnG call 246 (F + 1) 12 ls [vI y, vI x] L = bif pcmp 4 x y then rnG call 246 F 19 ls [] L else rnG call 246 F 13 ls [] L := rfl
set_option maxRecDepth 100000 in
theorem b246_10 (call : QC FA) (x1 : Int32) (x2 : Int32) (o3 : Option PV) (o4 : Option PV) (L : QH FA) (F : Nat) : rnG call 246 (F + 4) 13 [some (vR 0), some (vI x1), some (vI x2), o3, o4] [] L = rnG call 246 F 17 [some (vR 0), some (vI x1), some (vI x2), o3, o4] [vI 1, vI 0, vI x2, vR 0] L := rfl
set_option maxRecDepth 100000 in
theorem b246_11 (call : QC FA) (a0 : Int32) (a1 : Int32) (a2 : Int32) (ls : List (Option PV)) (z : Nat → Int32) (f : Nat → FA) (F : Nat) : rnG call 246 (F + 1) 17 ls [vI a2, vI a1, vI a0, vR 0] (LR z f) = cbd (call 47 [vR 0, vI a0, vI a1, vI a2] (LR z f)) (fun r L' => rnG call 246 F 18 ls (r.toList ++ []) L') := pcY (ih := rnG call 246 F) (call := call) (a := 47) (b := 3) (v := 12) (t := 18) (x := 0) (ls := ls) (As := [vI a0, vI a1, vI a2]) (st' := []) (L := LR z f) rfl rfl rfl
set_option maxRecDepth 100000 in
theorem b246_12 (call : QC FA) (x : Int32) (ls : List (Option PV)) (L : QH FA) (F : Nat) : rnG call 246 (F + 1) 18 ls [vI x] L = bif pcmp 1 x 0 then rnG call 246 F 21 ls [] L else rnG call 246 F 19 ls [] L := rfl
set_option maxRecDepth 100000 in
theorem b246_13 (call : QC FA) (x1 : Int32) (x2 : Int32) (o3 : Option PV) (o4 : Option PV) (L : QH FA) (F : Nat) : rnG call 246 (F + 2) 21 [some (vR 0), some (vI x1), some (vI x2), o3, o4] [] L = rnG call 246 F 23 [some (vR 0), some (vI x1), some (vI x2), some (vI 0), o4] [] L := rfl
theorem vc246_0 (d : Nat) (x1 : Int32) (x2 : Int32) (o3 : Option PV) (o4 : Option PV) (z : Nat → Int32) (f : Nat → FA) (res : Option PV × QH FA) (H : (((1 ≤ I x1 ∧ I x1 ≤ 8) → ((I (z 46) < I x1 → res = (some (vI ((-1))), LR (uZ z 0 0) f)) ∧ (I x1 ≤ I (z 46) → (((0 ≤ I x2 ∧ I x2 ≤ 1) → RC (mcall (d + 2)) (mP 246) 23 [some (vR 0), some (vI x1), some (vI x2), some (vI 0), o4] [] (LR (uZ z 0 0) f) res) ∧ ((¬ (0 ≤ I x2 ∧ I x2 ≤ 1)) → res = (some (vI ((-1))), LR (uZ z 0 0) f)))))) ∧ ((¬ (1 ≤ I x1 ∧ I x1 ≤ 8)) → res = (some (vI ((-1))), LR (uZ z 0 0) f)))) : RC (mcall (d + 2)) (mP 246) 0 [some (vR 0), some (vI x1), some (vI x2), o3, o4] [] (LR z f) res := by
  refine rc_b (i' := 2) (ls' := [some (vR 0), some (vI x1), some (vI x2), o3, o4]) (st' := [vI 0, vR 0]) (L' := LR z f) 2 (b246_1 (mcall (d + 2)) x1 x2 o3 o4 _) ?_
  refine rc_b (i' := 3) (ls' := [some (vR 0), some (vI x1), some (vI x2), o3, o4]) (st' := []) (L' := LR (uZ z 0 0) f) 1 (b246_2 (mcall (d + 2)) 0 _ z f) ?_
  refine rc_b (i' := 7) (ls' := [some (vR 0), some (vI x1), some (vI x2), o3, o4]) (st' := [vI 8, vI 1, vI x1, vR 0]) (L' := LR (uZ z 0 0) f) 4 (b246_3 (mcall (d + 2)) x1 x2 o3 o4 _) ?_
  refine rc_call (t := 8) (ls' := [some (vR 0), some (vI x1), some (vI x2), o3, o4]) (st' := []) (b246_4 (mcall (d + 2)) x1 1 8 _ (uZ z 0 0) f) (isIn_r _ x1 1 8 (uZ z 0 0) f) ?_
  show RC (mcall (d + 2)) (mP 246) 8 [some (vR 0), some (vI x1), some (vI x2), o3, o4] [vI (bI (1 ≤ I x1 ∧ I x1 ≤ 8))] (LR (uZ z 0 0) f) res
  refine rc_bz (it := 19) (ie := 9) (ls' := [some (vR 0), some (vI x1), some (vI x2), o3, o4]) (st' := []) (b246_5 (mcall (d + 2)) (bI (1 ≤ I x1 ∧ I x1 ≤ 8)) _ _) (fun q1 => ?_) (fun q1 => ?_)
  · have H := H.2 q1
    refine rc_b (i' := 20) (ls' := [some (vR 0), some (vI x1), some (vI x2), o3, o4]) (st' := [vI ((-1))]) (L' := LR (uZ z 0 0) f) 1 (b246_6 (mcall (d + 2)) x1 x2 o3 o4 _) ?_
    subst H
    exact rc_ret (b246_7 (mcall (d + 2)) _ _ _)
  · have H := H.1 q1
    refine rc_b (i' := 12) (ls' := [some (vR 0), some (vI x1), some (vI x2), o3, o4]) (st' := [vI (z 46), vI x1]) (L' := LR (uZ z 0 0) f) 3 (b246_8 (mcall (d + 2)) x1 x2 o3 o4 (uZ z 0 0) f) ?_
    refine rc_if (it := 19) (ie := 13) (ls' := [some (vR 0), some (vI x1), some (vI x2), o3, o4]) (st' := []) (b246_9 (mcall (d + 2)) x1 (z 46) _ _) (fun q2 => ?_) (fun q2 => ?_)
    · have H := H.1 (cI4t q2 rfl rfl)
      refine rc_b (i' := 20) (ls' := [some (vR 0), some (vI x1), some (vI x2), o3, o4]) (st' := [vI ((-1))]) (L' := LR (uZ z 0 0) f) 1 (b246_6 (mcall (d + 2)) x1 x2 o3 o4 _) ?_
      subst H
      exact rc_ret (b246_7 (mcall (d + 2)) _ _ _)
    · have H := H.2 (cI4f q2 rfl rfl)
      refine rc_b (i' := 17) (ls' := [some (vR 0), some (vI x1), some (vI x2), o3, o4]) (st' := [vI 1, vI 0, vI x2, vR 0]) (L' := LR (uZ z 0 0) f) 4 (b246_10 (mcall (d + 2)) x1 x2 o3 o4 _) ?_
      refine rc_call (t := 18) (ls' := [some (vR 0), some (vI x1), some (vI x2), o3, o4]) (st' := []) (b246_11 (mcall (d + 2)) x2 0 1 _ (uZ z 0 0) f) (isIn_r _ x2 0 1 (uZ z 0 0) f) ?_
      show RC (mcall (d + 2)) (mP 246) 18 [some (vR 0), some (vI x1), some (vI x2), o3, o4] [vI (bI (0 ≤ I x2 ∧ I x2 ≤ 1))] (LR (uZ z 0 0) f) res
      refine rc_bn (it := 21) (ie := 19) (ls' := [some (vR 0), some (vI x1), some (vI x2), o3, o4]) (st' := []) (b246_12 (mcall (d + 2)) (bI (0 ≤ I x2 ∧ I x2 ≤ 1)) _ _) (fun q3 => ?_) (fun q3 => ?_)
      · have H := H.1 q3
        refine rc_b (i' := 23) (ls' := [some (vR 0), some (vI x1), some (vI x2), some (vI 0), o4]) (st' := []) (L' := LR (uZ z 0 0) f) 2 (b246_13 (mcall (d + 2)) x1 x2 o3 o4 _) ?_
        exact H
      · have H := H.2 q3
        refine rc_b (i' := 20) (ls' := [some (vR 0), some (vI x1), some (vI x2), o3, o4]) (st' := [vI ((-1))]) (L' := LR (uZ z 0 0) f) 1 (b246_6 (mcall (d + 2)) x1 x2 o3 o4 _) ?_
        subst H
        exact rc_ret (b246_7 (mcall (d + 2)) _ _ _)
set_option maxRecDepth 100000 in
theorem bc23_246_1 (call : QC FA) (x1 : Int32) (x2 : Int32) (x3 : Int32) (o4 : Option PV) (L : QH FA) (F : Nat) : rnG call 246 (F + 2) 23 [some (vR 0), some (vI x1), some (vI x2), some (vI x3), o4] [] L = rnG call 246 F 25 [some (vR 0), some (vI x1), some (vI x2), some (vI x3), o4] [vI x1, vI x3] L := rfl
set_option maxRecDepth 100000 in
theorem bc23_246_2 (call : QC FA) (x y : Int32) (ls : List (Option PV)) (L : QH FA) (F : Nat) : rnG call 246 (F + 1) 25 ls [vI y, vI x] L = bif pcmp 4 x y then rnG call 246 F 40 ls [] L else rnG call 246 F 26 ls [] L := rfl
set_option maxRecDepth 100000 in
theorem bc23_246_3 (call : QC FA) (x1 : Int32) (x2 : Int32) (x3 : Int32) (o4 : Option PV) (L : QH FA) (F : Nat) : rnG call 246 (F + 1) 40 [some (vR 0), some (vI x1), some (vI x2), some (vI x3), o4] [] L = rnG call 246 F 41 [some (vR 0), some (vI x1), some (vI x2), some (vI x3), o4] [vI x2] L := rfl
set_option maxRecDepth 100000 in
theorem bc23_246_4 (call : QC FA) (x : Int32) (ls : List (Option PV)) (L : QH FA) (F : Nat) : rnG call 246 (F + 1) 41 ls [vI x] L = bif pcmp 1 x 0 then rnG call 246 F 49 ls [] L else rnG call 246 F 42 ls [] L := rfl
set_option maxRecDepth 100000 in
theorem bc23_246_5 (call : QC FA) (x1 : Int32) (x2 : Int32) (x3 : Int32) (o4 : Option PV) (z : Nat → Int32) (f : Nat → FA) (F : Nat) : rnG call 246 (F + 5) 49 [some (vR 0), some (vI x1), some (vI x2), some (vI x3), o4] [] (LR z f) = rnG call 246 F 54 [some (vR 0), some (vI x1), some (vI x2), some (vI x3), o4] [vI (17 * x1), vR 28] (LR z f) := rfl
set_option maxRecDepth 100000 in
theorem bc23_246_6 (call : QC FA) (x : Int32) (ls : List (Option PV)) (z : Nat → Int32) (f : Nat → FA) (F : Nat) : rnG call 246 (F + 1) 54 ls [vI x, vR 28] (LR z f) = bif (Nat.beq 0 0 && pin x 153) then rnG call 246 F 55 ls [vI (f 28 (ix x))] (LR z f) else none := rfl
set_option maxRecDepth 100000 in
theorem bc23_246_7 (call : QC FA) (x : Int32) (ls : List (Option PV)) (L : QH FA) (F : Nat) : rnG call 246 (F + 1) 55 ls [vI x] L = some (some (vI x), L) := rfl
set_option maxRecDepth 100000 in
theorem bc23_246_8 (call : QC FA) (x1 : Int32) (x2 : Int32) (x3 : Int32) (o4 : Option PV) (z : Nat → Int32) (f : Nat → FA) (F : Nat) : rnG call 246 (F + 5) 42 [some (vR 0), some (vI x1), some (vI x2), some (vI x3), o4] [] (LR z f) = rnG call 246 F 47 [some (vR 0), some (vI x1), some (vI x2), some (vI x3), o4] [vI (17 * x1), vR 27] (LR z f) := rfl
set_option maxRecDepth 100000 in
theorem bc23_246_9 (call : QC FA) (x : Int32) (ls : List (Option PV)) (z : Nat → Int32) (f : Nat → FA) (F : Nat) : rnG call 246 (F + 1) 47 ls [vI x, vR 27] (LR z f) = bif (Nat.beq 0 0 && pin x 153) then rnG call 246 F 48 ls [vI (f 27 (ix x))] (LR z f) else none := rfl
set_option maxRecDepth 100000 in
theorem bc23_246_10 (call : QC FA) (x1 : Int32) (x2 : Int32) (x3 : Int32) (o4 : Option PV) (s0 : Int32) (L : QH FA) (F : Nat) : rnG call 246 (F + 1) 48 [some (vR 0), some (vI x1), some (vI x2), some (vI x3), o4] [vI s0] L = rnG call 246 F 55 [some (vR 0), some (vI x1), some (vI x2), some (vI x3), o4] [vI s0] L := rfl
set_option maxRecDepth 100000 in
theorem bc23_246_11 (call : QC FA) (x1 : Int32) (x2 : Int32) (x3 : Int32) (o4 : Option PV) (L : QH FA) (F : Nat) : rnG call 246 (F + 2) 26 [some (vR 0), some (vI x1), some (vI x2), some (vI x3), o4] [] L = rnG call 246 F 28 [some (vR 0), some (vI x1), some (vI x2), some (vI x3), some (vI 0)] [] L := rfl
theorem vcc23_246_23 (d : Nat) (x1 : Int32) (x2 : Int32) (x3 : Int32) (o4 : Option PV) (z : Nat → Int32) (f : Nat → FA) (res : Option PV × QH FA) (H : ((I x1 < I x3 → ((¬ x2 = 0 → (pin (17 * x1) 153 = true ∧ res = (some (vI (f 28 (ix (17 * x1)))), LR z f))) ∧ (x2 = 0 → (pin (17 * x1) 153 = true ∧ res = (some (vI (f 27 (ix (17 * x1)))), LR z f))))) ∧ (I x3 ≤ I x1 → RC (mcall (d + 2)) (mP 246) 28 [some (vR 0), some (vI x1), some (vI x2), some (vI x3), some (vI 0)] [] (LR z f) res))) : RC (mcall (d + 2)) (mP 246) 23 [some (vR 0), some (vI x1), some (vI x2), some (vI x3), o4] [] (LR z f) res := by
  refine rc_b (i' := 25) (ls' := [some (vR 0), some (vI x1), some (vI x2), some (vI x3), o4]) (st' := [vI x1, vI x3]) (L' := LR z f) 2 (bc23_246_1 (mcall (d + 2)) x1 x2 x3 o4 _) ?_
  refine rc_if (it := 40) (ie := 26) (ls' := [some (vR 0), some (vI x1), some (vI x2), some (vI x3), o4]) (st' := []) (bc23_246_2 (mcall (d + 2)) x3 x1 _ _) (fun q1 => ?_) (fun q1 => ?_)
  · have H := H.1 (cI4t q1 rfl rfl)
    refine rc_b (i' := 41) (ls' := [some (vR 0), some (vI x1), some (vI x2), some (vI x3), o4]) (st' := [vI x2]) (L' := LR z f) 1 (bc23_246_3 (mcall (d + 2)) x1 x2 x3 o4 _) ?_
    refine rc_if (it := 49) (ie := 42) (ls' := [some (vR 0), some (vI x1), some (vI x2), some (vI x3), o4]) (st' := []) (bc23_246_4 (mcall (d + 2)) x2 _ _) (fun q2 => ?_) (fun q2 => ?_)
    · have H := H.1 (cI1t q2)
      refine rc_b (i' := 54) (ls' := [some (vR 0), some (vI x1), some (vI x2), some (vI x3), o4]) (st' := [vI (17 * x1), vR 28]) (L' := LR z f) 5 (bc23_246_5 (mcall (d + 2)) x1 x2 x3 o4 z f) ?_
      obtain ⟨g1, H⟩ := H
      refine rc_g (i' := 55) (ls' := [some (vR 0), some (vI x1), some (vI x2), some (vI x3), o4]) (st' := [vI (f 28 (ix (17 * x1)))]) (L' := LR z f) (bc23_246_6 (mcall (d + 2)) (17 * x1) _ z f) (pinG g1) ?_
      subst H
      exact rc_ret (bc23_246_7 (mcall (d + 2)) _ _ _)
    · have H := H.2 (cI1f q2)
      refine rc_b (i' := 47) (ls' := [some (vR 0), some (vI x1), some (vI x2), some (vI x3), o4]) (st' := [vI (17 * x1), vR 27]) (L' := LR z f) 5 (bc23_246_8 (mcall (d + 2)) x1 x2 x3 o4 z f) ?_
      obtain ⟨g1, H⟩ := H
      refine rc_g (i' := 48) (ls' := [some (vR 0), some (vI x1), some (vI x2), some (vI x3), o4]) (st' := [vI (f 27 (ix (17 * x1)))]) (L' := LR z f) (bc23_246_9 (mcall (d + 2)) (17 * x1) _ z f) (pinG g1) ?_
      refine rc_b (i' := 55) (ls' := [some (vR 0), some (vI x1), some (vI x2), some (vI x3), o4]) (st' := [vI (f 27 (ix (17 * x1)))]) (L' := LR z f) 1 (bc23_246_10 (mcall (d + 2)) x1 x2 x3 o4 (f 27 (ix (17 * x1))) _) ?_
      subst H
      exact rc_ret (bc23_246_7 (mcall (d + 2)) _ _ _)
  · have H := H.2 (cI4f q1 rfl rfl)
    refine rc_b (i' := 28) (ls' := [some (vR 0), some (vI x1), some (vI x2), some (vI x3), some (vI 0)]) (st' := []) (L' := LR z f) 2 (bc23_246_11 (mcall (d + 2)) x1 x2 x3 o4 _) ?_
    exact H
set_option maxRecDepth 100000 in
theorem bc28_246_1 (call : QC FA) (x1 : Int32) (x2 : Int32) (x3 : Int32) (x4 : Int32) (z : Nat → Int32) (f : Nat → FA) (F : Nat) : rnG call 246 (F + 3) 28 [some (vR 0), some (vI x1), some (vI x2), some (vI x3), some (vI x4)] [] (LR z f) = rnG call 246 F 31 [some (vR 0), some (vI x1), some (vI x2), some (vI x3), some (vI x4)] [vI (z 46), vI x4] (LR z f) := rfl
set_option maxRecDepth 100000 in
theorem bc28_246_2 (call : QC FA) (x y : Int32) (ls : List (Option PV)) (L : QH FA) (F : Nat) : rnG call 246 (F + 1) 31 ls [vI y, vI x] L = bif pcmp 4 x y then rnG call 246 F 38 ls [] L else rnG call 246 F 32 ls [] L := rfl
set_option maxRecDepth 100000 in
theorem bc28_246_3 (call : QC FA) (x1 : Int32) (x2 : Int32) (x3 : Int32) (x4 : Int32) (L : QH FA) (F : Nat) : rnG call 246 (F + 1) 38 [some (vR 0), some (vI x1), some (vI x2), some (vI x3), some (vI x4)] [] L = rnG call 246 F 39 [some (vR 0), some (vI x1), some (vI x2), some (vI (x3 + 1)), some (vI x4)] [] L := rfl
set_option maxRecDepth 100000 in
theorem bc28_246_4 (call : QC FA) (x1 : Int32) (x2 : Int32) (x3 : Int32) (x4 : Int32) (L : QH FA) (F : Nat) : rnG call 246 (F + 1) 39 [some (vR 0), some (vI x1), some (vI x2), some (vI x3), some (vI x4)] [] L = rnG call 246 F 23 [some (vR 0), some (vI x1), some (vI x2), some (vI x3), some (vI x4)] [] L := rfl
set_option maxRecDepth 100000 in
theorem bc28_246_5 (call : QC FA) (x1 : Int32) (x2 : Int32) (x3 : Int32) (x4 : Int32) (L : QH FA) (F : Nat) : rnG call 246 (F + 3) 32 [some (vR 0), some (vI x1), some (vI x2), some (vI x3), some (vI x4)] [] L = rnG call 246 F 35 [some (vR 0), some (vI x1), some (vI x2), some (vI x3), some (vI x4)] [vI x4, vI x3, vR 0] L := rfl
set_option maxRecDepth 100000 in
theorem bc28_246_6 (call : QC FA) (a0 : Int32) (a1 : Int32) (ls : List (Option PV)) (z : Nat → Int32) (f : Nat → FA) (F : Nat) : rnG call 246 (F + 1) 35 ls [vI a1, vI a0, vR 0] (LR z f) = cbd (call 212 [vR 0, vI a0, vI a1] (LR z f)) (fun r L' => rnG call 246 F 36 ls (r.toList ++ []) L') := pcY (ih := rnG call 246 F) (call := call) (a := 212) (b := 2) (v := 12) (t := 36) (x := 0) (ls := ls) (As := [vI a0, vI a1]) (st' := []) (L := LR z f) rfl rfl rfl
set_option maxRecDepth 100000 in
theorem bc28_246_7 (call : QC FA) (x1 : Int32) (x2 : Int32) (x3 : Int32) (x4 : Int32) (L : QH FA) (F : Nat) : rnG call 246 (F + 1) 36 [some (vR 0), some (vI x1), some (vI x2), some (vI x3), some (vI x4)] [] L = rnG call 246 F 37 [some (vR 0), some (vI x1), some (vI x2), some (vI x3), some (vI (x4 + 1))] [] L := rfl
set_option maxRecDepth 100000 in
theorem bc28_246_8 (call : QC FA) (x1 : Int32) (x2 : Int32) (x3 : Int32) (x4 : Int32) (L : QH FA) (F : Nat) : rnG call 246 (F + 1) 37 [some (vR 0), some (vI x1), some (vI x2), some (vI x3), some (vI x4)] [] L = rnG call 246 F 28 [some (vR 0), some (vI x1), some (vI x2), some (vI x3), some (vI x4)] [] L := rfl
theorem vcc28_246_28 (d : Nat) (x1 : Int32) (x2 : Int32) (x3 : Int32) (x4 : Int32) (z : Nat → Int32) (f : Nat → FA) (res : Option PV × QH FA) (H : ((I (z 46) < I x4 → RC (mcall (d + 2)) (mP 246) 23 [some (vR 0), some (vI x1), some (vI x2), some (vI (x3 + 1)), some (vI x4)] [] (LR z f) res) ∧ (I x4 ≤ I (z 46) → (∃ (z1 : Nat → Int32) (f1 : Nat → FA), (mcall (d + 2)) 212 [vR 0, vI x3, vI x4] (LR z f) = some (none, LR z1 f1) ∧ RC (mcall (d + 2)) (mP 246) 28 [some (vR 0), some (vI x1), some (vI x2), some (vI x3), some (vI (x4 + 1))] [] (LR z1 f1) res)))) : RC (mcall (d + 2)) (mP 246) 28 [some (vR 0), some (vI x1), some (vI x2), some (vI x3), some (vI x4)] [] (LR z f) res := by
  refine rc_b (i' := 31) (ls' := [some (vR 0), some (vI x1), some (vI x2), some (vI x3), some (vI x4)]) (st' := [vI (z 46), vI x4]) (L' := LR z f) 3 (bc28_246_1 (mcall (d + 2)) x1 x2 x3 x4 z f) ?_
  refine rc_if (it := 38) (ie := 32) (ls' := [some (vR 0), some (vI x1), some (vI x2), some (vI x3), some (vI x4)]) (st' := []) (bc28_246_2 (mcall (d + 2)) x4 (z 46) _ _) (fun q1 => ?_) (fun q1 => ?_)
  · have H := H.1 (cI4t q1 rfl rfl)
    refine rc_b (i' := 39) (ls' := [some (vR 0), some (vI x1), some (vI x2), some (vI (x3 + 1)), some (vI x4)]) (st' := []) (L' := LR z f) 1 (bc28_246_3 (mcall (d + 2)) x1 x2 x3 x4 _) ?_
    refine rc_b (i' := 23) (ls' := [some (vR 0), some (vI x1), some (vI x2), some (vI (x3 + 1)), some (vI x4)]) (st' := []) (L' := LR z f) 1 (bc28_246_4 (mcall (d + 2)) x1 x2 (x3 + 1) x4 _) ?_
    exact H
  · have H := H.2 (cI4f q1 rfl rfl)
    refine rc_b (i' := 35) (ls' := [some (vR 0), some (vI x1), some (vI x2), some (vI x3), some (vI x4)]) (st' := [vI x4, vI x3, vR 0]) (L' := LR z f) 3 (bc28_246_5 (mcall (d + 2)) x1 x2 x3 x4 _) ?_
    obtain ⟨z1, f1, hc, H⟩ := H
    refine rc_call (t := 36) (ls' := [some (vR 0), some (vI x1), some (vI x2), some (vI x3), some (vI x4)]) (st' := []) (bc28_246_6 (mcall (d + 2)) x3 x4 _ z f) hc ?_
    show RC (mcall (d + 2)) (mP 246) 36 [some (vR 0), some (vI x1), some (vI x2), some (vI x3), some (vI x4)] [] (LR z1 f1) res
    refine rc_b (i' := 37) (ls' := [some (vR 0), some (vI x1), some (vI x2), some (vI x3), some (vI (x4 + 1))]) (st' := []) (L' := LR z1 f1) 1 (bc28_246_7 (mcall (d + 2)) x1 x2 x3 x4 _) ?_
    refine rc_b (i' := 28) (ls' := [some (vR 0), some (vI x1), some (vI x2), some (vI x3), some (vI (x4 + 1))]) (st' := []) (L' := LR z1 f1) 1 (bc28_246_8 (mcall (d + 2)) x1 x2 x3 (x4 + 1) _) ?_
    exact H
theorem lesser_x (d0 : Nat) (x y : Int32) (z : Nat → Int32) (f : Nat → FA) : mcall (d0 + 1) 62 [vR 0, vI x, vI y] (LR z f) = some (some (vI (if I x < I y then x else y)), LR z f) := by
  have go : ∀ res, _ → mcall (d0 + 1) 62 [vR 0, vI x, vI y] (LR z f) = some res := fun res H => mcall_i (mq62 (cu := [])).2.2 rfl (vc62_0 (mcall d0) x y z f res H)
  refine go _ ?_
  first
    | exact ⟨fun q => by rw [if_pos (by omega)], fun q => by rw [if_neg (by omega)]⟩
    | exact ⟨fun q => by rw [if_neg (by omega)], fun q => by rw [if_pos (by omega)]⟩
/-- as the reference keeps it: far off where there is no way -/
def PzM (m : Bool) (K : Nat) (P : Nat → Prop) (y : Int32) : Prop := (∃ x, x ≤ 100 ∧ y = nI x ∧ PzB m P x) ∨ ((∀ v, ¬ P v) ∧ (if m = true then -100000000 ≤ I y ∧ I y ≤ -100000000 + K else 100000000 ≤ I y ∧ I y ≤ 100000000 + K))
theorem PzM.iff {m : Bool} {K : Nat} {P Q : Nat → Prop} {y : Int32} (hPQ : ∀ v, Q v ↔ P v) (h : PzM m K P y) : PzM m K Q y := by
  rcases h with ⟨x, h1, h2, h3, h4⟩ | ⟨h1, h2⟩
  · exact Or.inl ⟨x, h1, h2, (hPQ x).mpr h3, fun v hv => h4 v ((hPQ v).mp hv)⟩
  · exact Or.inr ⟨fun v hv => h1 v ((hPQ v).mp hv), h2⟩
theorem I_add1 {y : Int32} {e : Nat} (he : e ≤ 1) (h1 : -1000000000 ≤ I y) (h2 : I y ≤ 1000000000) : I (y + nI e) = I y + e := by
  have h : I (y + nI e) = (I y + I (nI e)).bmod (2 ^ 32) := Int32.toInt_add y (nI e)
  rw [h, I_nI (n := e) (by omega), Int.bmod_eq_of_le (by omega) (by omega)]
theorem PzM.bnd {m : Bool} {K : Nat} {P : Nat → Prop} {y : Int32} (hK : K ≤ 9) (h : PzM m K P y) : -1000000000 ≤ I y ∧ I y ≤ 1000000000 := by
  rcases h with ⟨x, h1, h2, -⟩ | ⟨-, h2⟩
  · rw [h2, I_nI (by omega)]
    omega
  · cases m with
    | true =>
      rw [if_pos rfl] at h2
      omega
    | false =>
      rw [if_neg (by decide)] at h2
      omega
theorem PzM_s {m : Bool} {K K1 e : Nat} {P P1 Q : Nat → Prop} {y y1 : Int32} (hK : K1 + 1 ≤ K) (hK9 : K ≤ 9) (he : e ≤ 1) (hQ : ∀ v, Q v ↔ (P v ∨ ∃ v', P1 v' ∧ v = v' + e)) (hv : ∀ v, P1 v → v ≤ 50) (h0 : PzM m K P y) (h1 : PzM m K1 P1 y1) : PzM m K Q (if m = true then (if I (y1 + nI e) < I y then y else y1 + nI e) else (if I y < I (y1 + nI e) then y else y1 + nI e)) := by
  have b1 := h1.bnd (by omega)
  have ia := I_add1 (y := y1) he b1.1 b1.2
  rcases h0 with ⟨x, x1, x2, x3⟩ | ⟨n1, n2⟩
  · have iy : I y = x := by rw [x2]; exact I_nI (by omega)
    rcases h1 with ⟨w, w1, w2, w3⟩ | ⟨m1, m2⟩
    · have iw : I y1 = w := by rw [w2]; exact I_nI (by omega)
      have w5 := hv w w3.1
      have hb := PzB_two hQ x3 w3
      have ew : y1 + nI e = nI (w + e) := by rw [w2, nI_add]
      cases m with
      | true =>
        rw [if_pos rfl] at hb ⊢
        by_cases c : x < w + e
        · rw [if_pos c] at hb
          rw [if_neg (by omega), ew]
          exact Or.inl ⟨w + e, by omega, rfl, hb⟩
        · rw [if_neg c] at hb
          by_cases c2 : I (y1 + nI e) < I y
          · rw [if_pos c2]
            exact Or.inl ⟨x, x1, x2, hb⟩
          · rw [if_neg c2, ew, show w + e = x by omega]
            exact Or.inl ⟨x, x1, rfl, hb⟩
      | false =>
        rw [if_neg (by decide)] at hb ⊢
        by_cases c : w + e < x
        · rw [if_pos c] at hb
          rw [if_neg (by omega), ew]
          exact Or.inl ⟨w + e, by omega, rfl, hb⟩
        · rw [if_neg c] at hb
          by_cases c2 : I y < I (y1 + nI e)
          · rw [if_pos c2]
            exact Or.inl ⟨x, x1, x2, hb⟩
          · rw [if_neg c2, ew, show w + e = x by omega]
            exact Or.inl ⟨x, x1, rfl, hb⟩
    · have hQ2 : ∀ v, Q v ↔ P v := fun v => by
        rw [hQ]
        constructor
        · rintro (q | ⟨v', q, -⟩)
          · exact q
          · exact absurd q (m1 v')
        · exact Or.inl
      have hb : PzB m Q x := ⟨(hQ2 x).mpr x3.1, fun v q => x3.2 v ((hQ2 v).mp q)⟩
      cases m with
      | true =>
        rw [if_pos rfl] at m2 ⊢
        rw [if_pos (by omega)]
        exact Or.inl ⟨x, x1, x2, hb⟩
      | false =>
        rw [if_neg (by decide)] at m2 ⊢
        rw [if_pos (by omega)]
        exact Or.inl ⟨x, x1, x2, hb⟩
  · rcases h1 with ⟨w, w1, w2, w3⟩ | ⟨m1, m2⟩
    · have iw : I y1 = w := by rw [w2]; exact I_nI (by omega)
      have w5 := hv w w3.1
      have hb := PzB_new hQ n1 w3
      have ew : y1 + nI e = nI (w + e) := by rw [w2, nI_add]
      cases m with
      | true =>
        rw [if_pos rfl] at n2 ⊢
        rw [if_neg (by omega), ew]
        exact Or.inl ⟨w + e, by omega, rfl, hb⟩
      | false =>
        rw [if_neg (by decide)] at n2 ⊢
        rw [if_neg (by omega), ew]
        exact Or.inl ⟨w + e, by omega, rfl, hb⟩
    · refine Or.inr ⟨fun v q => ?_, ?_⟩
      · rcases (hQ v).mp q with q | ⟨v', q, -⟩
        · exact n1 v q
        · exact m1 v' q
      · cases m with
        | true =>
          rw [if_pos rfl] at n2 m2 ⊢
          rw [if_pos rfl]
          split <;> omega
        | false =>
          rw [if_neg (by decide)] at n2 m2 ⊢
          rw [if_neg (by decide)]
          split <;> omega
def pzJ (w : Nat → Nat → Nat) (n k a i : Nat) : Nat → Prop := fun v => ∃ c v', a < c ∧ c < i ∧ c ≤ n ∧ PzL w n k c v' ∧ v = w a c + v'
theorem pzJ_s {w : Nat → Nat → Nat} {n k a i : Nat} (ha : a < i) (hi : i ≤ n) (v : Nat) : pzJ w n k a (i + 1) v ↔ (pzJ w n k a i v ∨ ∃ v', PzL w n k i v' ∧ v = v' + w a i) := by
  constructor
  · rintro ⟨c, v', h0, h1, hn, h2, h3⟩
    by_cases q : c = i
    · subst q
      exact Or.inr ⟨v', h2, by omega⟩
    · exact Or.inl ⟨c, v', h0, by omega, hn, h2, h3⟩
  · rintro (⟨c, v', h0, h1, hn, h2, h3⟩ | ⟨v', h2, h3⟩)
    · exact ⟨c, v', h0, by omega, hn, h2, h3⟩
    · exact ⟨i, v', ha, by omega, hi, h2, by omega⟩
theorem m_fp (d : Nat) {z : Nat → Int32} {f : Nat → FA} {n k a : Nat} {h : Nat → Nat} (hz : z 46 = nI n) (hn : n ≤ 16) (hk : k ≤ 8) (ha : a ≤ n) (hh : ∀ i, i < n → h i ≤ 1) (hg : ∀ i, i < n → f 26 i = nI (h i)) (h1 : ∀ c, 0 < k → c ≤ n → PzM true (k - 1) (PzL (pzw h) n (k - 1) c) (f 27 (17 * (k - 1) + c)) ∧ PzM false (k - 1) (PzL (pzw h) n (k - 1) c) (f 28 (17 * (k - 1) + c))) : ∃ y1 y2, PzM true k (PzL (pzw h) n k a) y1 ∧ PzM false k (PzL (pzw h) n k a) y2 ∧ mcall (d + 2) 212 [vR 0, vI (nI k), vI (nI a)] (LR z f) = some (none, LR z (uA (uA f 27 (upd (f 27) (17 * k + a) y1)) 28 (upd (f 28) (17 * k + a) y2))) := by
  have ek : 17 * nI k + nI a = nI (17 * k + a) := by rw [show (17 : Int32) = nI 17 from rfl, mul_nI, nI_add]
  have pk : pin (nI (17 * k + a)) 153 = true := pin_nI (by omega) (by omega)
  have xk : ix (nI (17 * k + a)) = 17 * k + a := ix_nI (by omega)
  have iz : I (z 46) = n := by rw [hz]; exact I_nI (by omega)
  have fm1 : I (-100000000) = -100000000 := by decide
  have fp1 : I 100000000 = 100000000 := by decide
  by_cases k0 : k = 0
  · subst k0
    by_cases q : a = n
    · subst q
      have g : ∀ m, PzM m 0 (PzL (pzw h) a 0 a) 0 := fun m => Or.inl ⟨0, by omega, rfl, ⟨rfl, rfl⟩, fun v hv => by
        obtain ⟨-, rfl⟩ := hv
        split <;> omega⟩
      refine ⟨0, 0, g true, g false, mcall_i (mq212 (cu := [])).2.2 rfl (vc212_0 d (nI 0) (nI a) none none none none none z f _ ⟨fun c => absurd rfl c, fun _ => ⟨fun c => absurd hz.symm c, fun _ => vcc26_212_26 d _ _ _ _ _ _ _ _ _ _ ⟨fun _ => ⟨by rw [ek]; exact pk, by rw [ek]; exact pk, by rw [ek, xk]⟩, fun c => ?_⟩⟩⟩)⟩
      rw [iz, show nI a + 1 = nI (a + 1) from nI_add a 1, I_nI (n := a + 1) (by omega)] at c
      omega
    · have no : ∀ v, ¬ PzL (pzw h) n 0 a v := fun v c => q c.1
      refine ⟨-100000000, 100000000, Or.inr ⟨no, by rw [if_pos rfl, fm1]; omega⟩, Or.inr ⟨no, by rw [if_neg (by decide), fp1]; omega⟩, mcall_i (mq212 (cu := [])).2.2 rfl (vc212_0 d (nI 0) (nI a) none none none none none z f _ ⟨fun c => absurd rfl c, fun _ => ⟨fun _ => vcc26_212_26 d _ _ _ _ _ _ _ _ _ _ ⟨fun _ => ⟨by rw [ek]; exact pk, by rw [ek]; exact pk, by rw [ek, xk]⟩, fun _ => ⟨fun _ => ⟨by rw [ek]; exact pk, by rw [ek]; exact pk, by rw [ek, xk]⟩, fun c => absurd c (by decide)⟩⟩, fun c => ?_⟩⟩)⟩
      exact absurd (nI_inj (by omega) (by omega) (c.trans hz)) q
  · obtain ⟨k', rfl⟩ : ∃ k', k = k' + 1 := ⟨k - 1, by omega⟩
    have hp := fun c hc => h1 c (by omega) hc
    rw [Nat.add_sub_cancel] at hp
    have lp : ∀ t i, i + t = n + 1 → a < i → ∀ y1 y2, PzM true (k' + 1) (pzJ (pzw h) n k' a i) y1 → PzM false (k' + 1) (pzJ (pzw h) n k' a i) y2 → ∃ w1 w2, PzM true (k' + 1) (pzJ (pzw h) n k' a (n + 1)) w1 ∧ PzM false (k' + 1) (pzJ (pzw h) n k' a (n + 1)) w2 ∧ ∀ o7, RC (mcall (d + 1)) (mP 212) 26 [some (vR 0), some (vI (nI (k' + 1))), some (vI (nI a)), some (vI y1), some (vI y2), some (vI (nI (pzS h (i - 1) - pzS h a))), some (vI (nI i)), o7] [] (LR z f) (none, LR z (uA (uA f 27 (upd (f 27) (17 * (k' + 1) + a) w1)) 28 (upd (f 28) (17 * (k' + 1) + a) w2))) := by
      intro t
      induction t with
      | zero =>
        intro i hi hai y1 y2 g1 g2
        obtain rfl : i = n + 1 := by omega
        refine ⟨y1, y2, g1, g2, fun o7 => vcc26_212_26 d _ _ _ _ _ _ _ _ _ _ ⟨fun _ => ⟨by rw [ek]; exact pk, by rw [ek]; exact pk, by rw [ek, xk]⟩, fun c => ?_⟩⟩
        rw [iz, I_nI (n := n + 1) (by omega)] at c
        omega
      | succ t ih =>
        intro i hi hai y1 y2 g1 g2
        have hin : i ≤ n := by omega
        obtain ⟨i', rfl⟩ : ∃ i', i = i' + 1 := ⟨i - 1, by omega⟩
        rw [Nat.add_sub_cancel]
        obtain ⟨p1, p2⟩ := hp (i' + 1) hin
        have hle := pzw_le h a (i' + 1)
        have vb : ∀ v, PzL (pzw h) n k' (i' + 1) v → v ≤ 50 := fun v hv => by
          have := PzR_v (pzw_le h) k' n v ((PzL_R k' (i' + 1) v).mp hv)
          omega
        have s1 := PzM_s (m := true) (K1 := k') (Nat.le_refl _) (by omega) hle (fun v => pzJ_s (w := pzw h) (k := k') hai hin v) vb g1 p1
        have s2 := PzM_s (m := false) (K1 := k') (Nat.le_refl _) (by omega) hle (fun v => pzJ_s (w := pzw h) (k := k') hai hin v) vb g2 p2
        rw [if_pos rfl] at s1
        rw [if_neg (by decide)] at s2
        obtain ⟨w1, w2, r1, r2, r3⟩ := ih (i' + 1 + 1) (by omega) (by omega) _ _ s1 s2
        rw [Nat.add_sub_cancel] at r3
        have hs1 := pzS_mono (h := h) i' a (by omega)
        have hs2 := pzS_le (h := h) (i' + 1) (fun j hj => hh j (by omega))
        have hs3 : pzS h (i' + 1) = pzS h i' + h i' := rfl
        have em : nI (i' + 1) - 1 = nI i' := nI_prd (u := i' + 1) (by omega) (by omega)
        have ix' : ix (nI i') = i' := ix_nI (by omega)
        have pi' : pin (nI i') 16 = true := pin_nI (by omega) (by omega)
        have e5 : nI (pzS h i' - pzS h a) + f 26 i' = nI (pzS h (i' + 1) - pzS h a) := by
          rw [hg i' (by omega), nI_add, hs3]
          congr 1
          omega
        have e6 : nI (i' + 1) + 1 = nI (i' + 1 + 1) := nI_add (i' + 1) 1
        have sums : I (2 * nI (pzS h (i' + 1) - pzS h a)) = ((2 * (pzS h (i' + 1) - pzS h a) : Nat) : Int) := by rw [nI_dbl, I_nI (by omega)]
        have dif : I (nI (i' + 1) - nI a) = ((i' + 1 - a : Nat) : Int) := by rw [nI_sub (by omega), I_nI (by omega)]
        have ej : 17 * (nI (k' + 1) - 1) + nI (i' + 1) = nI (17 * k' + (i' + 1)) := by rw [nI_prd (u := k' + 1) (by omega) (by omega), Nat.add_sub_cancel, show (17 : Int32) = nI 17 from rfl, mul_nI, nI_add]
        have pj : pin (nI (17 * k' + (i' + 1))) 153 = true := pin_nI (by omega) (by omega)
        have xj : ix (nI (17 * k' + (i' + 1))) = 17 * k' + (i' + 1) := ix_nI (by omega)
        have k0' : 0 < I (nI (k' + 1)) := by rw [I_nI (by omega)]; omega
        refine ⟨w1, w2, r1, r2, fun o7 => vcc26_212_26 d _ _ _ _ _ _ _ _ _ _ ⟨fun c => ?_, fun _ => ⟨fun c => by omega, fun _ => ⟨by rw [em]; exact pi', fun c => ?_, fun c => ?_⟩⟩⟩⟩
        · rw [iz, I_nI (n := i' + 1) (by omega)] at c
          omega
        · rw [em, ix', e5, sums, dif] at c
          have hw : pzw h a (i' + 1) = 0 := if_neg (by omega)
          rw [hw] at r3
          rw [ej, xj, em, ix', e5, e6]
          exact ⟨pj, _, _, _, greater_x d _ _ _ _, pj, _, _, _, lesser_x d _ _ _ _, r3 _⟩
        · rw [em, ix', e5, sums, dif] at c
          have hw : pzw h a (i' + 1) = 1 := if_pos (by omega)
          rw [hw] at r3
          rw [ej, xj, em, ix', e5, e6]
          exact ⟨pj, _, _, _, greater_x d _ _ _ _, pj, _, _, _, lesser_x d _ _ _ _, r3 _⟩
    have no : ∀ v, ¬ pzJ (pzw h) n k' a (a + 1) v := by
      rintro v ⟨c, v', c1, c2, _⟩
      omega
    obtain ⟨w1, w2, r1, r2, r3⟩ := lp (n - a) (a + 1) (by omega) (by omega) (-100000000) 100000000 (Or.inr ⟨no, by rw [if_pos rfl, fm1]; omega⟩) (Or.inr ⟨no, by rw [if_neg (by decide), fp1]; omega⟩)
    rw [Nat.add_sub_cancel, Nat.sub_self] at r3
    have hJ : ∀ v, PzL (pzw h) n (k' + 1) a v ↔ pzJ (pzw h) n k' a (n + 1) v := fun v => by
      constructor
      · rintro ⟨c, v', c1, c2, c3, c4⟩
        exact ⟨c, v', c1, by omega, c2, c3, c4⟩
      · rintro ⟨c, v', c1, _, c2, c3, c4⟩
        exact ⟨c, v', c1, c2, c3, c4⟩
    refine ⟨w1, w2, r1.iff hJ, r2.iff hJ, mcall_i (mq212 (cu := [])).2.2 rfl (vc212_0 d (nI (k' + 1)) (nI a) none none none none none z f _ ⟨fun _ => ?_, fun c => absurd (nI_inj (b := 0) (by omega) (by omega) c) (by omega)⟩)⟩
    rw [show nI a + 1 = nI (a + 1) from nI_add a 1]
    exact r3 none
/-- rows below (k, a) of both tables are told -/
def PzT (h : Nat → Nat) (n k a : Nat) (F G : FA) : Prop := ∀ k1 a1, a1 ≤ n → (k1 < k ∨ (k1 = k ∧ a1 < a)) → PzM true k1 (PzL (pzw h) n k1 a1) (F (17 * k1 + a1)) ∧ PzM false k1 (PzL (pzw h) n k1 a1) (G (17 * k1 + a1))
theorem mpz28 (d : Nat) (x2 : Int32) {z : Nat → Int32} {f : Nat → FA} {n K k : Nat} {h : Nat → Nat} (hz : z 46 = nI n) (hn : n ≤ 16) (hk : k ≤ 8) (hh : ∀ i, i < n → h i ≤ 1) (hg : ∀ i, i < n → f 26 i = nI (h i)) : ∀ t a, a + t = n + 1 → ∀ F G, PzT h n k a F G → ∃ F' G', PzT h n (k + 1) 0 F' G' ∧ ∀ res, (∀ o4, RC (mcall (d + 2)) (mP 246) 23 [some (vR 0), some (vI (nI K)), some (vI x2), some (vI (nI (k + 1))), o4] [] (LR z (uA (uA f 27 F') 28 G')) res) → RC (mcall (d + 2)) (mP 246) 28 [some (vR 0), some (vI (nI K)), some (vI x2), some (vI (nI k)), some (vI (nI a))] [] (LR z (uA (uA f 27 F) 28 G)) res := by
  have iz : I (z 46) = n := by rw [hz]; exact I_nI (by omega)
  intro t
  induction t with
  | zero =>
    intro a hat F G hT
    obtain rfl : a = n + 1 := by omega
    refine ⟨F, G, fun k1 a1 h1 h2 => hT k1 a1 h1 (by omega), fun res H => vcc28_246_28 d _ _ _ _ _ _ _ ⟨fun _ => ?_, fun c => ?_⟩⟩
    · rw [show nI k + 1 = nI (k + 1) from nI_add k 1]
      exact H _
    · rw [iz, I_nI (n := n + 1) (by omega)] at c
      omega
  | succ t ih =>
    intro a hat F G hT
    have f27 : uA (uA f 27 F) 28 G 27 = F := by rw [uA_ne (show (27 : Nat) ≠ 28 by decide), uA_self]
    have f28 : uA (uA f 27 F) 28 G 28 = G := uA_self _ _ _
    obtain ⟨y1, y2, r1, r2, r3⟩ := m_fp d (z := z) (f := uA (uA f 27 F) 28 G) (k := k) (a := a) hz hn hk (by omega) hh (fun i hi => by rw [uA_ne (show (26 : Nat) ≠ 28 by decide), uA_ne (show (26 : Nat) ≠ 27 by decide)]; exact hg i hi) (fun c h0 hc => by
      rw [f27, f28]
      exact hT (k - 1) c hc (Or.inl (by omega)))
    rw [f27, f28, show uA (uA (uA (uA f 27 F) 28 G) 27 (upd F (17 * k + a) y1)) 28 (upd G (17 * k + a) y2) = uA (uA f 27 (upd F (17 * k + a) y1)) 28 (upd G (17 * k + a) y2) from by
      funext j
      by_cases q : j = 28
      · subst q
        rw [uA_self, uA_self]
      · rw [uA_ne q, uA_ne q]
        by_cases q2 : j = 27
        · subst q2
          rw [uA_self, uA_self]
        · rw [uA_ne q2, uA_ne q, uA_ne q2, uA_ne q2]] at r3
    have hT' : PzT h n k (a + 1) (upd F (17 * k + a) y1) (upd G (17 * k + a) y2) := by
      intro k1 a1 h1 h2
      by_cases q : k1 = k ∧ a1 = a
      · obtain ⟨rfl, rfl⟩ := q
        rw [pk_us, pk_us]
        exact ⟨r1, r2⟩
      · rw [pk_un (by omega), pk_un (by omega)]
        exact hT k1 a1 h1 (by omega)
    obtain ⟨F', G', k1, k2⟩ := ih (a + 1) (by omega) _ _ hT'
    refine ⟨F', G', k1, fun res H => vcc28_246_28 d _ _ _ _ _ _ _ ⟨fun c => ?_, fun _ => ⟨_, _, r3, ?_⟩⟩⟩
    · rw [iz, I_nI (n := a) (by omega)] at c
      omega
    · rw [show nI a + 1 = nI (a + 1) from nI_add a 1]
      exact k2 res H
theorem mpz23 (d : Nat) (x2 : Int32) {z : Nat → Int32} {f : Nat → FA} {n K : Nat} {h : Nat → Nat} (hz : z 46 = nI n) (hn : n ≤ 16) (hK : K ≤ 8) (hh : ∀ i, i < n → h i ≤ 1) (hg : ∀ i, i < n → f 26 i = nI (h i)) : ∀ t k, k + t = K + 1 → ∀ F G, PzT h n k 0 F G → ∃ F' G', PzT h n (K + 1) 0 F' G' ∧ ∀ o4, RC (mcall (d + 2)) (mP 246) 23 [some (vR 0), some (vI (nI K)), some (vI x2), some (vI (nI k)), o4] [] (LR z (uA (uA f 27 F) 28 G)) (some (vI (if x2 = 0 then F' (17 * K) else G' (17 * K))), LR z (uA (uA f 27 F') 28 G')) := by
  have e17 : 17 * nI K = nI (17 * K) := by rw [show (17 : Int32) = nI 17 from rfl, mul_nI]
  have p17 : pin (nI (17 * K)) 153 = true := pin_nI (by omega) (by omega)
  have x17 : ix (nI (17 * K)) = 17 * K := ix_nI (by omega)
  intro t
  induction t with
  | zero =>
    intro k hk F G hT
    obtain rfl : k = K + 1 := by omega
    have f27 : uA (uA f 27 F) 28 G 27 = F := by rw [uA_ne (show (27 : Nat) ≠ 28 by decide), uA_self]
    have f28 : uA (uA f 27 F) 28 G 28 = G := uA_self _ _ _
    refine ⟨F, G, hT, fun o4 => vcc23_246_23 d _ _ _ _ _ _ _ ⟨fun _ => ⟨fun q => ?_, fun q => ?_⟩, fun c => ?_⟩⟩
    · rw [e17, x17, f28, if_neg q]
      exact ⟨p17, rfl⟩
    · rw [e17, x17, f27, if_pos q]
      exact ⟨p17, rfl⟩
    · rw [I_nI (n := K) (by omega), I_nI (n := K + 1) (by omega)] at c
      omega
  | succ t ih =>
    intro k hk F G hT
    obtain ⟨F1, G1, k1, k2⟩ := mpz28 d x2 (z := z) (f := f) (K := K) (k := k) hz hn (by omega) hh hg (n + 1) 0 (by omega) F G hT
    obtain ⟨F', G', k3, k4⟩ := ih (k + 1) (by omega) F1 G1 k1
    refine ⟨F', G', k3, fun o4 => vcc23_246_23 d _ _ _ _ _ _ _ ⟨fun c => ?_, fun _ => k2 _ k4⟩⟩
    rw [I_nI (n := K) (by omega), I_nI (n := k) (by omega)] at c
    omega
theorem m_parishes (d : Nat) (x1 x2 : Int32) {z : Nat → Int32} {f : Nat → FA} {n : Nat} {h : Nat → Nat} (hz : z 46 = nI n) (hn : n ≤ 16) (hh : ∀ i, i < n → h i ≤ 1) (hg : ∀ i, i < n → f 26 i = nI (h i)) : ∃ f1 y, (∀ k, k ≠ 27 → k ≠ 28 → f1 k = f k) ∧ (pzOK n x1 x2 → PzM (decide (x2 = 0)) (I x1).toNat (PzL (pzw h) n (I x1).toNat 0) y) ∧ (¬ pzOK n x1 x2 → y = -1) ∧ mcall (d + 3) 246 [vR 0, vI x1, vI x2] (LR z f) = some (some (vI y), LR (uZ z 0 0) f1) := by
  have go : ∀ res, _ → mcall (d + 3) 246 [vR 0, vI x1, vI x2] (LR z f) = some res := fun res H => mcall_i (mq246 (cu := [])).2.2 rfl (vc246_0 d x1 x2 none none z f res H)
  have iz : I (z 46) = n := by rw [hz]; exact I_nI (by omega)
  by_cases hv : pzOK n x1 x2
  · obtain ⟨v1, v2, v3, v4, v5⟩ := hv
    obtain ⟨K, rfl, -, ik⟩ := nI_ofI (x := x1) (by omega)
    have kk : (I (nI K)).toNat = K := by rw [ik]; exact Int.toNat_natCast K
    obtain ⟨F', G', k1, k2⟩ := mpz23 d x2 (z := uZ z 0 0) (f := f) (K := K) (by rw [uZ_n (by decide)]; exact hz) hn (by omega) hh hg (K + 1) 0 (by omega) (f 27) (f 28) (fun k1 a1 _ c => by omega)
    rw [uA_id (k := 27) rfl, uA_id (k := 28) rfl] at k2
    have kT := k1 K 0 (by omega) (Or.inl (by omega))
    rw [Nat.add_zero] at kT
    refine ⟨uA (uA f 27 F') 28 G', _, fun j h1 h2 => by rw [uA_ne h2, uA_ne h1], fun _ => ?_, fun c => absurd ⟨v1, v2, v3, v4, v5⟩ c, go _ ⟨fun _ => ⟨fun c => by omega, fun _ => ⟨fun _ => k2 none, fun c => absurd ⟨v4, v5⟩ c⟩⟩, fun c => absurd ⟨v1, v2⟩ c⟩⟩
    rw [kk]
    by_cases q : x2 = 0
    · rw [if_pos q, decide_eq_true q]
      exact kT.1
    · rw [if_neg q, decide_eq_false q]
      exact kT.2
  · refine ⟨f, -1, fun _ _ _ => rfl, fun c => absurd c hv, fun _ => rfl, go _ ⟨fun q1 => ⟨fun _ => rfl, fun q2 => ⟨fun q3 => absurd ⟨q1.1, q1.2, by omega, q3.1, q3.2⟩ hv, fun _ => rfl⟩⟩, fun _ => rfl⟩⟩
theorem pz_same {m : Bool} {K n : Nat} {w : Nat → Nat → Nat} {y y' : Int32} (hK : K ≤ n) (h0 : K = 0 → n = 0) (h1 : PzC m (PzR w 0 K n) y) (h2 : PzM m K (PzL w n K 0) y') : y' = y := by
  obtain ⟨v, hv⟩ := PzR_ex (w := w) K n hK h0
  rcases h1 with ⟨-, n1⟩ | ⟨x, -, x2, x3⟩
  · exact absurd hv (n1 v)
  · rcases h2 with ⟨x', -, x2', x3'⟩ | ⟨n1, -⟩
    · rw [x2, x2', PzB_u (fun v => PzL_R (w := w) (b := n) K 0 v) x3' x3]
    · exact absurd ((PzL_R K 0 v).mpr hv) (n1 v)
theorem TA_f {zc : Nat → Int32} {fc : Nat → FA} {zm : Nat → Int32} {fm fm1 : Nat → FA} (h : TA zc fc zm fm) (hf : ∀ k N, (k, N) ∈ MKt → fm1 k = fm k) : TA zc fc zm fm1 := h.cong (fun _ _ => rfl) (fun _ _ _ _ _ _ _ => rfl) (fun _ _ => rfl) (fun k N hk _ _ => by rw [hf k N hk])
theorem tq_parishes (l : Launch) (G : PG) {nc nm : Nat} {h : PH} (hI : LIY TP nc nm h) (x1 x2 : Int32) : PRY TP l G nc nm h 172 3 246 3 [vI x1, vI x2] := by
  obtain ⟨lam, b, u, z, f, zm, fm, hB, hR, hM, hT, hX⟩ := TP_link hI
  obtain ⟨m, hm, e1, e2, e3⟩ : SL 0 1 16 (z 5) (f 6) (zm 46) (fm 26) := hT 1 (by decide)
  have hI : ∀ i, i < m → (I (f 6 i)).toNat ≤ 1 ∧ f 6 i = nI (I (f 6 i)).toNat := fun i hi => by
    obtain ⟨-, q1, q2⟩ := e3 i hi
    obtain ⟨N, e, -, iN⟩ := nI_ofI q1
    have : (I (f 6 i)).toNat = N := by omega
    exact ⟨by omega, by rw [this]; exact e⟩
  obtain ⟨f1, y, hf1, c1, c2, hc⟩ := c_parishes (u := u) 0 x1 x2 (h := fun i => (I (f 6 i)).toNat) e1 hm (fun i hi => (hI i hi).1) (fun i hi => (hI i hi).2)
  obtain ⟨g1, y', hg1, m1, m2, r⟩ := m_parishes 0 x1 x2 (z := zm) (f := fm) (h := fun i => (I (f 6 i)).toNat) e2 hm (fun i hi => (hI i hi).1) (fun i hi => by rw [← (e3 i hi).1]; exact (hI i hi).2)
  have hy : y' = y := by
    by_cases hv : pzOK m x1 x2
    · exact pz_same (by have := hv.1; have := hv.2.2.1; omega) (fun q => by have := hv.1; omega) (c1 hv) (m1 hv)
    · rw [c2 hv, m2 hv]
  rw [hy] at r
  have ht : TA (fun i => z (3 + 2 * i)) (fun i => f1 (4 + 2 * i)) (uZ zm 0 0) g1 := by
    have h1 := TA_f (TA_0 hT) (fm1 := g1) (fun k N hk => by
      have : ∀ e, e ∈ MKt → e.1 ≠ 27 ∧ e.1 ≠ 28 := by decide
      exact hg1 k (this _ hk).1 (this _ hk).2)
    intro i hi
    show TQ i (z (3 + 2 * i)) (f1 (4 + 2 * i)) (uZ zm 0 0) g1
    rw [hf1 (4 + 2 * i) (by omega) (by omega)]
    exact h1 i hi
  exact tp_pair l G hB hR hM hX (kc_q183_ok l G lam hB.2.1) (kr_q44_ok l G _ (lamM_r nm) _ (EXK_of (lamM_r nm))) (As := [x1, x2]) hc r ht (by decide +kernel) (by decide +kernel) ⟨by rw [show nc = lam 0 from (hB.2.2.1 0 (by decide)).symm]; rfl, ⟨_, rfl, inb_top _⟩, ⟨_, rfl, inb_top _⟩, trivial⟩ ⟨rfl, ⟨_, rfl, inb_top _⟩, ⟨_, rfl, inb_top _⟩, trivial⟩ rfl
