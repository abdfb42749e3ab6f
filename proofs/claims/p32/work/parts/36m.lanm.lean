/-! lantern of the reference, and the pair -/
theorem greater_x (d0 : Nat) (x y : Int32) (z : Nat → Int32) (f : Nat → FA) : mcall (d0 + 1) 68 [vR 0, vI x, vI y] (LR z f) = some (some (vI (if I y < I x then x else y)), LR z f) := by
  have go : ∀ res, _ → mcall (d0 + 1) 68 [vR 0, vI x, vI y] (LR z f) = some res := fun res H => mcall_i (mq68 (cu := [])).2.2 rfl (vc68_0 (mcall d0) x y z f res H)
  refine go _ ?_
  first
    | exact ⟨fun q => by rw [if_pos (by omega)], fun q => by rw [if_neg (by omega)]⟩
    | exact ⟨fun q => by rw [if_neg (by omega)], fun q => by rw [if_pos (by omega)]⟩
set_option maxRecDepth 100000 in
theorem b234_1 (call : QC FA) (x1 : Int32) (x2 : Int32) (o3 : Option PV) (o4 : Option PV) (o5 : Option PV) (o6 : Option PV) (L : QH FA) (F : Nat) : rnG call 234 (F + 2) 0 [some (vR 0), some (vI x1), some (vI x2), o3, o4, o5, o6] [] L = rnG call 234 F 2 [some (vR 0), some (vI x1), some (vI x2), o3, o4, o5, o6] [vI 0, vR 0] L := rfl
set_option maxRecDepth 100000 in
theorem b234_2 (call : QC FA) (y : Int32) (ls : List (Option PV)) (z : Nat → Int32) (f : Nat → FA) (F : Nat) : rnG call 234 (F + 1) 2 ls [vI y, vR 0] (LR z f) = rnG call 234 F 3 ls [] (LR (uZ z 0 y) f) := rfl
set_option maxRecDepth 100000 in
theorem b234_3 (call : QC FA) (x1 : Int32) (x2 : Int32) (o3 : Option PV) (o4 : Option PV) (o5 : Option PV) (o6 : Option PV) (L : QH FA) (F : Nat) : rnG call 234 (F + 4) 3 [some (vR 0), some (vI x1), some (vI x2), o3, o4, o5, o6] [] L = rnG call 234 F 7 [some (vR 0), some (vI x1), some (vI x2), o3, o4, o5, o6] [vI 40, vI 0, vI x1, vR 0] L := rfl
set_option maxRecDepth 100000 in
theorem b234_4 (call : QC FA) (a0 : Int32) (a1 : Int32) (a2 : Int32) (ls : List (Option PV)) (z : Nat → Int32) (f : Nat → FA) (F : Nat) : rnG call 234 (F + 1) 7 ls [vI a2, vI a1, vI a0, vR 0] (LR z f) = cbd (call 47 [vR 0, vI a0, vI a1, vI a2] (LR z f)) (fun r L' => rnG call 234 F 8 ls (r.toList ++ []) L') := pcY (ih := rnG call 234 F) (call := call) (a := 47) (b := 3) (v := 12) (t := 8) (x := 0) (ls := ls) (As := [vI a0, vI a1, vI a2]) (st' := []) (L := LR z f) rfl rfl rfl
set_option maxRecDepth 100000 in
theorem b234_5 (call : QC FA) (x : Int32) (ls : List (Option PV)) (L : QH FA) (F : Nat) : rnG call 234 (F + 1) 8 ls [vI x] L = bif pcmp 0 x 0 then rnG call 234 F 15 ls [] L else rnG call 234 F 9 ls [] L := rfl
set_option maxRecDepth 100000 in
theorem b234_6 (call : QC FA) (x1 : Int32) (x2 : Int32) (o3 : Option PV) (o4 : Option PV) (o5 : Option PV) (o6 : Option PV) (L : QH FA) (F : Nat) : rnG call 234 (F + 1) 15 [some (vR 0), some (vI x1), some (vI x2), o3, o4, o5, o6] [] L = rnG call 234 F 16 [some (vR 0), some (vI x1), some (vI x2), o3, o4, o5, o6] [vI ((-1))] L := rfl
set_option maxRecDepth 100000 in
theorem b234_7 (call : QC FA) (x : Int32) (ls : List (Option PV)) (L : QH FA) (F : Nat) : rnG call 234 (F + 1) 16 ls [vI x] L = some (some (vI x), L) := rfl
set_option maxRecDepth 100000 in
theorem b234_8 (call : QC FA) (x1 : Int32) (x2 : Int32) (o3 : Option PV) (o4 : Option PV) (o5 : Option PV) (o6 : Option PV) (L : QH FA) (F : Nat) : rnG call 234 (F + 4) 9 [some (vR 0), some (vI x1), some (vI x2), o3, o4, o5, o6] [] L = rnG call 234 F 13 [some (vR 0), some (vI x1), some (vI x2), o3, o4, o5, o6] [vI 1, vI 0, vI x2, vR 0] L := rfl
set_option maxRecDepth 100000 in
theorem b234_9 (call : QC FA) (a0 : Int32) (a1 : Int32) (a2 : Int32) (ls : List (Option PV)) (z : Nat → Int32) (f : Nat → FA) (F : Nat) : rnG call 234 (F + 1) 13 ls [vI a2, vI a1, vI a0, vR 0] (LR z f) = cbd (call 47 [vR 0, vI a0, vI a1, vI a2] (LR z f)) (fun r L' => rnG call 234 F 14 ls (r.toList ++ []) L') := pcY (ih := rnG call 234 F) (call := call) (a := 47) (b := 3) (v := 12) (t := 14) (x := 0) (ls := ls) (As := [vI a0, vI a1, vI a2]) (st' := []) (L := LR z f) rfl rfl rfl
set_option maxRecDepth 100000 in
theorem b234_10 (call : QC FA) (x : Int32) (ls : List (Option PV)) (L : QH FA) (F : Nat) : rnG call 234 (F + 1) 14 ls [vI x] L = bif pcmp 1 x 0 then rnG call 234 F 17 ls [] L else rnG call 234 F 15 ls [] L := rfl
set_option maxRecDepth 100000 in
theorem b234_11 (call : QC FA) (x1 : Int32) (x2 : Int32) (o3 : Option PV) (o4 : Option PV) (o5 : Option PV) (o6 : Option PV) (L : QH FA) (F : Nat) : rnG call 234 (F + 8) 17 [some (vR 0), some (vI x1), some (vI x2), o3, o4, o5, o6] [] L = rnG call 234 F 25 [some (vR 0), some (vI x1), some (vI x2), some (vI 0), some (vI ((-1))), some (vI ((-1))), some (vI 0)] [] L := rfl
theorem vc234_0 (d : Nat) (x1 : Int32) (x2 : Int32) (o3 : Option PV) (o4 : Option PV) (o5 : Option PV) (o6 : Option PV) (z : Nat → Int32) (f : Nat → FA) (res : Option PV × QH FA) (H : (((0 ≤ I x1 ∧ I x1 ≤ 40) → (((0 ≤ I x2 ∧ I x2 ≤ 1) → RC (mcall (d + 1)) (mP 234) 25 [some (vR 0), some (vI x1), some (vI x2), some (vI 0), some (vI ((-1))), some (vI ((-1))), some (vI 0)] [] (LR (uZ z 0 0) f) res) ∧ ((¬ (0 ≤ I x2 ∧ I x2 ≤ 1)) → res = (some (vI ((-1))), LR (uZ z 0 0) f)))) ∧ ((¬ (0 ≤ I x1 ∧ I x1 ≤ 40)) → res = (some (vI ((-1))), LR (uZ z 0 0) f)))) : RC (mcall (d + 1)) (mP 234) 0 [some (vR 0), some (vI x1), some (vI x2), o3, o4, o5, o6] [] (LR z f) res := by
  refine rc_b (i' := 2) (ls' := [some (vR 0), some (vI x1), some (vI x2), o3, o4, o5, o6]) (st' := [vI 0, vR 0]) (L' := LR z f) 2 (b234_1 (mcall (d + 1)) x1 x2 o3 o4 o5 o6 _) ?_
  refine rc_b (i' := 3) (ls' := [some (vR 0), some (vI x1), some (vI x2), o3, o4, o5, o6]) (st' := []) (L' := LR (uZ z 0 0) f) 1 (b234_2 (mcall (d + 1)) 0 _ z f) ?_
  refine rc_b (i' := 7) (ls' := [some (vR 0), some (vI x1), some (vI x2), o3, o4, o5, o6]) (st' := [vI 40, vI 0, vI x1, vR 0]) (L' := LR (uZ z 0 0) f) 4 (b234_3 (mcall (d + 1)) x1 x2 o3 o4 o5 o6 _) ?_
  refine rc_call (t := 8) (ls' := [some (vR 0), some (vI x1), some (vI x2), o3, o4, o5, o6]) (st' := []) (b234_4 (mcall (d + 1)) x1 0 40 _ (uZ z 0 0) f) (isIn_r _ x1 0 40 (uZ z 0 0) f) ?_
  show RC (mcall (d + 1)) (mP 234) 8 [some (vR 0), some (vI x1), some (vI x2), o3, o4, o5, o6] [vI (bI (0 ≤ I x1 ∧ I x1 ≤ 40))] (LR (uZ z 0 0) f) res
  refine rc_bz (it := 15) (ie := 9) (ls' := [some (vR 0), some (vI x1), some (vI x2), o3, o4, o5, o6]) (st' := []) (b234_5 (mcall (d + 1)) (bI (0 ≤ I x1 ∧ I x1 ≤ 40)) _ _) (fun q1 => ?_) (fun q1 => ?_)
  · have H := H.2 q1
    refine rc_b (i' := 16) (ls' := [some (vR 0), some (vI x1), some (vI x2), o3, o4, o5, o6]) (st' := [vI ((-1))]) (L' := LR (uZ z 0 0) f) 1 (b234_6 (mcall (d + 1)) x1 x2 o3 o4 o5 o6 _) ?_
    subst H
    exact rc_ret (b234_7 (mcall (d + 1)) _ _ _)
  · have H := H.1 q1
    refine rc_b (i' := 13) (ls' := [some (vR 0), some (vI x1), some (vI x2), o3, o4, o5, o6]) (st' := [vI 1, vI 0, vI x2, vR 0]) (L' := LR (uZ z 0 0) f) 4 (b234_8 (mcall (d + 1)) x1 x2 o3 o4 o5 o6 _) ?_
    refine rc_call (t := 14) (ls' := [some (vR 0), some (vI x1), some (vI x2), o3, o4, o5, o6]) (st' := []) (b234_9 (mcall (d + 1)) x2 0 1 _ (uZ z 0 0) f) (isIn_r _ x2 0 1 (uZ z 0 0) f) ?_
    show RC (mcall (d + 1)) (mP 234) 14 [some (vR 0), some (vI x1), some (vI x2), o3, o4, o5, o6] [vI (bI (0 ≤ I x2 ∧ I x2 ≤ 1))] (LR (uZ z 0 0) f) res
    refine rc_bn (it := 17) (ie := 15) (ls' := [some (vR 0), some (vI x1), some (vI x2), o3, o4, o5, o6]) (st' := []) (b234_10 (mcall (d + 1)) (bI (0 ≤ I x2 ∧ I x2 ≤ 1)) _ _) (fun q2 => ?_) (fun q2 => ?_)
    · have H := H.1 q2
      refine rc_b (i' := 25) (ls' := [some (vR 0), some (vI x1), some (vI x2), some (vI 0), some (vI ((-1))), some (vI ((-1))), some (vI 0)]) (st' := []) (L' := LR (uZ z 0 0) f) 8 (b234_11 (mcall (d + 1)) x1 x2 o3 o4 o5 o6 _) ?_
      exact H
    · have H := H.2 q2
      refine rc_b (i' := 16) (ls' := [some (vR 0), some (vI x1), some (vI x2), o3, o4, o5, o6]) (st' := [vI ((-1))]) (L' := LR (uZ z 0 0) f) 1 (b234_6 (mcall (d + 1)) x1 x2 o3 o4 o5 o6 _) ?_
      subst H
      exact rc_ret (b234_7 (mcall (d + 1)) _ _ _)
set_option maxRecDepth 100000 in
theorem bc25_234_1 (call : QC FA) (x1 : Int32) (x2 : Int32) (x3 : Int32) (x4 : Int32) (x5 : Int32) (x6 : Int32) (z : Nat → Int32) (f : Nat → FA) (F : Nat) : rnG call 234 (F + 3) 25 [some (vR 0), some (vI x1), some (vI x2), some (vI x3), some (vI x4), some (vI x5), some (vI x6)] [] (LR z f) = rnG call 234 F 28 [some (vR 0), some (vI x1), some (vI x2), some (vI x3), some (vI x4), some (vI x5), some (vI x6)] [vI (z 61), vI x6] (LR z f) := rfl
set_option maxRecDepth 100000 in
theorem bc25_234_2 (call : QC FA) (x y : Int32) (ls : List (Option PV)) (L : QH FA) (F : Nat) : rnG call 234 (F + 1) 28 ls [vI y, vI x] L = bif pcmp 3 x y then rnG call 234 F 57 ls [] L else rnG call 234 F 29 ls [] L := rfl
set_option maxRecDepth 100000 in
theorem bc25_234_3 (call : QC FA) (x1 : Int32) (x2 : Int32) (x3 : Int32) (x4 : Int32) (x5 : Int32) (x6 : Int32) (L : QH FA) (F : Nat) : rnG call 234 (F + 1) 57 [some (vR 0), some (vI x1), some (vI x2), some (vI x3), some (vI x4), some (vI x5), some (vI x6)] [] L = rnG call 234 F 58 [some (vR 0), some (vI x1), some (vI x2), some (vI x3), some (vI x4), some (vI x5), some (vI x6)] [vI x2] L := rfl
set_option maxRecDepth 100000 in
theorem bc25_234_4 (call : QC FA) (x : Int32) (ls : List (Option PV)) (L : QH FA) (F : Nat) : rnG call 234 (F + 1) 58 ls [vI x] L = bif pcmp 1 x 0 then rnG call 234 F 61 ls [] L else rnG call 234 F 59 ls [] L := rfl
set_option maxRecDepth 100000 in
theorem bc25_234_5 (call : QC FA) (x1 : Int32) (x2 : Int32) (x3 : Int32) (x4 : Int32) (x5 : Int32) (x6 : Int32) (L : QH FA) (F : Nat) : rnG call 234 (F + 1) 61 [some (vR 0), some (vI x1), some (vI x2), some (vI x3), some (vI x4), some (vI x5), some (vI x6)] [] L = rnG call 234 F 62 [some (vR 0), some (vI x1), some (vI x2), some (vI x3), some (vI x4), some (vI x5), some (vI x6)] [vI x4] L := rfl
set_option maxRecDepth 100000 in
theorem bc25_234_6 (call : QC FA) (x : Int32) (ls : List (Option PV)) (L : QH FA) (F : Nat) : rnG call 234 (F + 1) 62 ls [vI x] L = some (some (vI x), L) := rfl
set_option maxRecDepth 100000 in
theorem bc25_234_7 (call : QC FA) (x1 : Int32) (x2 : Int32) (x3 : Int32) (x4 : Int32) (x5 : Int32) (x6 : Int32) (L : QH FA) (F : Nat) : rnG call 234 (F + 2) 59 [some (vR 0), some (vI x1), some (vI x2), some (vI x3), some (vI x4), some (vI x5), some (vI x6)] [] L = rnG call 234 F 62 [some (vR 0), some (vI x1), some (vI x2), some (vI x3), some (vI x4), some (vI x5), some (vI x6)] [vI x3] L := rfl
set_option maxRecDepth 100000 in
theorem bc25_234_8 (call : QC FA) (x1 : Int32) (x2 : Int32) (x3 : Int32) (x4 : Int32) (x5 : Int32) (x6 : Int32) (z : Nat → Int32) (f : Nat → FA) (F : Nat) : rnG call 234 (F + 3) 29 [some (vR 0), some (vI x1), some (vI x2), some (vI x3), some (vI x4), some (vI x5), some (vI x6)] [] (LR z f) = rnG call 234 F 32 [some (vR 0), some (vI x1), some (vI x2), some (vI x3), some (vI x4), some (vI x5), some (vI x6)] [vI x6, vR 36] (LR z f) := rfl
set_option maxRecDepth 100000 in
theorem bc25_234_9 (call : QC FA) (x : Int32) (ls : List (Option PV)) (z : Nat → Int32) (f : Nat → FA) (F : Nat) : rnG call 234 (F + 1) 32 ls [vI x, vR 36] (LR z f) = bif (Nat.beq 0 0 && pin x 12) then rnG call 234 F 33 ls [vI (f 36 (ix x))] (LR z f) else none := rfl
set_option maxRecDepth 100000 in
theorem bc25_234_10 (call : QC FA) (x1 : Int32) (x2 : Int32) (x3 : Int32) (x4 : Int32) (x5 : Int32) (x6 : Int32) (s0 : Int32) (L : QH FA) (F : Nat) : rnG call 234 (F + 1) 33 [some (vR 0), some (vI x1), some (vI x2), some (vI x3), some (vI x4), some (vI x5), some (vI x6)] [vI s0] L = rnG call 234 F 34 [some (vR 0), some (vI x1), some (vI x2), some (vI x3), some (vI x4), some (vI x5), some (vI x6)] [vI x5, vI s0] L := rfl
set_option maxRecDepth 100000 in
theorem bc25_234_11 (call : QC FA) (x y : Int32) (ls : List (Option PV)) (L : QH FA) (F : Nat) : rnG call 234 (F + 1) 34 ls [vI y, vI x] L = bif pcmp 5 x y then rnG call 234 F 47 ls [] L else rnG call 234 F 35 ls [] L := rfl
set_option maxRecDepth 100000 in
theorem bc25_234_12 (call : QC FA) (x1 : Int32) (x2 : Int32) (x3 : Int32) (x4 : Int32) (x5 : Int32) (x6 : Int32) (z : Nat → Int32) (f : Nat → FA) (F : Nat) : rnG call 234 (F + 5) 47 [some (vR 0), some (vI x1), some (vI x2), some (vI x3), some (vI x4), some (vI x5), some (vI x6)] [] (LR z f) = rnG call 234 F 52 [some (vR 0), some (vI x1), some (vI x2), some (vI x3), some (vI x4), some (vI x5), some (vI x6)] [vI x6, vR 36, vI x5, vR 0] (LR z f) := rfl
set_option maxRecDepth 100000 in
theorem bc25_234_13 (call : QC FA) (x : Int32) (s0 : Int32) (ls : List (Option PV)) (z : Nat → Int32) (f : Nat → FA) (F : Nat) : rnG call 234 (F + 1) 52 ls [vI x, vR 36, vI s0, vR 0] (LR z f) = bif (Nat.beq 0 0 && pin x 12) then rnG call 234 F 53 ls [vI (f 36 (ix x)), vI s0, vR 0] (LR z f) else none := rfl
set_option maxRecDepth 100000 in
theorem bc25_234_14 (call : QC FA) (a0 : Int32) (a1 : Int32) (ls : List (Option PV)) (z : Nat → Int32) (f : Nat → FA) (F : Nat) : rnG call 234 (F + 1) 53 ls [vI a1, vI a0, vR 0] (LR z f) = cbd (call 68 [vR 0, vI a0, vI a1] (LR z f)) (fun r L' => rnG call 234 F 54 ls (r.toList ++ []) L') := pcY (ih := rnG call 234 F) (call := call) (a := 68) (b := 2) (v := 12) (t := 54) (x := 0) (ls := ls) (As := [vI a0, vI a1]) (st' := []) (L := LR z f) rfl rfl rfl
set_option maxRecDepth 100000 in
theorem bc25_234_15 (call : QC FA) (x1 : Int32) (x2 : Int32) (x3 : Int32) (x4 : Int32) (x5 : Int32) (x6 : Int32) (s0 : Int32) (L : QH FA) (F : Nat) : rnG call 234 (F + 1) 54 [some (vR 0), some (vI x1), some (vI x2), some (vI x3), some (vI x4), some (vI x5), some (vI x6)] [vI s0] L = rnG call 234 F 55 [some (vR 0), some (vI x1), some (vI x2), some (vI x3), some (vI x4), some (vI s0), some (vI x6)] [] L := rfl
set_option maxRecDepth 100000 in
theorem bc25_234_16 (call : QC FA) (x1 : Int32) (x2 : Int32) (x3 : Int32) (x4 : Int32) (x5 : Int32) (x6 : Int32) (L : QH FA) (F : Nat) : rnG call 234 (F + 1) 55 [some (vR 0), some (vI x1), some (vI x2), some (vI x3), some (vI x4), some (vI x5), some (vI x6)] [] L = rnG call 234 F 56 [some (vR 0), some (vI x1), some (vI x2), some (vI x3), some (vI x4), some (vI x5), some (vI (x6 + 1))] [] L := rfl
set_option maxRecDepth 100000 in
theorem bc25_234_17 (call : QC FA) (x1 : Int32) (x2 : Int32) (x3 : Int32) (x4 : Int32) (x5 : Int32) (x6 : Int32) (L : QH FA) (F : Nat) : rnG call 234 (F + 1) 56 [some (vR 0), some (vI x1), some (vI x2), some (vI x3), some (vI x4), some (vI x5), some (vI x6)] [] L = rnG call 234 F 25 [some (vR 0), some (vI x1), some (vI x2), some (vI x3), some (vI x4), some (vI x5), some (vI x6)] [] L := rfl
set_option maxRecDepth 100000 in
theorem bc25_234_18 (call : QC FA) (x1 : Int32) (x2 : Int32) (x3 : Int32) (x4 : Int32) (x5 : Int32) (x6 : Int32) (z : Nat → Int32) (f : Nat → FA) (F : Nat) : rnG call 234 (F + 3) 35 [some (vR 0), some (vI x1), some (vI x2), some (vI x3), some (vI x4), some (vI x5), some (vI x6)] [] (LR z f) = rnG call 234 F 38 [some (vR 0), some (vI x1), some (vI x2), some (vI x3), some (vI x4), some (vI x5), some (vI x6)] [vI x6, vR 36] (LR z f) := rfl
set_option maxRecDepth 100000 in
theorem bc25_234_19 (call : QC FA) (x : Int32) (ls : List (Option PV)) (z : Nat → Int32) (f : Nat → FA) (F : Nat) : rnG call 234 (F + 1) 38 ls [vI x, vR 36] (LR z f) = bif (Nat.beq 0 0 && pin x 12) then rnG call 234 F 39 ls [vI (f 36 (ix x))] (LR z f) else none := rfl
set_option maxRecDepth 100000 in
theorem bc25_234_20 (call : QC FA) (x1 : Int32) (x2 : Int32) (x3 : Int32) (x4 : Int32) (x5 : Int32) (x6 : Int32) (s0 : Int32) (L : QH FA) (F : Nat) : rnG call 234 (F + 1) 39 [some (vR 0), some (vI x1), some (vI x2), some (vI x3), some (vI x4), some (vI x5), some (vI x6)] [vI s0] L = rnG call 234 F 40 [some (vR 0), some (vI x1), some (vI x2), some (vI x3), some (vI x4), some (vI x5), some (vI x6)] [vI x1, vI s0] L := rfl
set_option maxRecDepth 100000 in
theorem bc25_234_21 (call : QC FA) (x y : Int32) (ls : List (Option PV)) (L : QH FA) (F : Nat) : rnG call 234 (F + 1) 40 ls [vI y, vI x] L = bif pcmp 4 x y then rnG call 234 F 47 ls [] L else rnG call 234 F 41 ls [] L := rfl
set_option maxRecDepth 100000 in
theorem bc25_234_22 (call : QC FA) (x1 : Int32) (x2 : Int32) (x3 : Int32) (x4 : Int32) (x5 : Int32) (x6 : Int32) (z : Nat → Int32) (f : Nat → FA) (F : Nat) : rnG call 234 (F + 11) 41 [some (vR 0), some (vI x1), some (vI x2), some (vI x3), some (vI x4), some (vI x5), some (vI x6)] [] (LR z f) = rnG call 234 F 52 [some (vR 0), some (vI x1), some (vI x2), some (vI (x3 + 1)), some (vI x6), some (vI x5), some (vI x6)] [vI x6, vR 36, vI x5, vR 0] (LR z f) := rfl
theorem vcc25_234_25 (d : Nat) (x1 : Int32) (x2 : Int32) (x3 : Int32) (x4 : Int32) (x5 : Int32) (x6 : Int32) (z : Nat → Int32) (f : Nat → FA) (res : Option PV × QH FA) (H : ((I (z 61) ≤ I x6 → ((¬ x2 = 0 → res = (some (vI x4), LR z f)) ∧ (x2 = 0 → res = (some (vI x3), LR z f)))) ∧ (I x6 < I (z 61) → (pin x6 12 = true ∧ ((I (f 36 (ix x6)) ≤ I x5 → (pin x6 12 = true ∧ (∃ (r1 : Int32) (z1 : Nat → Int32) (f1 : Nat → FA), (mcall (d + 1)) 68 [vR 0, vI x5, vI (f 36 (ix x6))] (LR z f) = some (some (vI r1), LR z1 f1) ∧ RC (mcall (d + 1)) (mP 234) 25 [some (vR 0), some (vI x1), some (vI x2), some (vI x3), some (vI x4), some (vI r1), some (vI (x6 + 1))] [] (LR z1 f1) res))) ∧ (I x5 < I (f 36 (ix x6)) → (pin x6 12 = true ∧ ((I x1 < I (f 36 (ix x6)) → (pin x6 12 = true ∧ (∃ (r2 : Int32) (z2 : Nat → Int32) (f2 : Nat → FA), (mcall (d + 1)) 68 [vR 0, vI x5, vI (f 36 (ix x6))] (LR z f) = some (some (vI r2), LR z2 f2) ∧ RC (mcall (d + 1)) (mP 234) 25 [some (vR 0), some (vI x1), some (vI x2), some (vI x3), some (vI x4), some (vI r2), some (vI (x6 + 1))] [] (LR z2 f2) res))) ∧ (I (f 36 (ix x6)) ≤ I x1 → (pin x6 12 = true ∧ (∃ (r3 : Int32) (z3 : Nat → Int32) (f3 : Nat → FA), (mcall (d + 1)) 68 [vR 0, vI x5, vI (f 36 (ix x6))] (LR z f) = some (some (vI r3), LR z3 f3) ∧ RC (mcall (d + 1)) (mP 234) 25 [some (vR 0), some (vI x1), some (vI x2), some (vI (x3 + 1)), some (vI x6), some (vI r3), some (vI (x6 + 1))] [] (LR z3 f3) res))))))))))) : RC (mcall (d + 1)) (mP 234) 25 [some (vR 0), some (vI x1), some (vI x2), some (vI x3), some (vI x4), some (vI x5), some (vI x6)] [] (LR z f) res := by
  refine rc_b (i' := 28) (ls' := [some (vR 0), some (vI x1), some (vI x2), some (vI x3), some (vI x4), some (vI x5), some (vI x6)]) (st' := [vI (z 61), vI x6]) (L' := LR z f) 3 (bc25_234_1 (mcall (d + 1)) x1 x2 x3 x4 x5 x6 z f) ?_
  refine rc_if (it := 57) (ie := 29) (ls' := [some (vR 0), some (vI x1), some (vI x2), some (vI x3), some (vI x4), some (vI x5), some (vI x6)]) (st' := []) (bc25_234_2 (mcall (d + 1)) x6 (z 61) _ _) (fun q1 => ?_) (fun q1 => ?_)
  · have H := H.1 (cI3t q1 rfl rfl)
    refine rc_b (i' := 58) (ls' := [some (vR 0), some (vI x1), some (vI x2), some (vI x3), some (vI x4), some (vI x5), some (vI x6)]) (st' := [vI x2]) (L' := LR z f) 1 (bc25_234_3 (mcall (d + 1)) x1 x2 x3 x4 x5 x6 _) ?_
    refine rc_if (it := 61) (ie := 59) (ls' := [some (vR 0), some (vI x1), some (vI x2), some (vI x3), some (vI x4), some (vI x5), some (vI x6)]) (st' := []) (bc25_234_4 (mcall (d + 1)) x2 _ _) (fun q2 => ?_) (fun q2 => ?_)
    · have H := H.1 (cI1t q2)
      refine rc_b (i' := 62) (ls' := [some (vR 0), some (vI x1), some (vI x2), some (vI x3), some (vI x4), some (vI x5), some (vI x6)]) (st' := [vI x4]) (L' := LR z f) 1 (bc25_234_5 (mcall (d + 1)) x1 x2 x3 x4 x5 x6 _) ?_
      subst H
      exact rc_ret (bc25_234_6 (mcall (d + 1)) _ _ _)
    · have H := H.2 (cI1f q2)
      refine rc_b (i' := 62) (ls' := [some (vR 0), some (vI x1), some (vI x2), some (vI x3), some (vI x4), some (vI x5), some (vI x6)]) (st' := [vI x3]) (L' := LR z f) 2 (bc25_234_7 (mcall (d + 1)) x1 x2 x3 x4 x5 x6 _) ?_
      subst H
      exact rc_ret (bc25_234_6 (mcall (d + 1)) _ _ _)
  · have H := H.2 (cI3f q1 rfl rfl)
    refine rc_b (i' := 32) (ls' := [some (vR 0), some (vI x1), some (vI x2), some (vI x3), some (vI x4), some (vI x5), some (vI x6)]) (st' := [vI x6, vR 36]) (L' := LR z f) 3 (bc25_234_8 (mcall (d + 1)) x1 x2 x3 x4 x5 x6 z f) ?_
    obtain ⟨g1, H⟩ := H
    refine rc_g (i' := 33) (ls' := [some (vR 0), some (vI x1), some (vI x2), some (vI x3), some (vI x4), some (vI x5), some (vI x6)]) (st' := [vI (f 36 (ix x6))]) (L' := LR z f) (bc25_234_9 (mcall (d + 1)) x6 _ z f) (pinG g1) ?_
    refine rc_b (i' := 34) (ls' := [some (vR 0), some (vI x1), some (vI x2), some (vI x3), some (vI x4), some (vI x5), some (vI x6)]) (st' := [vI x5, vI (f 36 (ix x6))]) (L' := LR z f) 1 (bc25_234_10 (mcall (d + 1)) x1 x2 x3 x4 x5 x6 (f 36 (ix x6)) _) ?_
    refine rc_if (it := 47) (ie := 35) (ls' := [some (vR 0), some (vI x1), some (vI x2), some (vI x3), some (vI x4), some (vI x5), some (vI x6)]) (st' := []) (bc25_234_11 (mcall (d + 1)) (f 36 (ix x6)) x5 _ _) (fun q3 => ?_) (fun q3 => ?_)
    · have H := H.1 (cI5t q3 rfl rfl)
      refine rc_b (i' := 52) (ls' := [some (vR 0), some (vI x1), some (vI x2), some (vI x3), some (vI x4), some (vI x5), some (vI x6)]) (st' := [vI x6, vR 36, vI x5, vR 0]) (L' := LR z f) 5 (bc25_234_12 (mcall (d + 1)) x1 x2 x3 x4 x5 x6 z f) ?_
      obtain ⟨g1, H⟩ := H
      refine rc_g (i' := 53) (ls' := [some (vR 0), some (vI x1), some (vI x2), some (vI x3), some (vI x4), some (vI x5), some (vI x6)]) (st' := [vI (f 36 (ix x6)), vI x5, vR 0]) (L' := LR z f) (bc25_234_13 (mcall (d + 1)) x6 x5 _ z f) (pinG g1) ?_
      obtain ⟨r1, z1, f1, hc, H⟩ := H
      refine rc_call (t := 54) (ls' := [some (vR 0), some (vI x1), some (vI x2), some (vI x3), some (vI x4), some (vI x5), some (vI x6)]) (st' := []) (bc25_234_14 (mcall (d + 1)) x5 (f 36 (ix x6)) _ z f) hc ?_
      show RC (mcall (d + 1)) (mP 234) 54 [some (vR 0), some (vI x1), some (vI x2), some (vI x3), some (vI x4), some (vI x5), some (vI x6)] [vI r1] (LR z1 f1) res
      refine rc_b (i' := 55) (ls' := [some (vR 0), some (vI x1), some (vI x2), some (vI x3), some (vI x4), some (vI r1), some (vI x6)]) (st' := []) (L' := LR z1 f1) 1 (bc25_234_15 (mcall (d + 1)) x1 x2 x3 x4 x5 x6 r1 _) ?_
      refine rc_b (i' := 56) (ls' := [some (vR 0), some (vI x1), some (vI x2), some (vI x3), some (vI x4), some (vI r1), some (vI (x6 + 1))]) (st' := []) (L' := LR z1 f1) 1 (bc25_234_16 (mcall (d + 1)) x1 x2 x3 x4 r1 x6 _) ?_
      refine rc_b (i' := 25) (ls' := [some (vR 0), some (vI x1), some (vI x2), some (vI x3), some (vI x4), some (vI r1), some (vI (x6 + 1))]) (st' := []) (L' := LR z1 f1) 1 (bc25_234_17 (mcall (d + 1)) x1 x2 x3 x4 r1 (x6 + 1) _) ?_
      exact H
    · have H := H.2 (cI5f q3 rfl rfl)
      refine rc_b (i' := 38) (ls' := [some (vR 0), some (vI x1), some (vI x2), some (vI x3), some (vI x4), some (vI x5), some (vI x6)]) (st' := [vI x6, vR 36]) (L' := LR z f) 3 (bc25_234_18 (mcall (d + 1)) x1 x2 x3 x4 x5 x6 z f) ?_
      obtain ⟨g1, H⟩ := H
      refine rc_g (i' := 39) (ls' := [some (vR 0), some (vI x1), some (vI x2), some (vI x3), some (vI x4), some (vI x5), some (vI x6)]) (st' := [vI (f 36 (ix x6))]) (L' := LR z f) (bc25_234_19 (mcall (d + 1)) x6 _ z f) (pinG g1) ?_
      refine rc_b (i' := 40) (ls' := [some (vR 0), some (vI x1), some (vI x2), some (vI x3), some (vI x4), some (vI x5), some (vI x6)]) (st' := [vI x1, vI (f 36 (ix x6))]) (L' := LR z f) 1 (bc25_234_20 (mcall (d + 1)) x1 x2 x3 x4 x5 x6 (f 36 (ix x6)) _) ?_
      refine rc_if (it := 47) (ie := 41) (ls' := [some (vR 0), some (vI x1), some (vI x2), some (vI x3), some (vI x4), some (vI x5), some (vI x6)]) (st' := []) (bc25_234_21 (mcall (d + 1)) (f 36 (ix x6)) x1 _ _) (fun q4 => ?_) (fun q4 => ?_)
      · have H := H.1 (cI4t q4 rfl rfl)
        refine rc_b (i' := 52) (ls' := [some (vR 0), some (vI x1), some (vI x2), some (vI x3), some (vI x4), some (vI x5), some (vI x6)]) (st' := [vI x6, vR 36, vI x5, vR 0]) (L' := LR z f) 5 (bc25_234_12 (mcall (d + 1)) x1 x2 x3 x4 x5 x6 z f) ?_
        obtain ⟨g1, H⟩ := H
        refine rc_g (i' := 53) (ls' := [some (vR 0), some (vI x1), some (vI x2), some (vI x3), some (vI x4), some (vI x5), some (vI x6)]) (st' := [vI (f 36 (ix x6)), vI x5, vR 0]) (L' := LR z f) (bc25_234_13 (mcall (d + 1)) x6 x5 _ z f) (pinG g1) ?_
        obtain ⟨r2, z2, f2, hc, H⟩ := H
        refine rc_call (t := 54) (ls' := [some (vR 0), some (vI x1), some (vI x2), some (vI x3), some (vI x4), some (vI x5), some (vI x6)]) (st' := []) (bc25_234_14 (mcall (d + 1)) x5 (f 36 (ix x6)) _ z f) hc ?_
        show RC (mcall (d + 1)) (mP 234) 54 [some (vR 0), some (vI x1), some (vI x2), some (vI x3), some (vI x4), some (vI x5), some (vI x6)] [vI r2] (LR z2 f2) res
        refine rc_b (i' := 55) (ls' := [some (vR 0), some (vI x1), some (vI x2), some (vI x3), some (vI x4), some (vI r2), some (vI x6)]) (st' := []) (L' := LR z2 f2) 1 (bc25_234_15 (mcall (d + 1)) x1 x2 x3 x4 x5 x6 r2 _) ?_
        refine rc_b (i' := 56) (ls' := [some (vR 0), some (vI x1), some (vI x2), some (vI x3), some (vI x4), some (vI r2), some (vI (x6 + 1))]) (st' := []) (L' := LR z2 f2) 1 (bc25_234_16 (mcall (d + 1)) x1 x2 x3 x4 r2 x6 _) ?_
        refine rc_b (i' := 25) (ls' := [some (vR 0), some (vI x1), some (vI x2), some (vI x3), some (vI x4), some (vI r2), some (vI (x6 + 1))]) (st' := []) (L' := LR z2 f2) 1 (bc25_234_17 (mcall (d + 1)) x1 x2 x3 x4 r2 (x6 + 1) _) ?_
        exact H
      · have H := H.2 (cI4f q4 rfl rfl)
        refine rc_b (i' := 52) (ls' := [some (vR 0), some (vI x1), some (vI x2), some (vI (x3 + 1)), some (vI x6), some (vI x5), some (vI x6)]) (st' := [vI x6, vR 36, vI x5, vR 0]) (L' := LR z f) 11 (bc25_234_22 (mcall (d + 1)) x1 x2 x3 x4 x5 x6 z f) ?_
        obtain ⟨g1, H⟩ := H
        refine rc_g (i' := 53) (ls' := [some (vR 0), some (vI x1), some (vI x2), some (vI (x3 + 1)), some (vI x6), some (vI x5), some (vI x6)]) (st' := [vI (f 36 (ix x6)), vI x5, vR 0]) (L' := LR z f) (bc25_234_13 (mcall (d + 1)) x6 x5 _ z f) (pinG g1) ?_
        obtain ⟨r3, z3, f3, hc, H⟩ := H
        refine rc_call (t := 54) (ls' := [some (vR 0), some (vI x1), some (vI x2), some (vI (x3 + 1)), some (vI x6), some (vI x5), some (vI x6)]) (st' := []) (bc25_234_14 (mcall (d + 1)) x5 (f 36 (ix x6)) _ z f) hc ?_
        show RC (mcall (d + 1)) (mP 234) 54 [some (vR 0), some (vI x1), some (vI x2), some (vI (x3 + 1)), some (vI x6), some (vI x5), some (vI x6)] [vI r3] (LR z3 f3) res
        refine rc_b (i' := 55) (ls' := [some (vR 0), some (vI x1), some (vI x2), some (vI (x3 + 1)), some (vI x6), some (vI r3), some (vI x6)]) (st' := []) (L' := LR z3 f3) 1 (bc25_234_15 (mcall (d + 1)) x1 x2 (x3 + 1) x6 x5 x6 r3 _) ?_
        refine rc_b (i' := 56) (ls' := [some (vR 0), some (vI x1), some (vI x2), some (vI (x3 + 1)), some (vI x6), some (vI r3), some (vI (x6 + 1))]) (st' := []) (L' := LR z3 f3) 1 (bc25_234_16 (mcall (d + 1)) x1 x2 (x3 + 1) x6 r3 x6 _) ?_
        refine rc_b (i' := 25) (ls' := [some (vR 0), some (vI x1), some (vI x2), some (vI (x3 + 1)), some (vI x6), some (vI r3), some (vI (x6 + 1))]) (st' := []) (L' := LR z3 f3) 1 (bc25_234_17 (mcall (d + 1)) x1 x2 (x3 + 1) x6 r3 (x6 + 1) _) ?_
        exact H
theorem lnl (d : Nat) (h w : Int32) {z : Nat → Int32} {f : Nat → FA} {n : Nat} (hz : z 61 = nI n) (hn : n ≤ 12) : ∀ t i, i + t = n → RC (mcall (d + 1)) (mP 234) 25 [some (vR 0), some (vI h), some (vI w), some (vI (lnF h (f 36) i).2.1), some (vI (lnF h (f 36) i).2.2), some (vI (lnF h (f 36) i).1), some (vI (nI i))] [] (LR z f) (some (vI (lnA h w (lnF h (f 36) n))), LR z f) := by
  intro t
  induction t with
  | zero =>
    intro i hi
    obtain rfl : i = n := by omega
    refine vcc25_234_25 d _ _ _ _ _ _ _ _ _ ⟨fun _ => ⟨fun q => by unfold lnA; rw [if_neg q], fun q => by unfold lnA; rw [if_pos q]⟩, fun q => ?_⟩
    rw [hz, I_nI (n := i) (by omega)] at q
    omega
  | succ t ih =>
    intro i hi
    have h1 := ih (i + 1) (by omega)
    rw [← nI_add i 1] at h1
    have hp : pin (nI i) 12 = true := pin_nI (by omega) (by omega)
    have hx : ix (nI i) = i := ix_nI (by omega)
    refine vcc25_234_25 d _ _ _ _ _ _ _ _ _ ⟨fun q => ?_, fun _ => ⟨hp, fun q => ⟨hp, _, _, _, greater_x d _ _ _ _, ?_⟩, fun q => ⟨hp, fun q2 => ⟨hp, _, _, _, greater_x d _ _ _ _, ?_⟩, fun q2 => ⟨hp, _, _, _, greater_x d _ _ _ _, ?_⟩⟩⟩⟩
    · rw [hz, I_nI (n := n) (by omega), I_nI (n := i) (by omega)] at q
      omega
    · rw [hx] at q ⊢
      have e : lnF h (f 36) (i + 1) = lnF h (f 36) i := if_pos q
      rw [e] at h1
      rw [show (if I (f 36 i) < I (lnF h (f 36) i).1 then (lnF h (f 36) i).1 else f 36 i) = (lnF h (f 36) i).1 from by
        by_cases c : I (f 36 i) < I (lnF h (f 36) i).1
        · rw [if_pos c]
        · rw [if_neg c]
          exact Int32.toInt_inj.mp (show I _ = I _ by omega)]
      exact h1
    · rw [hx] at q q2 ⊢
      have e : lnF h (f 36) (i + 1) = (f 36 i, (lnF h (f 36) i).2.1, (lnF h (f 36) i).2.2) := (if_neg (by omega)).trans (if_pos q2)
      rw [e] at h1
      rw [if_neg (show ¬ I (f 36 i) < I (lnF h (f 36) i).1 by omega)]
      exact h1
    · rw [hx] at q q2 ⊢
      have e : lnF h (f 36) (i + 1) = (f 36 i, (lnF h (f 36) i).2.1 + 1, nI i) := (if_neg (by omega)).trans (if_neg (by omega))
      rw [e] at h1
      rw [if_neg (show ¬ I (f 36 i) < I (lnF h (f 36) i).1 by omega)]
      exact h1
theorem m_lantern (d : Nat) (h w : Int32) {z : Nat → Int32} {f : Nat → FA} {n : Nat} (hz : z 61 = nI n) (hn : n ≤ 12) : mcall (d + 2) 234 [vR 0, vI h, vI w] (LR z f) = some (some (vI (if (0 ≤ I h ∧ I h ≤ 40) ∧ (0 ≤ I w ∧ I w ≤ 1) then lnA h w (lnF h (f 36) n) else -1)), LR (uZ z 0 0) f) := by
  have go : ∀ res, _ → mcall (d + 2) 234 [vR 0, vI h, vI w] (LR z f) = some res := fun res H => mcall_i (mq234 (cu := [])).2.2 rfl (vc234_0 d h w none none none none z f res H)
  refine go _ ⟨fun q1 => ⟨fun q2 => ?_, fun q => ?_⟩, fun q => ?_⟩
  · rw [if_pos ⟨q1, q2⟩]
    exact lnl d h w (by rw [uZ_n (by decide)]; exact hz) hn n 0 (by omega)
  · rw [if_neg (fun z => q z.2)]
  · rw [if_neg (fun z => q z.1)]
theorem tq_lantern (l : Launch) (G : PG) {nc nm : Nat} {h : PH} (hI : LIY TP nc nm h) (x1 x2 : Int32) : PRY TP l G nc nm h 166 3 234 2 [vI x1, vI x2] := by
  obtain ⟨lam, b, u, z, f, zm, fm, hB, hR, hM, hT, hX⟩ := TP_link hI
  obtain ⟨m, hm, e1, e2, e3⟩ : SL 0 30 12 (z 15) (f 16) (zm 61) (fm 36) := hT 6 (by decide)
  have r := m_lantern 0 x1 x2 (z := zm) (f := fm) e2 hm
  rw [← lnF_cong (h := x1) m (fun j hj => (e3 j hj).1)] at r
  exact tp_pair l G hB hR hM hX (kc_q192_ok l G lam hB.2.1) (kr_q54_ok l G _ (lamM_r nm) _ (EXK_of (lamM_r nm))) (As := [x1, x2]) (c_lantern 0 x1 x2 e1 hm) r (TA_0 hT) (by decide +kernel) (by decide +kernel) ⟨by rw [show nc = lam 0 from (hB.2.2.1 0 (by decide)).symm]; rfl, ⟨_, rfl, inb_top _⟩, ⟨_, rfl, inb_top _⟩, trivial⟩ ⟨rfl, ⟨_, rfl, inb_top _⟩, ⟨_, rfl, inb_top _⟩, trivial⟩ rfl
