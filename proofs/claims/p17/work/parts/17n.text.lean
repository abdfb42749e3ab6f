/-! text of the reference, to its end -/
set_option maxRecDepth 100000 in
theorem b279_1 (call : QC FA) (x1 : Int32) (x2 : Int32) (o3 : Option PV) (L : QH FA) (F : Nat) : rnG call 279 (F + 2) 0 [some (vR 0), some (vI x1), some (vI x2), o3] [] L = rnG call 279 F 2 [some (vR 0), some (vI x1), some (vI x2), o3] [vI 3, vI x1] L := rfl
set_option maxRecDepth 100000 in
theorem b279_2 (call : QC FA) (x y : Int32) (ls : List (Option PV)) (L : QH FA) (F : Nat) : rnG call 279 (F + 1) 2 ls [vI y, vI x] L = bif pcmp 1 x y then rnG call 279 F 24 ls [] L else rnG call 279 F 3 ls [] L := rfl
set_option maxRecDepth 100000 in
theorem b279_3 (call : QC FA) (x1 : Int32) (x2 : Int32) (o3 : Option PV) (L : QH FA) (F : Nat) : rnG call 279 (F + 2) 24 [some (vR 0), some (vI x1), some (vI x2), o3] [] L = rnG call 279 F 26 [some (vR 0), some (vI x1), some (vI x2), o3] [vI 1, vI x1] L := rfl
set_option maxRecDepth 100000 in
theorem b279_4 (call : QC FA) (x y : Int32) (ls : List (Option PV)) (L : QH FA) (F : Nat) : rnG call 279 (F + 1) 26 ls [vI y, vI x] L = bif pcmp 1 x y then rnG call 279 F 50 ls [] L else rnG call 279 F 27 ls [] L := rfl
set_option maxRecDepth 100000 in
theorem b279_5 (call : QC FA) (x1 : Int32) (x2 : Int32) (o3 : Option PV) (L : QH FA) (F : Nat) : rnG call 279 (F + 2) 50 [some (vR 0), some (vI x1), some (vI x2), o3] [] L = rnG call 279 F 52 [some (vR 0), some (vI x1), some (vI x2), some (vI 0)] [] L := rfl
set_option maxRecDepth 100000 in
theorem b279_6 (call : QC FA) (x1 : Int32) (x2 : Int32) (o3 : Option PV) (L : QH FA) (F : Nat) : rnG call 279 (F + 2) 27 [some (vR 0), some (vI x1), some (vI x2), o3] [] L = rnG call 279 F 29 [some (vR 0), some (vI x1), some (vI x2), some (vI 0)] [] L := rfl
set_option maxRecDepth 100000 in
theorem b279_7 (call : QC FA) (x1 : Int32) (x2 : Int32) (o3 : Option PV) (L : QH FA) (F : Nat) : rnG call 279 (F + 2) 3 [some (vR 0), some (vI x1), some (vI x2), o3] [] L = rnG call 279 F 5 [some (vR 0), some (vI x1), some (vI x2), some (vI 0)] [] L := rfl
theorem vc279_0 (call : QC FA) (x1 : Int32) (x2 : Int32) (o3 : Option PV) (z : Nat → Int32) (f : Nat → FA) (res : Option PV × QH FA) (H : ((¬ x1 = 3 → ((¬ x1 = 1 → RC call (mP 279) 52 [some (vR 0), some (vI x1), some (vI x2), some (vI 0)] [] (LR z f) res) ∧ (x1 = 1 → RC call (mP 279) 29 [some (vR 0), some (vI x1), some (vI x2), some (vI 0)] [] (LR z f) res))) ∧ (x1 = 3 → RC call (mP 279) 5 [some (vR 0), some (vI x1), some (vI x2), some (vI 0)] [] (LR z f) res))) : RC call (mP 279) 0 [some (vR 0), some (vI x1), some (vI x2), o3] [] (LR z f) res := by
  refine rc_b (i' := 2) (ls' := [some (vR 0), some (vI x1), some (vI x2), o3]) (st' := [vI 3, vI x1]) (L' := LR z f) 2 (b279_1 call x1 x2 o3 _) ?_
  refine rc_if (it := 24) (ie := 3) (ls' := [some (vR 0), some (vI x1), some (vI x2), o3]) (st' := []) (b279_2 call x1 3 _ _) (fun q1 => ?_) (fun q1 => ?_)
  · have H := H.1 (cI1t q1)
    refine rc_b (i' := 26) (ls' := [some (vR 0), some (vI x1), some (vI x2), o3]) (st' := [vI 1, vI x1]) (L' := LR z f) 2 (b279_3 call x1 x2 o3 _) ?_
    refine rc_if (it := 50) (ie := 27) (ls' := [some (vR 0), some (vI x1), some (vI x2), o3]) (st' := []) (b279_4 call x1 1 _ _) (fun q2 => ?_) (fun q2 => ?_)
    · have H := H.1 (cI1t q2)
      refine rc_b (i' := 52) (ls' := [some (vR 0), some (vI x1), some (vI x2), some (vI 0)]) (st' := []) (L' := LR z f) 2 (b279_5 call x1 x2 o3 _) ?_
      exact H
    · have H := H.2 (cI1f q2)
      refine rc_b (i' := 29) (ls' := [some (vR 0), some (vI x1), some (vI x2), some (vI 0)]) (st' := []) (L' := LR z f) 2 (b279_6 call x1 x2 o3 _) ?_
      exact H
  · have H := H.2 (cI1f q1)
    refine rc_b (i' := 5) (ls' := [some (vR 0), some (vI x1), some (vI x2), some (vI 0)]) (st' := []) (L' := LR z f) 2 (b279_7 call x1 x2 o3 _) ?_
    exact H
set_option maxRecDepth 100000 in
theorem bc5_279_1 (call : QC FA) (o1 : Option PV) (x2 : Int32) (x3 : Int32) (L : QH FA) (F : Nat) : rnG call 279 (F + 2) 5 [some (vR 0), o1, some (vI x2), some (vI x3)] [] L = rnG call 279 F 7 [some (vR 0), o1, some (vI x2), some (vI x3)] [vI 20, vI x3] L := rfl
set_option maxRecDepth 100000 in
theorem bc5_279_2 (call : QC FA) (x y : Int32) (ls : List (Option PV)) (L : QH FA) (F : Nat) : rnG call 279 (F + 1) 7 ls [vI y, vI x] L = bif pcmp 3 x y then rnG call 279 F 20 ls [] L else rnG call 279 F 8 ls [] L := rfl
set_option maxRecDepth 100000 in
theorem bc5_279_3 (call : QC FA) (o1 : Option PV) (x2 : Int32) (x3 : Int32) (L : QH FA) (F : Nat) : rnG call 279 (F + 2) 20 [some (vR 0), o1, some (vI x2), some (vI x3)] [] L = rnG call 279 F 22 [some (vR 0), o1, some (vI x2), some (vI x3)] [vI x2, vR 0] L := rfl
set_option maxRecDepth 100000 in
theorem bc5_279_4 (call : QC FA) (y : Int32) (ls : List (Option PV)) (z : Nat → Int32) (f : Nat → FA) (F : Nat) : rnG call 279 (F + 1) 22 ls [vI y, vR 0] (LR z f) = rnG call 279 F 23 ls [] (LR (uZ z 38 y) f) := rfl
set_option maxRecDepth 100000 in
theorem bc5_279_5 (call : QC FA) (ls : List (Option PV)) (L : QH FA) (F : Nat) : rnG call 279 (F + 1) 23 ls [] L = some (none, L) := rfl
set_option maxRecDepth 100000 in
theorem bc5_279_6 (call : QC FA) (o1 : Option PV) (x2 : Int32) (x3 : Int32) (z : Nat → Int32) (f : Nat → FA) (F : Nat) : rnG call 279 (F + 8) 8 [some (vR 0), o1, some (vI x2), some (vI x3)] [] (LR z f) = rnG call 279 F 16 [some (vR 0), o1, some (vI x2), some (vI x3)] [vI (20 + x3), vR 20, vI x3, vR 20] (LR z f) := rfl
set_option maxRecDepth 100000 in
theorem bc5_279_7 (call : QC FA) (x : Int32) (s0 : Int32) (ls : List (Option PV)) (z : Nat → Int32) (f : Nat → FA) (F : Nat) : rnG call 279 (F + 1) 16 ls [vI x, vR 20, vI s0, vR 20] (LR z f) = bif (Nat.beq 0 0 && pin x 40) then rnG call 279 F 17 ls [vI (f 20 (ix x)), vI s0, vR 20] (LR z f) else none := rfl
set_option maxRecDepth 100000 in
theorem bc5_279_8 (call : QC FA) (x y : Int32) (ls : List (Option PV)) (z : Nat → Int32) (f : Nat → FA) (F : Nat) : rnG call 279 (F + 1) 17 ls [vI y, vI x, vR 20] (LR z f) = bif (Nat.beq 0 0 && pin x 40) then rnG call 279 F 18 ls [] (LR z (uA f 20 (upd (f 20) (ix x) y))) else none := rfl
set_option maxRecDepth 100000 in
theorem bc5_279_9 (call : QC FA) (o1 : Option PV) (x2 : Int32) (x3 : Int32) (L : QH FA) (F : Nat) : rnG call 279 (F + 1) 18 [some (vR 0), o1, some (vI x2), some (vI x3)] [] L = rnG call 279 F 19 [some (vR 0), o1, some (vI x2), some (vI (x3 + 1))] [] L := rfl
set_option maxRecDepth 100000 in
theorem bc5_279_10 (call : QC FA) (o1 : Option PV) (x2 : Int32) (x3 : Int32) (L : QH FA) (F : Nat) : rnG call 279 (F + 1) 19 [some (vR 0), o1, some (vI x2), some (vI x3)] [] L = rnG call 279 F 5 [some (vR 0), o1, some (vI x2), some (vI x3)] [] L := rfl
theorem vcc5_279_5 (call : QC FA) (o1 : Option PV) (x2 : Int32) (x3 : Int32) (z : Nat → Int32) (f : Nat → FA) (res : Option PV × QH FA) (H : ((20 ≤ I x3 → res = (none, LR (uZ z 38 x2) f)) ∧ (I x3 < 20 → (pin (20 + x3) 40 = true ∧ (pin x3 40 = true ∧ RC call (mP 279) 5 [some (vR 0), o1, some (vI x2), some (vI (x3 + 1))] [] (LR z (uA f 20 (upd (f 20) (ix x3) (f 20 (ix (20 + x3)))))) res))))) : RC call (mP 279) 5 [some (vR 0), o1, some (vI x2), some (vI x3)] [] (LR z f) res := by
  refine rc_b (i' := 7) (ls' := [some (vR 0), o1, some (vI x2), some (vI x3)]) (st' := [vI 20, vI x3]) (L' := LR z f) 2 (bc5_279_1 call o1 x2 x3 _) ?_
  refine rc_if (it := 20) (ie := 8) (ls' := [some (vR 0), o1, some (vI x2), some (vI x3)]) (st' := []) (bc5_279_2 call x3 20 _ _) (fun q1 => ?_) (fun q1 => ?_)
  · have H := H.1 (cI3t q1 rfl rfl)
    refine rc_b (i' := 22) (ls' := [some (vR 0), o1, some (vI x2), some (vI x3)]) (st' := [vI x2, vR 0]) (L' := LR z f) 2 (bc5_279_3 call o1 x2 x3 _) ?_
    refine rc_b (i' := 23) (ls' := [some (vR 0), o1, some (vI x2), some (vI x3)]) (st' := []) (L' := LR (uZ z 38 x2) f) 1 (bc5_279_4 call x2 _ z f) ?_
    subst H
    exact rc_ret (bc5_279_5 call _ _)
  · have H := H.2 (cI3f q1 rfl rfl)
    refine rc_b (i' := 16) (ls' := [some (vR 0), o1, some (vI x2), some (vI x3)]) (st' := [vI (20 + x3), vR 20, vI x3, vR 20]) (L' := LR z f) 8 (bc5_279_6 call o1 x2 x3 z f) ?_
    obtain ⟨g1, H⟩ := H
    refine rc_g (i' := 17) (ls' := [some (vR 0), o1, some (vI x2), some (vI x3)]) (st' := [vI (f 20 (ix (20 + x3))), vI x3, vR 20]) (L' := LR z f) (bc5_279_7 call (20 + x3) x3 _ z f) (pinG g1) ?_
    obtain ⟨g1, H⟩ := H
    refine rc_g (i' := 18) (ls' := [some (vR 0), o1, some (vI x2), some (vI x3)]) (st' := []) (L' := LR z (uA f 20 (upd (f 20) (ix x3) (f 20 (ix (20 + x3)))))) (bc5_279_8 call x3 (f 20 (ix (20 + x3))) _ z f) (pinG g1) ?_
    refine rc_b (i' := 19) (ls' := [some (vR 0), o1, some (vI x2), some (vI (x3 + 1))]) (st' := []) (L' := LR z (uA f 20 (upd (f 20) (ix x3) (f 20 (ix (20 + x3)))))) 1 (bc5_279_9 call o1 x2 x3 _) ?_
    refine rc_b (i' := 5) (ls' := [some (vR 0), o1, some (vI x2), some (vI (x3 + 1))]) (st' := []) (L' := LR z (uA f 20 (upd (f 20) (ix x3) (f 20 (ix (20 + x3)))))) 1 (bc5_279_10 call o1 x2 (x3 + 1) _) ?_
    exact H
set_option maxRecDepth 100000 in
theorem bc29_279_1 (call : QC FA) (o1 : Option PV) (x2 : Int32) (x3 : Int32) (L : QH FA) (F : Nat) : rnG call 279 (F + 4) 29 [some (vR 0), o1, some (vI x2), some (vI x3)] [] L = rnG call 279 F 33 [some (vR 0), o1, some (vI x2), some (vI x3)] [vI (3 * x2), vI x3] L := rfl
set_option maxRecDepth 100000 in
theorem bc29_279_2 (call : QC FA) (x y : Int32) (ls : List (Option PV)) (L : QH FA) (F : Nat) : rnG call 279 (F + 1) 33 ls [vI y, vI x] L = bif pcmp 3 x y then rnG call 279 F 46 ls [] L else rnG call 279 F 34 ls [] L := rfl
set_option maxRecDepth 100000 in
theorem bc29_279_3 (call : QC FA) (o1 : Option PV) (x2 : Int32) (x3 : Int32) (L : QH FA) (F : Nat) : rnG call 279 (F + 2) 46 [some (vR 0), o1, some (vI x2), some (vI x3)] [] L = rnG call 279 F 48 [some (vR 0), o1, some (vI x2), some (vI x3)] [vI x2, vR 0] L := rfl
set_option maxRecDepth 100000 in
theorem bc29_279_4 (call : QC FA) (y : Int32) (ls : List (Option PV)) (z : Nat → Int32) (f : Nat → FA) (F : Nat) : rnG call 279 (F + 1) 48 ls [vI y, vR 0] (LR z f) = rnG call 279 F 49 ls [] (LR (uZ z 34 y) f) := rfl
set_option maxRecDepth 100000 in
theorem bc29_279_5 (call : QC FA) (o1 : Option PV) (x2 : Int32) (x3 : Int32) (L : QH FA) (F : Nat) : rnG call 279 (F + 1) 49 [some (vR 0), o1, some (vI x2), some (vI x3)] [] L = rnG call 279 F 72 [some (vR 0), o1, some (vI x2), some (vI x3)] [] L := rfl
set_option maxRecDepth 100000 in
theorem bc29_279_6 (call : QC FA) (o1 : Option PV) (x2 : Int32) (x3 : Int32) (z : Nat → Int32) (f : Nat → FA) (F : Nat) : rnG call 279 (F + 8) 34 [some (vR 0), o1, some (vI x2), some (vI x3)] [] (LR z f) = rnG call 279 F 42 [some (vR 0), o1, some (vI x2), some (vI x3)] [vI (48 + x3), vR 18, vI x3, vR 18] (LR z f) := rfl
set_option maxRecDepth 100000 in
theorem bc29_279_7 (call : QC FA) (x : Int32) (s0 : Int32) (ls : List (Option PV)) (z : Nat → Int32) (f : Nat → FA) (F : Nat) : rnG call 279 (F + 1) 42 ls [vI x, vR 18, vI s0, vR 18] (LR z f) = bif (Nat.beq 0 0 && pin x 96) then rnG call 279 F 43 ls [vI (f 18 (ix x)), vI s0, vR 18] (LR z f) else none := rfl
set_option maxRecDepth 100000 in
theorem bc29_279_8 (call : QC FA) (x y : Int32) (ls : List (Option PV)) (z : Nat → Int32) (f : Nat → FA) (F : Nat) : rnG call 279 (F + 1) 43 ls [vI y, vI x, vR 18] (LR z f) = bif (Nat.beq 0 0 && pin x 96) then rnG call 279 F 44 ls [] (LR z (uA f 18 (upd (f 18) (ix x) y))) else none := rfl
set_option maxRecDepth 100000 in
theorem bc29_279_9 (call : QC FA) (o1 : Option PV) (x2 : Int32) (x3 : Int32) (L : QH FA) (F : Nat) : rnG call 279 (F + 1) 44 [some (vR 0), o1, some (vI x2), some (vI x3)] [] L = rnG call 279 F 45 [some (vR 0), o1, some (vI x2), some (vI (x3 + 1))] [] L := rfl
set_option maxRecDepth 100000 in
theorem bc29_279_10 (call : QC FA) (o1 : Option PV) (x2 : Int32) (x3 : Int32) (L : QH FA) (F : Nat) : rnG call 279 (F + 1) 45 [some (vR 0), o1, some (vI x2), some (vI x3)] [] L = rnG call 279 F 29 [some (vR 0), o1, some (vI x2), some (vI x3)] [] L := rfl
theorem vcc29_279_29 (call : QC FA) (o1 : Option PV) (x2 : Int32) (x3 : Int32) (z : Nat → Int32) (f : Nat → FA) (res : Option PV × QH FA) (H : ((I (3 * x2) ≤ I x3 → RC call (mP 279) 72 [some (vR 0), o1, some (vI x2), some (vI x3)] [] (LR (uZ z 34 x2) f) res) ∧ (I x3 < I (3 * x2) → (pin (48 + x3) 96 = true ∧ (pin x3 96 = true ∧ RC call (mP 279) 29 [some (vR 0), o1, some (vI x2), some (vI (x3 + 1))] [] (LR z (uA f 18 (upd (f 18) (ix x3) (f 18 (ix (48 + x3)))))) res))))) : RC call (mP 279) 29 [some (vR 0), o1, some (vI x2), some (vI x3)] [] (LR z f) res := by
  refine rc_b (i' := 33) (ls' := [some (vR 0), o1, some (vI x2), some (vI x3)]) (st' := [vI (3 * x2), vI x3]) (L' := LR z f) 4 (bc29_279_1 call o1 x2 x3 _) ?_
  refine rc_if (it := 46) (ie := 34) (ls' := [some (vR 0), o1, some (vI x2), some (vI x3)]) (st' := []) (bc29_279_2 call x3 (3 * x2) _ _) (fun q1 => ?_) (fun q1 => ?_)
  · have H := H.1 (cI3t q1 rfl rfl)
    refine rc_b (i' := 48) (ls' := [some (vR 0), o1, some (vI x2), some (vI x3)]) (st' := [vI x2, vR 0]) (L' := LR z f) 2 (bc29_279_3 call o1 x2 x3 _) ?_
    refine rc_b (i' := 49) (ls' := [some (vR 0), o1, some (vI x2), some (vI x3)]) (st' := []) (L' := LR (uZ z 34 x2) f) 1 (bc29_279_4 call x2 _ z f) ?_
    refine rc_b (i' := 72) (ls' := [some (vR 0), o1, some (vI x2), some (vI x3)]) (st' := []) (L' := LR (uZ z 34 x2) f) 1 (bc29_279_5 call o1 x2 x3 _) ?_
    exact H
  · have H := H.2 (cI3f q1 rfl rfl)
    refine rc_b (i' := 42) (ls' := [some (vR 0), o1, some (vI x2), some (vI x3)]) (st' := [vI (48 + x3), vR 18, vI x3, vR 18]) (L' := LR z f) 8 (bc29_279_6 call o1 x2 x3 z f) ?_
    obtain ⟨g1, H⟩ := H
    refine rc_g (i' := 43) (ls' := [some (vR 0), o1, some (vI x2), some (vI x3)]) (st' := [vI (f 18 (ix (48 + x3))), vI x3, vR 18]) (L' := LR z f) (bc29_279_7 call (48 + x3) x3 _ z f) (pinG g1) ?_
    obtain ⟨g1, H⟩ := H
    refine rc_g (i' := 44) (ls' := [some (vR 0), o1, some (vI x2), some (vI x3)]) (st' := []) (L' := LR z (uA f 18 (upd (f 18) (ix x3) (f 18 (ix (48 + x3)))))) (bc29_279_8 call x3 (f 18 (ix (48 + x3))) _ z f) (pinG g1) ?_
    refine rc_b (i' := 45) (ls' := [some (vR 0), o1, some (vI x2), some (vI (x3 + 1))]) (st' := []) (L' := LR z (uA f 18 (upd (f 18) (ix x3) (f 18 (ix (48 + x3)))))) 1 (bc29_279_9 call o1 x2 x3 _) ?_
    refine rc_b (i' := 29) (ls' := [some (vR 0), o1, some (vI x2), some (vI (x3 + 1))]) (st' := []) (L' := LR z (uA f 18 (upd (f 18) (ix x3) (f 18 (ix (48 + x3)))))) 1 (bc29_279_10 call o1 x2 (x3 + 1) _) ?_
    exact H
set_option maxRecDepth 100000 in
theorem bc52_279_1 (call : QC FA) (o1 : Option PV) (x2 : Int32) (x3 : Int32) (L : QH FA) (F : Nat) : rnG call 279 (F + 4) 52 [some (vR 0), o1, some (vI x2), some (vI x3)] [] L = rnG call 279 F 56 [some (vR 0), o1, some (vI x2), some (vI x3)] [vI (5 * x2), vI x3] L := rfl
set_option maxRecDepth 100000 in
theorem bc52_279_2 (call : QC FA) (x y : Int32) (ls : List (Option PV)) (L : QH FA) (F : Nat) : rnG call 279 (F + 1) 56 ls [vI y, vI x] L = bif pcmp 3 x y then rnG call 279 F 69 ls [] L else rnG call 279 F 57 ls [] L := rfl
set_option maxRecDepth 100000 in
theorem bc52_279_3 (call : QC FA) (o1 : Option PV) (x2 : Int32) (x3 : Int32) (L : QH FA) (F : Nat) : rnG call 279 (F + 2) 69 [some (vR 0), o1, some (vI x2), some (vI x3)] [] L = rnG call 279 F 71 [some (vR 0), o1, some (vI x2), some (vI x3)] [vI x2, vR 0] L := rfl
set_option maxRecDepth 100000 in
theorem bc52_279_4 (call : QC FA) (y : Int32) (ls : List (Option PV)) (z : Nat → Int32) (f : Nat → FA) (F : Nat) : rnG call 279 (F + 1) 71 ls [vI y, vR 0] (LR z f) = rnG call 279 F 72 ls [] (LR (uZ z 36 y) f) := rfl
set_option maxRecDepth 100000 in
theorem bc52_279_5 (call : QC FA) (o1 : Option PV) (x2 : Int32) (x3 : Int32) (z : Nat → Int32) (f : Nat → FA) (F : Nat) : rnG call 279 (F + 8) 57 [some (vR 0), o1, some (vI x2), some (vI x3)] [] (LR z f) = rnG call 279 F 65 [some (vR 0), o1, some (vI x2), some (vI x3)] [vI (80 + x3), vR 19, vI x3, vR 19] (LR z f) := rfl
set_option maxRecDepth 100000 in
theorem bc52_279_6 (call : QC FA) (x : Int32) (s0 : Int32) (ls : List (Option PV)) (z : Nat → Int32) (f : Nat → FA) (F : Nat) : rnG call 279 (F + 1) 65 ls [vI x, vR 19, vI s0, vR 19] (LR z f) = bif (Nat.beq 0 0 && pin x 160) then rnG call 279 F 66 ls [vI (f 19 (ix x)), vI s0, vR 19] (LR z f) else none := rfl
set_option maxRecDepth 100000 in
theorem bc52_279_7 (call : QC FA) (x y : Int32) (ls : List (Option PV)) (z : Nat → Int32) (f : Nat → FA) (F : Nat) : rnG call 279 (F + 1) 66 ls [vI y, vI x, vR 19] (LR z f) = bif (Nat.beq 0 0 && pin x 160) then rnG call 279 F 67 ls [] (LR z (uA f 19 (upd (f 19) (ix x) y))) else none := rfl
set_option maxRecDepth 100000 in
theorem bc52_279_8 (call : QC FA) (o1 : Option PV) (x2 : Int32) (x3 : Int32) (L : QH FA) (F : Nat) : rnG call 279 (F + 1) 67 [some (vR 0), o1, some (vI x2), some (vI x3)] [] L = rnG call 279 F 68 [some (vR 0), o1, some (vI x2), some (vI (x3 + 1))] [] L := rfl
set_option maxRecDepth 100000 in
theorem bc52_279_9 (call : QC FA) (o1 : Option PV) (x2 : Int32) (x3 : Int32) (L : QH FA) (F : Nat) : rnG call 279 (F + 1) 68 [some (vR 0), o1, some (vI x2), some (vI x3)] [] L = rnG call 279 F 52 [some (vR 0), o1, some (vI x2), some (vI x3)] [] L := rfl
theorem vcc52_279_52 (call : QC FA) (o1 : Option PV) (x2 : Int32) (x3 : Int32) (z : Nat → Int32) (f : Nat → FA) (res : Option PV × QH FA) (H : ((I (5 * x2) ≤ I x3 → RC call (mP 279) 72 [some (vR 0), o1, some (vI x2), some (vI x3)] [] (LR (uZ z 36 x2) f) res) ∧ (I x3 < I (5 * x2) → (pin (80 + x3) 160 = true ∧ (pin x3 160 = true ∧ RC call (mP 279) 52 [some (vR 0), o1, some (vI x2), some (vI (x3 + 1))] [] (LR z (uA f 19 (upd (f 19) (ix x3) (f 19 (ix (80 + x3)))))) res))))) : RC call (mP 279) 52 [some (vR 0), o1, some (vI x2), some (vI x3)] [] (LR z f) res := by
  refine rc_b (i' := 56) (ls' := [some (vR 0), o1, some (vI x2), some (vI x3)]) (st' := [vI (5 * x2), vI x3]) (L' := LR z f) 4 (bc52_279_1 call o1 x2 x3 _) ?_
  refine rc_if (it := 69) (ie := 57) (ls' := [some (vR 0), o1, some (vI x2), some (vI x3)]) (st' := []) (bc52_279_2 call x3 (5 * x2) _ _) (fun q1 => ?_) (fun q1 => ?_)
  · have H := H.1 (cI3t q1 rfl rfl)
    refine rc_b (i' := 71) (ls' := [some (vR 0), o1, some (vI x2), some (vI x3)]) (st' := [vI x2, vR 0]) (L' := LR z f) 2 (bc52_279_3 call o1 x2 x3 _) ?_
    refine rc_b (i' := 72) (ls' := [some (vR 0), o1, some (vI x2), some (vI x3)]) (st' := []) (L' := LR (uZ z 36 x2) f) 1 (bc52_279_4 call x2 _ z f) ?_
    exact H
  · have H := H.2 (cI3f q1 rfl rfl)
    refine rc_b (i' := 65) (ls' := [some (vR 0), o1, some (vI x2), some (vI x3)]) (st' := [vI (80 + x3), vR 19, vI x3, vR 19]) (L' := LR z f) 8 (bc52_279_5 call o1 x2 x3 z f) ?_
    obtain ⟨g1, H⟩ := H
    refine rc_g (i' := 66) (ls' := [some (vR 0), o1, some (vI x2), some (vI x3)]) (st' := [vI (f 19 (ix (80 + x3))), vI x3, vR 19]) (L' := LR z f) (bc52_279_6 call (80 + x3) x3 _ z f) (pinG g1) ?_
    obtain ⟨g1, H⟩ := H
    refine rc_g (i' := 67) (ls' := [some (vR 0), o1, some (vI x2), some (vI x3)]) (st' := []) (L' := LR z (uA f 19 (upd (f 19) (ix x3) (f 19 (ix (80 + x3)))))) (bc52_279_7 call x3 (f 19 (ix (80 + x3))) _ z f) (pinG g1) ?_
    refine rc_b (i' := 68) (ls' := [some (vR 0), o1, some (vI x2), some (vI (x3 + 1))]) (st' := []) (L' := LR z (uA f 19 (upd (f 19) (ix x3) (f 19 (ix (80 + x3)))))) 1 (bc52_279_8 call o1 x2 x3 _) ?_
    refine rc_b (i' := 52) (ls' := [some (vR 0), o1, some (vI x2), some (vI (x3 + 1))]) (st' := []) (L' := LR z (uA f 19 (upd (f 19) (ix x3) (f 19 (ix (80 + x3)))))) 1 (bc52_279_9 call o1 x2 (x3 + 1) _) ?_
    exact H
set_option maxRecDepth 100000 in
theorem bc72_279_1 (call : QC FA) (o1 : Option PV) (o2 : Option PV) (o3 : Option PV) (L : QH FA) (F : Nat) : rnG call 279 (F + 2) 72 [some (vR 0), o1, o2, o3] [] L = rnG call 279 F 74 [some (vR 0), o1, o2, o3] [vI 0, vR 0] L := rfl
set_option maxRecDepth 100000 in
theorem bc72_279_2 (call : QC FA) (y : Int32) (ls : List (Option PV)) (z : Nat → Int32) (f : Nat → FA) (F : Nat) : rnG call 279 (F + 1) 74 ls [vI y, vR 0] (LR z f) = rnG call 279 F 75 ls [] (LR (uZ z 3 y) f) := rfl
set_option maxRecDepth 100000 in
theorem bc72_279_3 (call : QC FA) (ls : List (Option PV)) (L : QH FA) (F : Nat) : rnG call 279 (F + 1) 75 ls [] L = some (none, L) := rfl
theorem vcc72_279_72 (call : QC FA) (o1 : Option PV) (o2 : Option PV) (o3 : Option PV) (z : Nat → Int32) (f : Nat → FA) (res : Option PV × QH FA) (H : res = (none, LR (uZ z 3 0) f)) : RC call (mP 279) 72 [some (vR 0), o1, o2, o3] [] (LR z f) res := by
  refine rc_b (i' := 74) (ls' := [some (vR 0), o1, o2, o3]) (st' := [vI 0, vR 0]) (L' := LR z f) 2 (bc72_279_1 call o1 o2 o3 _) ?_
  refine rc_b (i' := 75) (ls' := [some (vR 0), o1, o2, o3]) (st' := []) (L' := LR (uZ z 3 0) f) 1 (bc72_279_2 call 0 _ z f) ?_
  subst H
  exact rc_ret (bc72_279_3 call _ _)
theorem to5 (call : QC FA) (o1 : Option PV) (x2 : Int32) (z : Nat → Int32) (f : Nat → FA) : ∀ t x, x + t = 20 → RC call (mP 279) 5 [some (vR 0), o1, some (vI x2), some (vI (nI x))] [] (LR z (uA f 20 (cpr (f 20) 20 x))) (none, LR (uZ z 38 x2) (uA f 20 (cpr (f 20) 20 20))) := by
  intro t
  induction t with
  | zero =>
    intro x hx
    obtain rfl : x = 20 := by omega
    refine vcc5_279_5 _ _ _ _ _ _ _ ?_
    rw [I_nI (by omega)]
    exact ⟨fun _ => rfl, fun q => by omega⟩
  | succ t ih =>
    intro x hx
    refine vcc5_279_5 _ _ _ _ _ _ _ ?_
    rw [I_nI (by omega), show (20 : Int32) + nI x = nI (20 + x) from nI_add 20 x, ix_nI (j := x) (by omega), ix_nI (j := 20 + x) (by omega), show nI x + 1 = nI (x + 1) from nI_add x 1, uA_self, cpr_s, uA_uA]
    exact ⟨fun q => by omega, fun _ => ⟨pin_nI (by omega) (by omega), pin_nI (by omega) (by omega), ih (x + 1) (by omega)⟩⟩
theorem to29 (call : QC FA) (o1 : Option PV) (n : Nat) (hn : n ≤ 16) (z : Nat → Int32) (f : Nat → FA) : ∀ t x, x + t = 3 * n → RC call (mP 279) 29 [some (vR 0), o1, some (vI (nI n)), some (vI (nI x))] [] (LR z (uA f 18 (cpr (f 18) 48 x))) (none, LR (uZ (uZ z 34 (nI n)) 3 0) (uA f 18 (cpr (f 18) 48 (3 * n)))) := by
  have em : (3 : Int32) * nI n = nI (3 * n) := nmul (a := 3) (b := n) rfl rfl
  intro t
  induction t with
  | zero =>
    intro x hx
    obtain rfl : x = 3 * n := by omega
    refine vcc29_279_29 _ _ _ _ _ _ _ ?_
    rw [em, I_nI (by omega)]
    exact ⟨fun _ => vcc72_279_72 _ _ _ _ _ _ _ rfl, fun q => by omega⟩
  | succ t ih =>
    intro x hx
    refine vcc29_279_29 _ _ _ _ _ _ _ ?_
    rw [em, I_nI (n := 3 * n) (by omega), I_nI (n := x) (by omega), show (48 : Int32) + nI x = nI (48 + x) from nI_add 48 x, ix_nI (j := x) (by omega), ix_nI (j := 48 + x) (by omega), show nI x + 1 = nI (x + 1) from nI_add x 1, uA_self, cpr_s, uA_uA]
    exact ⟨fun q => by omega, fun _ => ⟨pin_nI (by omega) (by omega), pin_nI (by omega) (by omega), ih (x + 1) (by omega)⟩⟩
theorem to52 (call : QC FA) (o1 : Option PV) (n : Nat) (hn : n ≤ 16) (z : Nat → Int32) (f : Nat → FA) : ∀ t x, x + t = 5 * n → RC call (mP 279) 52 [some (vR 0), o1, some (vI (nI n)), some (vI (nI x))] [] (LR z (uA f 19 (cpr (f 19) 80 x))) (none, LR (uZ (uZ z 36 (nI n)) 3 0) (uA f 19 (cpr (f 19) 80 (5 * n)))) := by
  have em : (5 : Int32) * nI n = nI (5 * n) := nmul (a := 5) (b := n) rfl rfl
  intro t
  induction t with
  | zero =>
    intro x hx
    obtain rfl : x = 5 * n := by omega
    refine vcc52_279_52 _ _ _ _ _ _ _ ?_
    rw [em, I_nI (by omega)]
    exact ⟨fun _ => vcc72_279_72 _ _ _ _ _ _ _ rfl, fun q => by omega⟩
  | succ t ih =>
    intro x hx
    refine vcc52_279_52 _ _ _ _ _ _ _ ?_
    rw [em, I_nI (n := 5 * n) (by omega), I_nI (n := x) (by omega), show (80 : Int32) + nI x = nI (80 + x) from nI_add 80 x, ix_nI (j := x) (by omega), ix_nI (j := 80 + x) (by omega), show nI x + 1 = nI (x + 1) from nI_add x 1, uA_self, cpr_s, uA_uA]
    exact ⟨fun q => by omega, fun _ => ⟨pin_nI (by omega) (by omega), pin_nI (by omega) (by omega), ih (x + 1) (by omega)⟩⟩
theorem takes3_r (d0 : Nat) (x2 : Int32) (z : Nat → Int32) (f : Nat → FA) : mcall (d0 + 1) 279 [vR 0, vI 3, vI x2] (LR z f) = some (none, LR (uZ z 38 x2) (uA f 20 (cpr (f 20) 20 20))) := by
  have key := to5 (mcall d0) (some (vI 3)) x2 z f 20 0 (by omega)
  rw [cpr_0, uA_id rfl] at key
  exact mcall_i (mq279 (cu := [])).2.2 rfl (vc279_0 _ _ _ _ _ _ _ ⟨fun q => absurd rfl q, fun _ => key⟩)
theorem takes1_r (d0 n : Nat) (hn : n ≤ 16) (z : Nat → Int32) (f : Nat → FA) : mcall (d0 + 1) 279 [vR 0, vI 1, vI (nI n)] (LR z f) = some (none, LR (uZ (uZ z 34 (nI n)) 3 0) (uA f 18 (cpr (f 18) 48 (3 * n)))) := by
  have key := to29 (mcall d0) (some (vI 1)) n hn z f (3 * n) 0 (by omega)
  rw [cpr_0, uA_id rfl] at key
  exact mcall_i (mq279 (cu := [])).2.2 rfl (vc279_0 _ _ _ _ _ _ _ ⟨fun _ => ⟨fun q => absurd rfl q, fun _ => key⟩, fun q => absurd q (by decide)⟩)
theorem takes2_r (d0 n : Nat) (hn : n ≤ 16) (z : Nat → Int32) (f : Nat → FA) : mcall (d0 + 1) 279 [vR 0, vI 2, vI (nI n)] (LR z f) = some (none, LR (uZ (uZ z 36 (nI n)) 3 0) (uA f 19 (cpr (f 19) 80 (5 * n)))) := by
  have key := to52 (mcall d0) (some (vI 2)) n hn z f (5 * n) 0 (by omega)
  rw [cpr_0, uA_id rfl] at key
  exact mcall_i (mq279 (cu := [])).2.2 rfl (vc279_0 _ _ _ _ _ _ _ ⟨fun _ => ⟨fun _ => key, fun q => absurd q (by decide)⟩, fun q => absurd q (by decide)⟩)
theorem e18_0 : ∀ n, n < 16 → sgAt (sgOf 18) (3 * n + 0) = (2147483648, 2147483667) := by decide +kernel
theorem e18_1 : ∀ n, n < 16 → sgAt (sgOf 18) (3 * n + 1) = (2147483648, 2147483659) := by decide +kernel
theorem e18_2 : ∀ n, n < 16 → sgAt (sgOf 18) (3 * n + 2) = (2147483648, 2147483659) := by decide +kernel
theorem e19_0 : ∀ n, n < 16 → sgAt (sgOf 19) (5 * n + 0) = (2147483648, 2147484647) := by decide +kernel
theorem e19_1 : ∀ n, n < 16 → sgAt (sgOf 19) (5 * n + 1) = (2147483648, 2147483659) := by decide +kernel
theorem e19_2 : ∀ n, n < 16 → sgAt (sgOf 19) (5 * n + 2) = (2147483648, 2147483650) := by decide +kernel
theorem e19_3 : ∀ n, n < 16 → sgAt (sgOf 19) (5 * n + 3) = (2147483648, 2147483667) := by decide +kernel
theorem e19_4 : ∀ n, n < 16 → sgAt (sgOf 19) (5 * n + 4) = (2147483647, 2147483659) := by decide +kernel
theorem BNDf_row {f : Nat → FA} {r : Nat} {g : FA} (h : BNDf f) (hp : pOf r = 0) (hg : 1 ≤ r → r ≤ 42 → ∀ j, inb (sgAt (sgOf r) j).1 (sgAt (sgOf r) j).2 (g j)) : BNDf (uA f r g) := by
  intro j h1 h2
  by_cases e : j = r
  · subst e
    rw [uA_self, hp]
    exact ⟨SegOK_of (hg h1 h2), PRD_0⟩
  · rw [uA_ne e]
    exact h j h1 h2
theorem B_ways {f : Nat → FA} {n : Nat} (hn : n ≤ 16) (h : BNDf f) (hG : ∀ l, l < n → GW f l) : BNDf (uA f 18 (cpr (f 18) 48 (3 * n))) := by
  refine BNDf_row h rfl (fun _ _ j => ?_)
  by_cases c : j < 3 * n
  · have e0 : cpr (f 18) 48 (3 * n) j = f 18 (48 + j) := if_pos c
    rw [e0]
    obtain ⟨g1, g2, g3⟩ := hG (j / 3) (by omega)
    have hj : j = 3 * (j / 3) + 0 ∨ j = 3 * (j / 3) + 1 ∨ j = 3 * (j / 3) + 2 := by omega
    rcases hj with e | e | e
    · have k1 := e18_0 (j / 3) (by omega)
      rw [← e] at k1
      rw [k1, show 48 + j = 48 + 3 * (j / 3) by omega]
      exact g1
    · have k1 := e18_1 (j / 3) (by omega)
      rw [← e] at k1
      rw [k1, show 48 + j = 48 + 3 * (j / 3) + 1 by omega]
      exact g2
    · have k1 := e18_2 (j / 3) (by omega)
      rw [← e] at k1
      rw [k1, show 48 + j = 48 + 3 * (j / 3) + 2 by omega]
      exact g3
  · have e0 : cpr (f 18) 48 (3 * n) j = f 18 j := if_neg c
    rw [e0]
    exact SegOK_at (h 18 (by decide) (by decide)).1 j
theorem B_sky {f : Nat → FA} {n : Nat} (hn : n ≤ 16) (h : BNDf f) (hG : ∀ l, l < n → GLn f l) : BNDf (uA f 19 (cpr (f 19) 80 (5 * n))) := by
  refine BNDf_row h rfl (fun _ _ j => ?_)
  have hS := SegOK_at (h 19 (by decide) (by decide)).1
  by_cases c : j < 5 * n
  · have e0 : cpr (f 19) 80 (5 * n) j = f 19 (80 + j) := if_pos c
    rw [e0]
    obtain ⟨g1, ⟨g2, g3⟩, -⟩ := hG (j / 5) (by omega)
    have hj : j = 5 * (j / 5) + 0 ∨ j = 5 * (j / 5) + 1 ∨ j = 5 * (j / 5) + 2 ∨ j = 5 * (j / 5) + 3 ∨ j = 5 * (j / 5) + 4 := by omega
    rcases hj with e | e | e | e | e
    · have k1 := e19_0 (j / 5) (by omega)
      rw [← e] at k1
      rw [k1, show 80 + j = 80 + 5 * (j / 5) by omega]
      exact g1
    · have k1 := e19_1 (j / 5) (by omega)
      rw [← e] at k1
      rw [k1, show 80 + j = 80 + 5 * (j / 5) + 1 by omega]
      exact g2
    · have k1 := e19_2 (j / 5) (by omega)
      rw [← e] at k1
      have k2 := hS (80 + 5 * (j / 5) + 2)
      rw [d19_2 (j / 5) (by omega)] at k2
      rw [k1, show 80 + j = 80 + 5 * (j / 5) + 2 by omega]
      exact k2
    · have k1 := e19_3 (j / 5) (by omega)
      rw [← e] at k1
      rw [k1, show 80 + j = 80 + 5 * (j / 5) + 3 by omega]
      exact g3
    · have k1 := e19_4 (j / 5) (by omega)
      rw [← e] at k1
      have k2 := hS (80 + 5 * (j / 5) + 4)
      rw [d19_4 (j / 5) (by omega)] at k2
      rw [k1, show 80 + j = 80 + 5 * (j / 5) + 4 by omega]
      exact k2
  · have e0 : cpr (f 19) 80 (5 * n) j = f 19 j := if_neg c
    rw [e0]
    exact hS j
theorem D_sky {f : Nat → FA} {n : Nat} (hn : n ≤ 16) (h : DD (f 19)) (hG : ∀ l, l < n → GLn f l) : DD (cpr (f 19) 80 (5 * n)) := by
  intro j hj e
  by_cases c : j < n
  · have e2 : cpr (f 19) 80 (5 * n) (5 * j + 2) = f 19 (80 + (5 * j + 2)) := if_pos (by omega)
    have e3 : cpr (f 19) 80 (5 * n) (5 * j + 3) = f 19 (80 + (5 * j + 3)) := if_pos (by omega)
    have e4 : cpr (f 19) 80 (5 * n) (5 * j + 4) = f 19 (80 + (5 * j + 4)) := if_pos (by omega)
    rw [e2, show 80 + (5 * j + 2) = 80 + 5 * j + 2 by omega] at e
    rw [e3, e4, show 80 + (5 * j + 3) = 80 + 5 * j + 3 by omega, show 80 + (5 * j + 4) = 80 + 5 * j + 4 by omega]
    exact (hG j c).2.2 e
  · have e2 : cpr (f 19) 80 (5 * n) (5 * j + 2) = f 19 (5 * j + 2) := if_neg (by omega)
    have e3 : cpr (f 19) 80 (5 * n) (5 * j + 3) = f 19 (5 * j + 3) := if_neg (by omega)
    have e4 : cpr (f 19) 80 (5 * n) (5 * j + 4) = f 19 (5 * j + 4) := if_neg (by omega)
    rw [e2] at e
    rw [e3, e4]
    exact h j hj e
theorem BL_of {f : Nat → FA} (h : BNDf f) : BL f := by
  intro k h1 h2 j hj
  have hk : k = 12 ∨ k = 13 ∨ k = 14 := by omega
  rcases hk with rfl | rfl | rfl
  · exact (h 12 (by decide) (by decide)).1.1 j hj
  · exact (h 13 (by decide) (by decide)).1.1 j hj
  · exact (h 14 (by decide) (by decide)).1.1 j hj
theorem BNDf_law {f f' : Nat → FA} (h : BNDf f) (ho : ∀ k, (k < 10 ∨ 17 < k) → f' k = f k) (h10 : ∀ j, j < 2 → inb 2147483648 2147483664 (f' 10 j)) (hb : BL f') : BNDf f' := by
  intro k h1 h2
  by_cases c : k < 10 ∨ 17 < k
  · rw [ho k c]; exact h k h1 h2
  · have hk : k = 10 ∨ k = 11 ∨ k = 12 ∨ k = 13 ∨ k = 14 ∨ k = 15 ∨ k = 16 ∨ k = 17 := by omega
    rcases hk with rfl | rfl | rfl | rfl | rfl | rfl | rfl | rfl
    · exact ⟨⟨h10, trivial⟩, PRD_0⟩
    · exact ⟨⟨fun j _ => inb_top _, trivial⟩, PRD_0⟩
    · exact ⟨⟨fun j hj => hb 12 (by decide) (by decide) j hj, trivial⟩, PRD_0⟩
    · exact ⟨⟨fun j hj => hb 13 (by decide) (by decide) j hj, trivial⟩, PRD_0⟩
    · exact ⟨⟨fun j hj => hb 14 (by decide) (by decide) j hj, trivial⟩, PRD_0⟩
    · exact ⟨⟨fun j _ => inb_top _, trivial⟩, PRD_0⟩
    · exact ⟨⟨fun j _ => inb_top _, trivial⟩, PRD_0⟩
    · exact ⟨⟨fun j _ => inb_top _, trivial⟩, PRD_0⟩
theorem EXF_law {z z' : Nat → Int32} {f f' : Nat → FA} (h : EXF f) (hl : FRl z f z' f') : EXF f' := by
  obtain ⟨h1, h2, h3, h4⟩ := h
  refine ⟨by rw [hl.2.1 9 (by omega)]; exact h1, h2.tr (by rw [hl.2.1 10 (by omega)]) (fun l hlt => ⟨hl.2.2.1 12 (by omega) (by omega) l (by omega), hl.2.2.1 13 (by omega) (by omega) l (by omega), hl.2.2.1 14 (by omega) (by omega) l (by omega)⟩) (fun j hj => hl.2.2.2.1 j (by omega)), by rw [hl.2.1 19 (by omega)]; exact h3, by rw [hl.2.1 42 (by omega)]; exact h4⟩
theorem BNDf_FRl {z z' : Nat → Int32} {f f' : Nat → FA} (h : BNDf f) (hl : FRl z f z' f') : BNDf f' := BNDf_law h (fun k hk => hl.2.1 k (by omega)) (fun j hj => by rw [hl.2.1 10 (by omega)]; exact (h 10 (by decide) (by decide)).1.1 j hj) (hl.2.2.2.2 (BL_of h))
theorem B_takes {f : Nat → FA} {k c : Nat} (h : BNDf f) (hk : k ≤ 16) (hc : c ≤ 400) : BNDf (uA (F2 c (F1 k f)) 10 (upd (f 10) 0 (nI k))) := by
  have hb := BL_of h
  refine BNDf_law h (fun r hr => ?_) (fun j hj => ?_) (fun r h1 h2 j hj => ?_)
  · rw [uA_ne (by omega), F2_o (by omega), F1_o (by omega)]
  · rw [uA_self]
    by_cases e : j = 0
    · subst e
      rw [pk_us]
      exact inb_nI (lo := 0) (hi := 16) (by omega) hk (by omega)
    · rw [pk_un e]
      exact (h 10 (by decide) (by decide)).1.1 j hj
  · rw [uA_ne (by omega), F2_o (by omega), F1_i (by omega)]
    by_cases q : j < k
    · rw [show cpr (f r) 32 k j = f r (32 + j) from if_pos q]
      exact hb r h1 h2 _ (by omega)
    · rw [show cpr (f r) 32 k j = f r j from if_neg q]
      exact hb r h1 h2 _ hj
theorem E_takes {f : Nat → FA} {k c : Nat} (h : EXF f) (hk : k ≤ 16) (hc : c ≤ 400) (hW : LWd k c f) : EXF (uA (F2 c (F1 k f)) 10 (upd (f 10) 0 (nI k))) := by
  obtain ⟨h1, h2, h3, h4⟩ := h
  refine ⟨?_, ⟨k, by rw [uA_self, pk_us], hk, takes_LWm hW hc⟩, ?_, ?_⟩
  · rw [uA_ne (by omega), F2_o (by omega), F1_o (by omega)]; exact h1
  · rw [uA_ne (by omega), F2_o (by omega), F1_o (by omega)]; exact h3
  · rw [uA_ne (by omega), F2_o (by omega), F1_o (by omega)]; exact h4
theorem BNDz.set {z : Nat → Int32} {j : Nat} {x : Int32} (h : BNDz z) (hx : ∀ lo hi, (j, lo, hi) ∈ FBl → inb lo hi x) : BNDz (uZ z j x) := by
  intro e he
  by_cases c : e.1 = j
  · subst c
    rw [uZ_s]
    exact hx e.2.1 e.2.2 he
  · rw [uZ_n c]
    exact h e he
theorem b_no {j : Nat} {x : Int32} (h : ∀ e, e ∈ FBl → e.1 ≠ j) : ∀ lo hi, (j, lo, hi) ∈ FBl → inb lo hi x := fun lo hi he => absurd rfl (h _ he)
theorem b_in {j a b : Nat} {x : Int32} (h : ∀ e, e ∈ FBl → e.1 = j → e = (j, a, b)) (hx : inb a b x) : ∀ lo hi, (j, lo, hi) ∈ FBl → inb lo hi x := fun lo hi he => by
  have e := h _ he rfl
  injection e with _ e
  injection e with e1 e2
  rw [e1, e2]
  exact hx
theorem BNDz.law {z z' : Nat → Int32} {f f' : Nat → FA} (h : BNDz z) (hl : FRl z f z' f') (hs : ST1 z') : BNDz z' := by
  obtain ⟨⟨s, a, c, h1, h2, h3, h4, h5, h6⟩, u, n, h7, h8, h9, h10⟩ := hs
  have key : ∀ e, e ∈ FBl → (e = (13, 2147483648, 2147484048) ∨ e = (14, 2147483648, 2147484048) ∨ e = (26, 2147483648, 2147484048) ∨ e = (27, 2147483648, 2147483656) ∨ e = (29, 2147483648, 2147483688)) ∨ (e.1 ≠ 13 ∧ e.1 ≠ 14 ∧ e.1 ≠ 15 ∧ e.1 ≠ 16 ∧ e.1 ≠ 26 ∧ e.1 ≠ 27 ∧ e.1 ≠ 29 ∧ e.1 ≠ 30 ∧ e.1 ≠ 31) := by decide
  intro e he
  rcases key e he with (rfl | rfl | rfl | rfl | rfl) | ⟨k1, k2, k3, k4, k5, k6, k7, k8, k9⟩
  · rw [h1]; exact inb_nI (lo := 0) (hi := 400) (by omega) (by omega) (by omega)
  · rw [h2]; exact inb_nI (lo := 0) (hi := 400) (by omega) (by omega) (by omega)
  · rw [h3]; exact inb_nI (lo := 0) (hi := 400) (by omega) (by omega) (by omega)
  · rw [h7]; exact inb_nI (lo := 0) (hi := 8) (by omega) (by omega) (by omega)
  · rw [h8]; exact inb_nI (lo := 0) (hi := 40) (by omega) (by omega) (by omega)
  · rw [hl.1 e.1 k1 k2 k3 k4 k5 k6 k7 k8 k9]
    exact h e he
set_option maxRecDepth 100000 in
theorem b270_1 (call : QC FA) (x1 : Int32) (L : QH FA) (F : Nat) : rnG call 270 (F + 2) 0 [some (vR 0), some (vI x1)] [] L = rnG call 270 F 2 [some (vR 0), some (vI x1)] [vI 0, vR 0] L := rfl
set_option maxRecDepth 100000 in
theorem b270_2 (call : QC FA) (y : Int32) (ls : List (Option PV)) (z : Nat → Int32) (f : Nat → FA) (F : Nat) : rnG call 270 (F + 1) 2 ls [vI y, vR 0] (LR z f) = rnG call 270 F 3 ls [] (LR (uZ z 25 y) f) := rfl
set_option maxRecDepth 100000 in
theorem b270_3 (call : QC FA) (x1 : Int32) (L : QH FA) (F : Nat) : rnG call 270 (F + 1) 3 [some (vR 0), some (vI x1)] [] L = rnG call 270 F 4 [some (vR 0), some (vI x1)] [vR 0] L := rfl
set_option maxRecDepth 100000 in
theorem b270_4 (call : QC FA) (ls : List (Option PV)) (z : Nat → Int32) (f : Nat → FA) (F : Nat) : rnG call 270 (F + 1) 4 ls [vR 0] (LR z f) = cbd (call 269 [vR 0] (LR z f)) (fun r L' => rnG call 270 F 5 ls (r.toList ++ []) L') := pcY (ih := rnG call 270 F) (call := call) (a := 269) (b := 0) (v := 12) (t := 5) (x := 0) (ls := ls) (As := []) (st' := []) (L := LR z f) rfl rfl rfl
set_option maxRecDepth 100000 in
theorem b270_5 (call : QC FA) (x1 : Int32) (L : QH FA) (F : Nat) : rnG call 270 (F + 2) 5 [some (vR 0), some (vI x1)] [] L = rnG call 270 F 7 [some (vR 0), some (vI x1)] [vI 1, vI x1] L := rfl
set_option maxRecDepth 100000 in
theorem b270_6 (call : QC FA) (x y : Int32) (ls : List (Option PV)) (L : QH FA) (F : Nat) : rnG call 270 (F + 1) 7 ls [vI y, vI x] L = bif pcmp 1 x y then rnG call 270 F 11 ls [] L else rnG call 270 F 8 ls [] L := rfl
set_option maxRecDepth 100000 in
theorem b270_7 (call : QC FA) (x1 : Int32) (L : QH FA) (F : Nat) : rnG call 270 (F + 2) 11 [some (vR 0), some (vI x1)] [] L = rnG call 270 F 13 [some (vR 0), some (vI x1)] [vI 2, vI x1] L := rfl
set_option maxRecDepth 100000 in
theorem b270_8 (call : QC FA) (x y : Int32) (ls : List (Option PV)) (L : QH FA) (F : Nat) : rnG call 270 (F + 1) 13 ls [vI y, vI x] L = bif pcmp 1 x y then rnG call 270 F 17 ls [] L else rnG call 270 F 14 ls [] L := rfl
set_option maxRecDepth 100000 in
theorem b270_9 (call : QC FA) (x1 : Int32) (L : QH FA) (F : Nat) : rnG call 270 (F + 2) 17 [some (vR 0), some (vI x1)] [] L = rnG call 270 F 19 [some (vR 0), some (vI x1)] [vI 3, vI x1] L := rfl
set_option maxRecDepth 100000 in
theorem b270_10 (call : QC FA) (x y : Int32) (ls : List (Option PV)) (L : QH FA) (F : Nat) : rnG call 270 (F + 1) 19 ls [vI y, vI x] L = bif pcmp 1 x y then rnG call 270 F 23 ls [] L else rnG call 270 F 20 ls [] L := rfl
set_option maxRecDepth 100000 in
theorem b270_11 (call : QC FA) (x1 : Int32) (L : QH FA) (F : Nat) : rnG call 270 (F + 1) 23 [some (vR 0), some (vI x1)] [] L = rnG call 270 F 24 [some (vR 0), some (vI x1)] [vR 0] L := rfl
set_option maxRecDepth 100000 in
theorem b270_12 (call : QC FA) (ls : List (Option PV)) (z : Nat → Int32) (f : Nat → FA) (F : Nat) : rnG call 270 (F + 1) 24 ls [vR 0] (LR z f) = cbd (call 255 [vR 0] (LR z f)) (fun r L' => rnG call 270 F 25 ls (r.toList ++ []) L') := pcY (ih := rnG call 270 F) (call := call) (a := 255) (b := 0) (v := 12) (t := 25) (x := 0) (ls := ls) (As := []) (st' := []) (L := LR z f) rfl rfl rfl
set_option maxRecDepth 100000 in
theorem b270_13 (call : QC FA) (x : Int32) (ls : List (Option PV)) (L : QH FA) (F : Nat) : rnG call 270 (F + 1) 25 ls [vI x] L = some (some (vI x), L) := rfl
set_option maxRecDepth 100000 in
theorem b270_14 (call : QC FA) (x1 : Int32) (L : QH FA) (F : Nat) : rnG call 270 (F + 1) 20 [some (vR 0), some (vI x1)] [] L = rnG call 270 F 21 [some (vR 0), some (vI x1)] [vR 0] L := rfl
set_option maxRecDepth 100000 in
theorem b270_15 (call : QC FA) (ls : List (Option PV)) (z : Nat → Int32) (f : Nat → FA) (F : Nat) : rnG call 270 (F + 1) 21 ls [vR 0] (LR z f) = cbd (call 265 [vR 0] (LR z f)) (fun r L' => rnG call 270 F 22 ls (r.toList ++ []) L') := pcY (ih := rnG call 270 F) (call := call) (a := 265) (b := 0) (v := 12) (t := 22) (x := 0) (ls := ls) (As := []) (st' := []) (L := LR z f) rfl rfl rfl
set_option maxRecDepth 100000 in
theorem b270_16 (call : QC FA) (x1 : Int32) (s0 : Int32) (L : QH FA) (F : Nat) : rnG call 270 (F + 1) 22 [some (vR 0), some (vI x1)] [vI s0] L = rnG call 270 F 25 [some (vR 0), some (vI x1)] [vI s0] L := rfl
set_option maxRecDepth 100000 in
theorem b270_17 (call : QC FA) (x1 : Int32) (L : QH FA) (F : Nat) : rnG call 270 (F + 1) 14 [some (vR 0), some (vI x1)] [] L = rnG call 270 F 15 [some (vR 0), some (vI x1)] [vR 0] L := rfl
set_option maxRecDepth 100000 in
theorem b270_18 (call : QC FA) (ls : List (Option PV)) (z : Nat → Int32) (f : Nat → FA) (F : Nat) : rnG call 270 (F + 1) 15 ls [vR 0] (LR z f) = cbd (call 261 [vR 0] (LR z f)) (fun r L' => rnG call 270 F 16 ls (r.toList ++ []) L') := pcY (ih := rnG call 270 F) (call := call) (a := 261) (b := 0) (v := 12) (t := 16) (x := 0) (ls := ls) (As := []) (st' := []) (L := LR z f) rfl rfl rfl
set_option maxRecDepth 100000 in
theorem b270_19 (call : QC FA) (x : Int32) (ls : List (Option PV)) (L : QH FA) (F : Nat) : rnG call 270 (F + 1) 16 ls [vI x] L = some (some (vI x), L) := rfl
set_option maxRecDepth 100000 in
theorem b270_20 (call : QC FA) (x1 : Int32) (L : QH FA) (F : Nat) : rnG call 270 (F + 1) 8 [some (vR 0), some (vI x1)] [] L = rnG call 270 F 9 [some (vR 0), some (vI x1)] [vR 0] L := rfl
set_option maxRecDepth 100000 in
theorem b270_21 (call : QC FA) (ls : List (Option PV)) (z : Nat → Int32) (f : Nat → FA) (F : Nat) : rnG call 270 (F + 1) 9 ls [vR 0] (LR z f) = cbd (call 268 [vR 0] (LR z f)) (fun r L' => rnG call 270 F 10 ls (r.toList ++ []) L') := pcY (ih := rnG call 270 F) (call := call) (a := 268) (b := 0) (v := 12) (t := 10) (x := 0) (ls := ls) (As := []) (st' := []) (L := LR z f) rfl rfl rfl
set_option maxRecDepth 100000 in
theorem b270_22 (call : QC FA) (x : Int32) (ls : List (Option PV)) (L : QH FA) (F : Nat) : rnG call 270 (F + 1) 10 ls [vI x] L = some (some (vI x), L) := rfl
theorem vc270_0 (d : Nat) (x1 : Int32) (z : Nat → Int32) (f : Nat → FA) (res : Option PV × QH FA) (H : (∃ (z1 : Nat → Int32) (f1 : Nat → FA), (mcall (d + 9)) 269 [vR 0] (LR (uZ z 25 0) f) = some (none, LR z1 f1) ∧ ((¬ x1 = 1 → ((¬ x1 = 2 → ((¬ x1 = 3 → (∃ (r2 : Int32) (z2 : Nat → Int32) (f2 : Nat → FA), (mcall (d + 9)) 255 [vR 0] (LR z1 f1) = some (some (vI r2), LR z2 f2) ∧ res = (some (vI r2), LR z2 f2))) ∧ (x1 = 3 → (∃ (r3 : Int32) (z3 : Nat → Int32) (f3 : Nat → FA), (mcall (d + 9)) 265 [vR 0] (LR z1 f1) = some (some (vI r3), LR z3 f3) ∧ res = (some (vI r3), LR z3 f3))))) ∧ (x1 = 2 → (∃ (r4 : Int32) (z4 : Nat → Int32) (f4 : Nat → FA), (mcall (d + 9)) 261 [vR 0] (LR z1 f1) = some (some (vI r4), LR z4 f4) ∧ res = (some (vI r4), LR z4 f4))))) ∧ (x1 = 1 → (∃ (r5 : Int32) (z5 : Nat → Int32) (f5 : Nat → FA), (mcall (d + 9)) 268 [vR 0] (LR z1 f1) = some (some (vI r5), LR z5 f5) ∧ res = (some (vI r5), LR z5 f5)))))) : RC (mcall (d + 9)) (mP 270) 0 [some (vR 0), some (vI x1)] [] (LR z f) res := by
  refine rc_b (i' := 2) (ls' := [some (vR 0), some (vI x1)]) (st' := [vI 0, vR 0]) (L' := LR z f) 2 (b270_1 (mcall (d + 9)) x1 _) ?_
  refine rc_b (i' := 3) (ls' := [some (vR 0), some (vI x1)]) (st' := []) (L' := LR (uZ z 25 0) f) 1 (b270_2 (mcall (d + 9)) 0 _ z f) ?_
  refine rc_b (i' := 4) (ls' := [some (vR 0), some (vI x1)]) (st' := [vR 0]) (L' := LR (uZ z 25 0) f) 1 (b270_3 (mcall (d + 9)) x1 _) ?_
  obtain ⟨z1, f1, hc, H⟩ := H
  refine rc_call (t := 5) (ls' := [some (vR 0), some (vI x1)]) (st' := []) (b270_4 (mcall (d + 9)) _ (uZ z 25 0) f) hc ?_
  show RC (mcall (d + 9)) (mP 270) 5 [some (vR 0), some (vI x1)] [] (LR z1 f1) res
  refine rc_b (i' := 7) (ls' := [some (vR 0), some (vI x1)]) (st' := [vI 1, vI x1]) (L' := LR z1 f1) 2 (b270_5 (mcall (d + 9)) x1 _) ?_
  refine rc_if (it := 11) (ie := 8) (ls' := [some (vR 0), some (vI x1)]) (st' := []) (b270_6 (mcall (d + 9)) x1 1 _ _) (fun q1 => ?_) (fun q1 => ?_)
  · have H := H.1 (cI1t q1)
    refine rc_b (i' := 13) (ls' := [some (vR 0), some (vI x1)]) (st' := [vI 2, vI x1]) (L' := LR z1 f1) 2 (b270_7 (mcall (d + 9)) x1 _) ?_
    refine rc_if (it := 17) (ie := 14) (ls' := [some (vR 0), some (vI x1)]) (st' := []) (b270_8 (mcall (d + 9)) x1 2 _ _) (fun q2 => ?_) (fun q2 => ?_)
    · have H := H.1 (cI1t q2)
      refine rc_b (i' := 19) (ls' := [some (vR 0), some (vI x1)]) (st' := [vI 3, vI x1]) (L' := LR z1 f1) 2 (b270_9 (mcall (d + 9)) x1 _) ?_
      refine rc_if (it := 23) (ie := 20) (ls' := [some (vR 0), some (vI x1)]) (st' := []) (b270_10 (mcall (d + 9)) x1 3 _ _) (fun q3 => ?_) (fun q3 => ?_)
      · have H := H.1 (cI1t q3)
        refine rc_b (i' := 24) (ls' := [some (vR 0), some (vI x1)]) (st' := [vR 0]) (L' := LR z1 f1) 1 (b270_11 (mcall (d + 9)) x1 _) ?_
        obtain ⟨r2, z2, f2, hc, H⟩ := H
        refine rc_call (t := 25) (ls' := [some (vR 0), some (vI x1)]) (st' := []) (b270_12 (mcall (d + 9)) _ z1 f1) hc ?_
        show RC (mcall (d + 9)) (mP 270) 25 [some (vR 0), some (vI x1)] [vI r2] (LR z2 f2) res
        subst H
        exact rc_ret (b270_13 (mcall (d + 9)) _ _ _)
      · have H := H.2 (cI1f q3)
        refine rc_b (i' := 21) (ls' := [some (vR 0), some (vI x1)]) (st' := [vR 0]) (L' := LR z1 f1) 1 (b270_14 (mcall (d + 9)) x1 _) ?_
        obtain ⟨r3, z3, f3, hc, H⟩ := H
        refine rc_call (t := 22) (ls' := [some (vR 0), some (vI x1)]) (st' := []) (b270_15 (mcall (d + 9)) _ z1 f1) hc ?_
        show RC (mcall (d + 9)) (mP 270) 22 [some (vR 0), some (vI x1)] [vI r3] (LR z3 f3) res
        refine rc_b (i' := 25) (ls' := [some (vR 0), some (vI x1)]) (st' := [vI r3]) (L' := LR z3 f3) 1 (b270_16 (mcall (d + 9)) x1 r3 _) ?_
        subst H
        exact rc_ret (b270_13 (mcall (d + 9)) _ _ _)
    · have H := H.2 (cI1f q2)
      refine rc_b (i' := 15) (ls' := [some (vR 0), some (vI x1)]) (st' := [vR 0]) (L' := LR z1 f1) 1 (b270_17 (mcall (d + 9)) x1 _) ?_
      obtain ⟨r4, z4, f4, hc, H⟩ := H
      refine rc_call (t := 16) (ls' := [some (vR 0), some (vI x1)]) (st' := []) (b270_18 (mcall (d + 9)) _ z1 f1) hc ?_
      show RC (mcall (d + 9)) (mP 270) 16 [some (vR 0), some (vI x1)] [vI r4] (LR z4 f4) res
      subst H
      exact rc_ret (b270_19 (mcall (d + 9)) _ _ _)
  · have H := H.2 (cI1f q1)
    refine rc_b (i' := 9) (ls' := [some (vR 0), some (vI x1)]) (st' := [vR 0]) (L' := LR z1 f1) 1 (b270_20 (mcall (d + 9)) x1 _) ?_
    obtain ⟨r5, z5, f5, hc, H⟩ := H
    refine rc_call (t := 10) (ls' := [some (vR 0), some (vI x1)]) (st' := []) (b270_21 (mcall (d + 9)) _ z1 f1) hc ?_
    show RC (mcall (d + 9)) (mP 270) 10 [some (vR 0), some (vI x1)] [vI r5] (LR z5 f5) res
    subst H
    exact rc_ret (b270_22 (mcall (d + 9)) _ _ _)
set_option maxRecDepth 100000 in
theorem b280_1 (call : QC FA) (x1 : Int32) (o2 : Option PV) (L : QH FA) (F : Nat) : rnG call 280 (F + 2) 0 [some (vR 0), some (vI x1), o2] [] L = rnG call 280 F 2 [some (vR 0), some (vI x1), o2] [vI 0, vR 0] L := rfl
set_option maxRecDepth 100000 in
theorem b280_2 (call : QC FA) (y : Int32) (ls : List (Option PV)) (z : Nat → Int32) (f : Nat → FA) (F : Nat) : rnG call 280 (F + 1) 2 ls [vI y, vR 0] (LR z f) = rnG call 280 F 3 ls [] (LR (uZ z 0 y) f) := rfl
set_option maxRecDepth 100000 in
theorem b280_3 (call : QC FA) (x1 : Int32) (o2 : Option PV) (L : QH FA) (F : Nat) : rnG call 280 (F + 2) 3 [some (vR 0), some (vI x1), o2] [] L = rnG call 280 F 5 [some (vR 0), some (vI x1), o2] [vI 0, vR 0] L := rfl
set_option maxRecDepth 100000 in
theorem b280_4 (call : QC FA) (y : Int32) (ls : List (Option PV)) (z : Nat → Int32) (f : Nat → FA) (F : Nat) : rnG call 280 (F + 1) 5 ls [vI y, vR 0] (LR z f) = rnG call 280 F 6 ls [] (LR (uZ z 32 y) f) := rfl
set_option maxRecDepth 100000 in
theorem b280_5 (call : QC FA) (x1 : Int32) (o2 : Option PV) (L : QH FA) (F : Nat) : rnG call 280 (F + 2) 6 [some (vR 0), some (vI x1), o2] [] L = rnG call 280 F 8 [some (vR 0), some (vI x1), o2] [vI ((-1)), vR 0] L := rfl
set_option maxRecDepth 100000 in
theorem b280_6 (call : QC FA) (y : Int32) (ls : List (Option PV)) (z : Nat → Int32) (f : Nat → FA) (F : Nat) : rnG call 280 (F + 1) 8 ls [vI y, vR 0] (LR z f) = rnG call 280 F 9 ls [] (LR (uZ z 33 y) f) := rfl
set_option maxRecDepth 100000 in
theorem b280_7 (call : QC FA) (x1 : Int32) (o2 : Option PV) (L : QH FA) (F : Nat) : rnG call 280 (F + 2) 9 [some (vR 0), some (vI x1), o2] [] L = rnG call 280 F 11 [some (vR 0), some (vI x1), o2] [vI 0, vR 0] L := rfl
set_option maxRecDepth 100000 in
theorem b280_8 (call : QC FA) (y : Int32) (ls : List (Option PV)) (z : Nat → Int32) (f : Nat → FA) (F : Nat) : rnG call 280 (F + 1) 11 ls [vI y, vR 0] (LR z f) = rnG call 280 F 12 ls [] (LR (uZ z 13 y) f) := rfl
set_option maxRecDepth 100000 in
theorem b280_9 (call : QC FA) (x1 : Int32) (o2 : Option PV) (L : QH FA) (F : Nat) : rnG call 280 (F + 2) 12 [some (vR 0), some (vI x1), o2] [] L = rnG call 280 F 14 [some (vR 0), some (vI x1), o2] [vI 0, vR 0] L := rfl
set_option maxRecDepth 100000 in
theorem b280_10 (call : QC FA) (y : Int32) (ls : List (Option PV)) (z : Nat → Int32) (f : Nat → FA) (F : Nat) : rnG call 280 (F + 1) 14 ls [vI y, vR 0] (LR z f) = rnG call 280 F 15 ls [] (LR (uZ z 26 y) f) := rfl
set_option maxRecDepth 100000 in
theorem b280_11 (call : QC FA) (x1 : Int32) (o2 : Option PV) (L : QH FA) (F : Nat) : rnG call 280 (F + 2) 15 [some (vR 0), some (vI x1), o2] [] L = rnG call 280 F 17 [some (vR 0), some (vI x1), o2] [vI 0, vR 0] L := rfl
set_option maxRecDepth 100000 in
theorem b280_12 (call : QC FA) (y : Int32) (ls : List (Option PV)) (z : Nat → Int32) (f : Nat → FA) (F : Nat) : rnG call 280 (F + 1) 17 ls [vI y, vR 0] (LR z f) = rnG call 280 F 18 ls [] (LR (uZ z 27 y) f) := rfl
set_option maxRecDepth 100000 in
theorem b280_13 (call : QC FA) (x1 : Int32) (o2 : Option PV) (L : QH FA) (F : Nat) : rnG call 280 (F + 6) 18 [some (vR 0), some (vI x1), o2] [] L = rnG call 280 F 24 [some (vR 0), some (vI x1), some (vI ((-1)))] [vI 3, vI 0, vI x1, vR 0] L := rfl
set_option maxRecDepth 100000 in
theorem b280_14 (call : QC FA) (a0 : Int32) (a1 : Int32) (a2 : Int32) (ls : List (Option PV)) (z : Nat → Int32) (f : Nat → FA) (F : Nat) : rnG call 280 (F + 1) 24 ls [vI a2, vI a1, vI a0, vR 0] (LR z f) = cbd (call 47 [vR 0, vI a0, vI a1, vI a2] (LR z f)) (fun r L' => rnG call 280 F 25 ls (r.toList ++ []) L') := pcY (ih := rnG call 280 F) (call := call) (a := 47) (b := 3) (v := 12) (t := 25) (x := 0) (ls := ls) (As := [vI a0, vI a1, vI a2]) (st' := []) (L := LR z f) rfl rfl rfl
set_option maxRecDepth 100000 in
theorem b280_15 (call : QC FA) (x : Int32) (ls : List (Option PV)) (L : QH FA) (F : Nat) : rnG call 280 (F + 1) 25 ls [vI x] L = bif pcmp 0 x 0 then rnG call 280 F 41 ls [] L else rnG call 280 F 26 ls [] L := rfl
set_option maxRecDepth 100000 in
theorem b280_16 (call : QC FA) (x1 : Int32) (x2 : Int32) (L : QH FA) (F : Nat) : rnG call 280 (F + 2) 26 [some (vR 0), some (vI x1), some (vI x2)] [] L = rnG call 280 F 28 [some (vR 0), some (vI x1), some (vI x2)] [vI x1, vR 0] L := rfl
set_option maxRecDepth 100000 in
theorem b280_17 (call : QC FA) (a0 : Int32) (ls : List (Option PV)) (z : Nat → Int32) (f : Nat → FA) (F : Nat) : rnG call 280 (F + 1) 28 ls [vI a0, vR 0] (LR z f) = cbd (call 270 [vR 0, vI a0] (LR z f)) (fun r L' => rnG call 280 F 29 ls (r.toList ++ []) L') := pcY (ih := rnG call 280 F) (call := call) (a := 270) (b := 1) (v := 12) (t := 29) (x := 0) (ls := ls) (As := [vI a0]) (st' := []) (L := LR z f) rfl rfl rfl
set_option maxRecDepth 100000 in
theorem b280_18 (call : QC FA) (x1 : Int32) (x2 : Int32) (s0 : Int32) (L : QH FA) (F : Nat) : rnG call 280 (F + 3) 29 [some (vR 0), some (vI x1), some (vI x2)] [vI s0] L = rnG call 280 F 32 [some (vR 0), some (vI x1), some (vI s0)] [vI ((-1)), vI s0] L := rfl
set_option maxRecDepth 100000 in
theorem b280_19 (call : QC FA) (x y : Int32) (ls : List (Option PV)) (L : QH FA) (F : Nat) : rnG call 280 (F + 1) 32 ls [vI y, vI x] L = bif pcmp 1 x y then rnG call 280 F 41 ls [] L else rnG call 280 F 33 ls [] L := rfl
set_option maxRecDepth 100000 in
theorem b280_20 (call : QC FA) (x1 : Int32) (x2 : Int32) (z : Nat → Int32) (f : Nat → FA) (F : Nat) : rnG call 280 (F + 3) 33 [some (vR 0), some (vI x1), some (vI x2)] [] (LR z f) = rnG call 280 F 36 [some (vR 0), some (vI x1), some (vI x2)] [vI (z 30), vR 0] (LR z f) := rfl
set_option maxRecDepth 100000 in
theorem b280_21 (call : QC FA) (y : Int32) (ls : List (Option PV)) (z : Nat → Int32) (f : Nat → FA) (F : Nat) : rnG call 280 (F + 1) 36 ls [vI y, vR 0] (LR z f) = rnG call 280 F 37 ls [] (LR (uZ z 32 y) f) := rfl
set_option maxRecDepth 100000 in
theorem b280_22 (call : QC FA) (x1 : Int32) (x2 : Int32) (z : Nat → Int32) (f : Nat → FA) (F : Nat) : rnG call 280 (F + 3) 37 [some (vR 0), some (vI x1), some (vI x2)] [] (LR z f) = rnG call 280 F 40 [some (vR 0), some (vI x1), some (vI x2)] [vI (z 31), vR 0] (LR z f) := rfl
set_option maxRecDepth 100000 in
theorem b280_23 (call : QC FA) (y : Int32) (ls : List (Option PV)) (z : Nat → Int32) (f : Nat → FA) (F : Nat) : rnG call 280 (F + 1) 40 ls [vI y, vR 0] (LR z f) = rnG call 280 F 41 ls [] (LR (uZ z 33 y) f) := rfl
theorem vc280_0 (d : Nat) (x1 : Int32) (o2 : Option PV) (z : Nat → Int32) (f : Nat → FA) (res : Option PV × QH FA) (H : (((0 ≤ I x1 ∧ I x1 ≤ 3) → (∃ (r1 : Int32) (z1 : Nat → Int32) (f1 : Nat → FA), (mcall (d + 10)) 270 [vR 0, vI x1] (LR (uZ (uZ (uZ (uZ (uZ (uZ z 0 0) 32 0) 33 ((-1))) 13 0) 26 0) 27 0) f) = some (some (vI r1), LR z1 f1) ∧ ((¬ r1 = (-1) → RC (mcall (d + 10)) (mP 280) 41 [some (vR 0), some (vI x1), some (vI r1)] [] (LR z1 f1) res) ∧ (r1 = (-1) → RC (mcall (d + 10)) (mP 280) 41 [some (vR 0), some (vI x1), some (vI r1)] [] (LR (uZ (uZ z1 32 (z1 30)) 33 (z1 31)) f1) res)))) ∧ ((¬ (0 ≤ I x1 ∧ I x1 ≤ 3)) → RC (mcall (d + 10)) (mP 280) 41 [some (vR 0), some (vI x1), some (vI ((-1)))] [] (LR (uZ (uZ (uZ (uZ (uZ (uZ z 0 0) 32 0) 33 ((-1))) 13 0) 26 0) 27 0) f) res))) : RC (mcall (d + 10)) (mP 280) 0 [some (vR 0), some (vI x1), o2] [] (LR z f) res := by
  refine rc_b (i' := 2) (ls' := [some (vR 0), some (vI x1), o2]) (st' := [vI 0, vR 0]) (L' := LR z f) 2 (b280_1 (mcall (d + 10)) x1 o2 _) ?_
  refine rc_b (i' := 3) (ls' := [some (vR 0), some (vI x1), o2]) (st' := []) (L' := LR (uZ z 0 0) f) 1 (b280_2 (mcall (d + 10)) 0 _ z f) ?_
  refine rc_b (i' := 5) (ls' := [some (vR 0), some (vI x1), o2]) (st' := [vI 0, vR 0]) (L' := LR (uZ z 0 0) f) 2 (b280_3 (mcall (d + 10)) x1 o2 _) ?_
  refine rc_b (i' := 6) (ls' := [some (vR 0), some (vI x1), o2]) (st' := []) (L' := LR (uZ (uZ z 0 0) 32 0) f) 1 (b280_4 (mcall (d + 10)) 0 _ (uZ z 0 0) f) ?_
  refine rc_b (i' := 8) (ls' := [some (vR 0), some (vI x1), o2]) (st' := [vI ((-1)), vR 0]) (L' := LR (uZ (uZ z 0 0) 32 0) f) 2 (b280_5 (mcall (d + 10)) x1 o2 _) ?_
  refine rc_b (i' := 9) (ls' := [some (vR 0), some (vI x1), o2]) (st' := []) (L' := LR (uZ (uZ (uZ z 0 0) 32 0) 33 ((-1))) f) 1 (b280_6 (mcall (d + 10)) ((-1)) _ (uZ (uZ z 0 0) 32 0) f) ?_
  refine rc_b (i' := 11) (ls' := [some (vR 0), some (vI x1), o2]) (st' := [vI 0, vR 0]) (L' := LR (uZ (uZ (uZ z 0 0) 32 0) 33 ((-1))) f) 2 (b280_7 (mcall (d + 10)) x1 o2 _) ?_
  refine rc_b (i' := 12) (ls' := [some (vR 0), some (vI x1), o2]) (st' := []) (L' := LR (uZ (uZ (uZ (uZ z 0 0) 32 0) 33 ((-1))) 13 0) f) 1 (b280_8 (mcall (d + 10)) 0 _ (uZ (uZ (uZ z 0 0) 32 0) 33 ((-1))) f) ?_
  refine rc_b (i' := 14) (ls' := [some (vR 0), some (vI x1), o2]) (st' := [vI 0, vR 0]) (L' := LR (uZ (uZ (uZ (uZ z 0 0) 32 0) 33 ((-1))) 13 0) f) 2 (b280_9 (mcall (d + 10)) x1 o2 _) ?_
  refine rc_b (i' := 15) (ls' := [some (vR 0), some (vI x1), o2]) (st' := []) (L' := LR (uZ (uZ (uZ (uZ (uZ z 0 0) 32 0) 33 ((-1))) 13 0) 26 0) f) 1 (b280_10 (mcall (d + 10)) 0 _ (uZ (uZ (uZ (uZ z 0 0) 32 0) 33 ((-1))) 13 0) f) ?_
  refine rc_b (i' := 17) (ls' := [some (vR 0), some (vI x1), o2]) (st' := [vI 0, vR 0]) (L' := LR (uZ (uZ (uZ (uZ (uZ z 0 0) 32 0) 33 ((-1))) 13 0) 26 0) f) 2 (b280_11 (mcall (d + 10)) x1 o2 _) ?_
  refine rc_b (i' := 18) (ls' := [some (vR 0), some (vI x1), o2]) (st' := []) (L' := LR (uZ (uZ (uZ (uZ (uZ (uZ z 0 0) 32 0) 33 ((-1))) 13 0) 26 0) 27 0) f) 1 (b280_12 (mcall (d + 10)) 0 _ (uZ (uZ (uZ (uZ (uZ z 0 0) 32 0) 33 ((-1))) 13 0) 26 0) f) ?_
  refine rc_b (i' := 24) (ls' := [some (vR 0), some (vI x1), some (vI ((-1)))]) (st' := [vI 3, vI 0, vI x1, vR 0]) (L' := LR (uZ (uZ (uZ (uZ (uZ (uZ z 0 0) 32 0) 33 ((-1))) 13 0) 26 0) 27 0) f) 6 (b280_13 (mcall (d + 10)) x1 o2 _) ?_
  refine rc_call (t := 25) (ls' := [some (vR 0), some (vI x1), some (vI ((-1)))]) (st' := []) (b280_14 (mcall (d + 10)) x1 0 3 _ (uZ (uZ (uZ (uZ (uZ (uZ z 0 0) 32 0) 33 ((-1))) 13 0) 26 0) 27 0) f) (isIn_r _ x1 0 3 (uZ (uZ (uZ (uZ (uZ (uZ z 0 0) 32 0) 33 ((-1))) 13 0) 26 0) 27 0) f) ?_
  show RC (mcall (d + 10)) (mP 280) 25 [some (vR 0), some (vI x1), some (vI ((-1)))] [vI (bI (0 ≤ I x1 ∧ I x1 ≤ 3))] (LR (uZ (uZ (uZ (uZ (uZ (uZ z 0 0) 32 0) 33 ((-1))) 13 0) 26 0) 27 0) f) res
  refine rc_bz (it := 41) (ie := 26) (ls' := [some (vR 0), some (vI x1), some (vI ((-1)))]) (st' := []) (b280_15 (mcall (d + 10)) (bI (0 ≤ I x1 ∧ I x1 ≤ 3)) _ _) (fun q1 => ?_) (fun q1 => ?_)
  · have H := H.2 q1
    exact H
  · have H := H.1 q1
    refine rc_b (i' := 28) (ls' := [some (vR 0), some (vI x1), some (vI ((-1)))]) (st' := [vI x1, vR 0]) (L' := LR (uZ (uZ (uZ (uZ (uZ (uZ z 0 0) 32 0) 33 ((-1))) 13 0) 26 0) 27 0) f) 2 (b280_16 (mcall (d + 10)) x1 ((-1)) _) ?_
    obtain ⟨r1, z1, f1, hc, H⟩ := H
    refine rc_call (t := 29) (ls' := [some (vR 0), some (vI x1), some (vI ((-1)))]) (st' := []) (b280_17 (mcall (d + 10)) x1 _ (uZ (uZ (uZ (uZ (uZ (uZ z 0 0) 32 0) 33 ((-1))) 13 0) 26 0) 27 0) f) hc ?_
    show RC (mcall (d + 10)) (mP 280) 29 [some (vR 0), some (vI x1), some (vI ((-1)))] [vI r1] (LR z1 f1) res
    refine rc_b (i' := 32) (ls' := [some (vR 0), some (vI x1), some (vI r1)]) (st' := [vI ((-1)), vI r1]) (L' := LR z1 f1) 3 (b280_18 (mcall (d + 10)) x1 ((-1)) r1 _) ?_
    refine rc_if (it := 41) (ie := 33) (ls' := [some (vR 0), some (vI x1), some (vI r1)]) (st' := []) (b280_19 (mcall (d + 10)) r1 ((-1)) _ _) (fun q2 => ?_) (fun q2 => ?_)
    · have H := H.1 (cI1t q2)
      exact H
    · have H := H.2 (cI1f q2)
      refine rc_b (i' := 36) (ls' := [some (vR 0), some (vI x1), some (vI r1)]) (st' := [vI (z1 30), vR 0]) (L' := LR z1 f1) 3 (b280_20 (mcall (d + 10)) x1 r1 z1 f1) ?_
      refine rc_b (i' := 37) (ls' := [some (vR 0), some (vI x1), some (vI r1)]) (st' := []) (L' := LR (uZ z1 32 (z1 30)) f1) 1 (b280_21 (mcall (d + 10)) (z1 30) _ z1 f1) ?_
      refine rc_b (i' := 40) (ls' := [some (vR 0), some (vI x1), some (vI r1)]) (st' := [vI (z1 31), vR 0]) (L' := LR (uZ z1 32 (z1 30)) f1) 3 (b280_22 (mcall (d + 10)) x1 r1 (uZ z1 32 (z1 30)) f1) ?_
      refine rc_b (i' := 41) (ls' := [some (vR 0), some (vI x1), some (vI r1)]) (st' := []) (L' := LR (uZ (uZ z1 32 (z1 30)) 33 (z1 31)) f1) 1 (b280_23 (mcall (d + 10)) (z1 31) _ (uZ z1 32 (z1 30)) f1) ?_
      exact H
set_option maxRecDepth 100000 in
theorem bc41_280_1 (call : QC FA) (x1 : Int32) (x2 : Int32) (L : QH FA) (F : Nat) : rnG call 280 (F + 2) 41 [some (vR 0), some (vI x1), some (vI x2)] [] L = rnG call 280 F 43 [some (vR 0), some (vI x1), some (vI x2)] [vI 0, vR 0] L := rfl
set_option maxRecDepth 100000 in
theorem bc41_280_2 (call : QC FA) (y : Int32) (ls : List (Option PV)) (z : Nat → Int32) (f : Nat → FA) (F : Nat) : rnG call 280 (F + 1) 43 ls [vI y, vR 0] (LR z f) = rnG call 280 F 44 ls [] (LR (uZ z 12 y) f) := rfl
set_option maxRecDepth 100000 in
theorem bc41_280_3 (call : QC FA) (x1 : Int32) (x2 : Int32) (L : QH FA) (F : Nat) : rnG call 280 (F + 2) 44 [some (vR 0), some (vI x1), some (vI x2)] [] L = rnG call 280 F 46 [some (vR 0), some (vI x1), some (vI x2)] [vI ((-1)), vI x2] L := rfl
set_option maxRecDepth 100000 in
theorem bc41_280_4 (call : QC FA) (x y : Int32) (ls : List (Option PV)) (L : QH FA) (F : Nat) : rnG call 280 (F + 1) 46 ls [vI y, vI x] L = bif pcmp 1 x y then rnG call 280 F 49 ls [] L else rnG call 280 F 47 ls [] L := rfl
set_option maxRecDepth 100000 in
theorem bc41_280_5 (call : QC FA) (x1 : Int32) (x2 : Int32) (L : QH FA) (F : Nat) : rnG call 280 (F + 1) 49 [some (vR 0), some (vI x1), some (vI x2)] [] L = rnG call 280 F 50 [some (vR 0), some (vI x1), some (vI x2)] [vI x1] L := rfl
set_option maxRecDepth 100000 in
theorem bc41_280_6 (call : QC FA) (x : Int32) (ls : List (Option PV)) (L : QH FA) (F : Nat) : rnG call 280 (F + 1) 50 ls [vI x] L = bif pcmp 1 x 0 then rnG call 280 F 55 ls [] L else rnG call 280 F 51 ls [] L := rfl
set_option maxRecDepth 100000 in
theorem bc41_280_7 (call : QC FA) (x1 : Int32) (x2 : Int32) (L : QH FA) (F : Nat) : rnG call 280 (F + 3) 55 [some (vR 0), some (vI x1), some (vI x2)] [] L = rnG call 280 F 58 [some (vR 0), some (vI x1), some (vI x2)] [vI x2, vI x1, vR 0] L := rfl
set_option maxRecDepth 100000 in
theorem bc41_280_8 (call : QC FA) (a0 : Int32) (a1 : Int32) (ls : List (Option PV)) (z : Nat → Int32) (f : Nat → FA) (F : Nat) : rnG call 280 (F + 1) 58 ls [vI a1, vI a0, vR 0] (LR z f) = cbd (call 279 [vR 0, vI a0, vI a1] (LR z f)) (fun r L' => rnG call 280 F 59 ls (r.toList ++ []) L') := pcY (ih := rnG call 280 F) (call := call) (a := 279) (b := 2) (v := 12) (t := 59) (x := 0) (ls := ls) (As := [vI a0, vI a1]) (st' := []) (L := LR z f) rfl rfl rfl
set_option maxRecDepth 100000 in
theorem bc41_280_9 (call : QC FA) (x1 : Int32) (x2 : Int32) (L : QH FA) (F : Nat) : rnG call 280 (F + 1) 59 [some (vR 0), some (vI x1), some (vI x2)] [] L = rnG call 280 F 60 [some (vR 0), some (vI x1), some (vI x2)] [vI x2] L := rfl
set_option maxRecDepth 100000 in
theorem bc41_280_10 (call : QC FA) (x : Int32) (ls : List (Option PV)) (L : QH FA) (F : Nat) : rnG call 280 (F + 1) 60 ls [vI x] L = some (some (vI x), L) := rfl
set_option maxRecDepth 100000 in
theorem bc41_280_11 (call : QC FA) (x1 : Int32) (x2 : Int32) (L : QH FA) (F : Nat) : rnG call 280 (F + 2) 51 [some (vR 0), some (vI x1), some (vI x2)] [] L = rnG call 280 F 53 [some (vR 0), some (vI x1), some (vI x2)] [vI x2, vR 0] L := rfl
set_option maxRecDepth 100000 in
theorem bc41_280_12 (call : QC FA) (a0 : Int32) (ls : List (Option PV)) (z : Nat → Int32) (f : Nat → FA) (F : Nat) : rnG call 280 (F + 1) 53 ls [vI a0, vR 0] (LR z f) = cbd (call 278 [vR 0, vI a0] (LR z f)) (fun r L' => rnG call 280 F 54 ls (r.toList ++ []) L') := pcY (ih := rnG call 280 F) (call := call) (a := 278) (b := 1) (v := 12) (t := 54) (x := 0) (ls := ls) (As := [vI a0]) (st' := []) (L := LR z f) rfl rfl rfl
set_option maxRecDepth 100000 in
theorem bc41_280_13 (call : QC FA) (x1 : Int32) (x2 : Int32) (L : QH FA) (F : Nat) : rnG call 280 (F + 2) 54 [some (vR 0), some (vI x1), some (vI x2)] [] L = rnG call 280 F 60 [some (vR 0), some (vI x1), some (vI x2)] [vI x2] L := rfl
set_option maxRecDepth 100000 in
theorem bc41_280_14 (call : QC FA) (x1 : Int32) (x2 : Int32) (L : QH FA) (F : Nat) : rnG call 280 (F + 1) 47 [some (vR 0), some (vI x1), some (vI x2)] [] L = rnG call 280 F 48 [some (vR 0), some (vI x1), some (vI x2)] [vI ((-1))] L := rfl
set_option maxRecDepth 100000 in
theorem bc41_280_15 (call : QC FA) (x : Int32) (ls : List (Option PV)) (L : QH FA) (F : Nat) : rnG call 280 (F + 1) 48 ls [vI x] L = some (some (vI x), L) := rfl
theorem vcc41_280_41 (d : Nat) (x1 : Int32) (x2 : Int32) (z : Nat → Int32) (f : Nat → FA) (res : Option PV × QH FA) (H : ((¬ x2 = (-1) → ((¬ x1 = 0 → (∃ (z1 : Nat → Int32) (f1 : Nat → FA), (mcall (d + 10)) 279 [vR 0, vI x1, vI x2] (LR (uZ z 12 0) f) = some (none, LR z1 f1) ∧ res = (some (vI x2), LR z1 f1))) ∧ (x1 = 0 → (∃ (z2 : Nat → Int32) (f2 : Nat → FA), (mcall (d + 10)) 278 [vR 0, vI x2] (LR (uZ z 12 0) f) = some (none, LR z2 f2) ∧ res = (some (vI x2), LR z2 f2))))) ∧ (x2 = (-1) → res = (some (vI ((-1))), LR (uZ z 12 0) f)))) : RC (mcall (d + 10)) (mP 280) 41 [some (vR 0), some (vI x1), some (vI x2)] [] (LR z f) res := by
  refine rc_b (i' := 43) (ls' := [some (vR 0), some (vI x1), some (vI x2)]) (st' := [vI 0, vR 0]) (L' := LR z f) 2 (bc41_280_1 (mcall (d + 10)) x1 x2 _) ?_
  refine rc_b (i' := 44) (ls' := [some (vR 0), some (vI x1), some (vI x2)]) (st' := []) (L' := LR (uZ z 12 0) f) 1 (bc41_280_2 (mcall (d + 10)) 0 _ z f) ?_
  refine rc_b (i' := 46) (ls' := [some (vR 0), some (vI x1), some (vI x2)]) (st' := [vI ((-1)), vI x2]) (L' := LR (uZ z 12 0) f) 2 (bc41_280_3 (mcall (d + 10)) x1 x2 _) ?_
  refine rc_if (it := 49) (ie := 47) (ls' := [some (vR 0), some (vI x1), some (vI x2)]) (st' := []) (bc41_280_4 (mcall (d + 10)) x2 ((-1)) _ _) (fun q1 => ?_) (fun q1 => ?_)
  · have H := H.1 (cI1t q1)
    refine rc_b (i' := 50) (ls' := [some (vR 0), some (vI x1), some (vI x2)]) (st' := [vI x1]) (L' := LR (uZ z 12 0) f) 1 (bc41_280_5 (mcall (d + 10)) x1 x2 _) ?_
    refine rc_if (it := 55) (ie := 51) (ls' := [some (vR 0), some (vI x1), some (vI x2)]) (st' := []) (bc41_280_6 (mcall (d + 10)) x1 _ _) (fun q2 => ?_) (fun q2 => ?_)
    · have H := H.1 (cI1t q2)
      refine rc_b (i' := 58) (ls' := [some (vR 0), some (vI x1), some (vI x2)]) (st' := [vI x2, vI x1, vR 0]) (L' := LR (uZ z 12 0) f) 3 (bc41_280_7 (mcall (d + 10)) x1 x2 _) ?_
      obtain ⟨z1, f1, hc, H⟩ := H
      refine rc_call (t := 59) (ls' := [some (vR 0), some (vI x1), some (vI x2)]) (st' := []) (bc41_280_8 (mcall (d + 10)) x1 x2 _ (uZ z 12 0) f) hc ?_
      show RC (mcall (d + 10)) (mP 280) 59 [some (vR 0), some (vI x1), some (vI x2)] [] (LR z1 f1) res
      refine rc_b (i' := 60) (ls' := [some (vR 0), some (vI x1), some (vI x2)]) (st' := [vI x2]) (L' := LR z1 f1) 1 (bc41_280_9 (mcall (d + 10)) x1 x2 _) ?_
      subst H
      exact rc_ret (bc41_280_10 (mcall (d + 10)) _ _ _)
    · have H := H.2 (cI1f q2)
      refine rc_b (i' := 53) (ls' := [some (vR 0), some (vI x1), some (vI x2)]) (st' := [vI x2, vR 0]) (L' := LR (uZ z 12 0) f) 2 (bc41_280_11 (mcall (d + 10)) x1 x2 _) ?_
      obtain ⟨z2, f2, hc, H⟩ := H
      refine rc_call (t := 54) (ls' := [some (vR 0), some (vI x1), some (vI x2)]) (st' := []) (bc41_280_12 (mcall (d + 10)) x2 _ (uZ z 12 0) f) hc ?_
      show RC (mcall (d + 10)) (mP 280) 54 [some (vR 0), some (vI x1), some (vI x2)] [] (LR z2 f2) res
      refine rc_b (i' := 60) (ls' := [some (vR 0), some (vI x1), some (vI x2)]) (st' := [vI x2]) (L' := LR z2 f2) 2 (bc41_280_13 (mcall (d + 10)) x1 x2 _) ?_
      subst H
      exact rc_ret (bc41_280_10 (mcall (d + 10)) _ _ _)
  · have H := H.2 (cI1f q1)
    refine rc_b (i' := 48) (ls' := [some (vR 0), some (vI x1), some (vI x2)]) (st' := [vI ((-1))]) (L' := LR (uZ z 12 0) f) 1 (bc41_280_14 (mcall (d + 10)) x1 x2 _) ?_
    subst H
    exact rc_ret (bc41_280_15 (mcall (d + 10)) _ _ _)
theorem zt0 {z : Nat → Int32} (h : BNDz z) : BNDz (uZ (uZ (uZ (uZ (uZ (uZ z 0 0) 32 0) 33 (-1)) 13 0) 26 0) 27 0) := by
  refine (((((h.set (b_no (by decide))).set (b_no (by decide))).set (b_no (by decide))).set (b_in (a := 2147483648) (b := 2147484048) (by decide) ?_)).set (b_in (a := 2147483648) (b := 2147484048) (by decide) ?_)).set (b_in (a := 2147483648) (b := 2147483656) (by decide) ?_)
  · exact inb_J (by decide) (by decide)
  · exact inb_J (by decide) (by decide)
  · exact inb_J (by decide) (by decide)
/-- the first token of a text -/
theorem rt0 (d0 : Nat) {z : Nat → Int32} {f : Nat → FA} (hz : BNDz z) (hE : EXF f) : ∃ t a z1, mcall (d0 + 9) 269 [vR 0] (LR (uZ (uZ (uZ (uZ (uZ (uZ (uZ z 0 0) 32 0) 33 (-1)) 13 0) 26 0) 27 0) 25 0) f) = some (none, LR z1 f) ∧ TS t a z1 f ∧ RDZ (uZ (uZ (uZ (uZ (uZ (uZ (uZ z 0 0) 32 0) 33 (-1)) 13 0) 26 0) 27 0) 25 0) z1 ∧ BNDz z1 := by
  obtain ⟨t, t1, t2⟩ := hz.nat (j := 12) (hi := 400) (by decide)
  have hz1 : BNDz (uZ (uZ (uZ (uZ (uZ (uZ (uZ z 0 0) 32 0) 33 (-1)) 13 0) 26 0) 27 0) 25 0) := (zt0 hz).set (b_in (a := 2147483648) (b := 2147483648) (by decide) (inb_J (by decide) (by decide)))
  obtain ⟨z1, g1, g2, a, e, g3, g4, g5, g6, g7⟩ := reads_r (d0 + 6) t 0 (uZ (uZ (uZ (uZ (uZ (uZ (uZ z 0 0) 32 0) 33 (-1)) 13 0) 26 0) 27 0) 25 0) f hE.1 t2 (by omega) (by rw [uZ_n (by decide), uZ_n (by decide), uZ_n (by decide), uZ_n (by decide), uZ_n (by decide), uZ_n (by decide), uZ_n (by decide)]; exact t1) (by rw [uZ_n (by decide), uZ_n (by decide), uZ_n (by decide), uZ_s]; rfl)
  have k12 := g2 12 (by decide) (by decide) (by decide) (by decide)
  rw [uZ_n (by decide), uZ_n (by decide), uZ_n (by decide), uZ_n (by decide), uZ_n (by decide), uZ_n (by decide), uZ_n (by decide)] at k12
  have k26 := g2 26 (by decide) (by decide) (by decide) (by decide)
  rw [uZ_n (by decide), uZ_n (by decide), uZ_s] at k26
  have hT : TS t a z1 f := ⟨hE.1, t2, k12.trans t1, g3, k26.trans rfl, by omega, ⟨e, g4, by omega, g7⟩, rfl⟩
  exact ⟨t, a, z1, g1, hT, g2, hz1.rn g2.n hT⟩
/-- the end of a text that was refused -/
theorem tx_no (d : Nat) (x1 : Int32) (z : Nat → Int32) (f : Nat → FA) : RC (mcall (d + 10)) (mP 280) 41 [some (vR 0), some (vI x1), some (vI (-1))] [] (LR z f) (some (vI (-1)), LR (uZ z 12 0) f) := vcc41_280_41 _ _ _ _ _ _ ⟨fun q => absurd rfl q, fun _ => rfl⟩
theorem b12 {z : Nat → Int32} (h : BNDz z) : BNDz (uZ z 12 0) := h.set (b_in (a := 2147483648) (b := 2147484048) (by decide) (inb_J (by decide) (by decide)))
theorem bft {z : Nat → Int32} {x y : Int32} (h : BNDz z) : BNDz (uZ (uZ z 32 x) 33 y) := (h.set (b_no (by decide))).set (b_no (by decide))
theorem nI_m1 {n : Nat} (h : n < 2147483648) : ¬ nI n = -1 := fun q => by
  have e := I_nI h
  rw [q, m1I] at e
  omega
theorem z73 {z z1 z2 : Nat → Int32} (h1 : RDZ (uZ (uZ (uZ (uZ (uZ (uZ (uZ z 0 0) 32 0) 33 (-1)) 13 0) 26 0) 27 0) 25 0) z1) (h2 : z2 73 = z1 73) : z2 73 = z 73 := by
  rw [h2, h1 73 (by decide) (by decide) (by decide) (by decide), uZ_n (by decide), uZ_n (by decide), uZ_n (by decide), uZ_n (by decide), uZ_n (by decide), uZ_n (by decide), uZ_n (by decide)]
theorem EXF_b {r b : Nat} {z z' : Nat → Int32} {f f' : Nat → FA} (h : EXF f) (hr : r = 18 ∨ r = 20) (hd : DFb r b z f z' f') : EXF f' := h.tr (fun k hk => hd.2.1 k (by
  have : ∀ k, k ∈ XR → k ≠ 18 ∧ k ≠ 20 := by decide
  have := this k hk
  omega))
theorem EXF_19 {z z' : Nat → Int32} {f f' : Nat → FA} (h : EXF f) (hd : DFb 19 80 z f z' f') : EXF f' := by
  obtain ⟨h1, h2, h3, h4⟩ := h
  exact ⟨by rw [hd.2.1 9 (by decide)]; exact h1, h2.tr (by rw [hd.2.1 10 (by decide)]) (fun l _ => ⟨by rw [hd.2.1 12 (by decide)], by rw [hd.2.1 13 (by decide)], by rw [hd.2.1 14 (by decide)]⟩) (fun j _ => ⟨by rw [hd.2.1 15 (by decide)], by rw [hd.2.1 16 (by decide)]⟩), h3.tr (fun j hj => hd.2.2 j hj), by rw [hd.2.1 42 (by decide)]; exact h4⟩
