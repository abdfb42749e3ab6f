/-! stack of the reference, and the pair -/
theorem greater_x (d0 : Nat) (x y : Int32) (z : Nat → Int32) (f : Nat → FA) : mcall (d0 + 1) 68 [vR 0, vI x, vI y] (LR z f) = some (some (vI (if I y < I x then x else y)), LR z f) := by
  have go : ∀ res, _ → mcall (d0 + 1) 68 [vR 0, vI x, vI y] (LR z f) = some res := fun res H => mcall_i (mq68 (cu := [])).2.2 rfl (vc68_0 (mcall d0) x y z f res H)
  refine go _ ?_
  first
    | exact ⟨fun q => by rw [if_pos (by omega)], fun q => by rw [if_neg (by omega)]⟩
    | exact ⟨fun q => by rw [if_neg (by omega)], fun q => by rw [if_pos (by omega)]⟩
set_option maxRecDepth 100000 in
theorem b275_1 (call : QC FA) (o1 : Option PV) (o2 : Option PV) (o3 : Option PV) (o4 : Option PV) (L : QH FA) (F : Nat) : rnG call 275 (F + 2) 0 [some (vR 0), o1, o2, o3, o4] [] L = rnG call 275 F 2 [some (vR 0), o1, o2, o3, o4] [vI 0, vR 0] L := rfl
set_option maxRecDepth 100000 in
theorem b275_2 (call : QC FA) (y : Int32) (ls : List (Option PV)) (z : Nat → Int32) (f : Nat → FA) (F : Nat) : rnG call 275 (F + 1) 2 ls [vI y, vR 0] (LR z f) = rnG call 275 F 3 ls [] (LR (uZ z 0 y) f) := rfl
set_option maxRecDepth 100000 in
theorem b275_3 (call : QC FA) (o1 : Option PV) (o2 : Option PV) (o3 : Option PV) (o4 : Option PV) (L : QH FA) (F : Nat) : rnG call 275 (F + 4) 3 [some (vR 0), o1, o2, o3, o4] [] L = rnG call 275 F 7 [some (vR 0), some (vI 0), some (vI 0), o3, o4] [] L := rfl
theorem vc275_0 (d : Nat) (o1 : Option PV) (o2 : Option PV) (o3 : Option PV) (o4 : Option PV) (z : Nat → Int32) (f : Nat → FA) (res : Option PV × QH FA) (H : RC (mcall (d + 1)) (mP 275) 7 [some (vR 0), some (vI 0), some (vI 0), o3, o4] [] (LR (uZ z 0 0) f) res) : RC (mcall (d + 1)) (mP 275) 0 [some (vR 0), o1, o2, o3, o4] [] (LR z f) res := by
  refine rc_b (i' := 2) (ls' := [some (vR 0), o1, o2, o3, o4]) (st' := [vI 0, vR 0]) (L' := LR z f) 2 (b275_1 (mcall (d + 1)) o1 o2 o3 o4 _) ?_
  refine rc_b (i' := 3) (ls' := [some (vR 0), o1, o2, o3, o4]) (st' := []) (L' := LR (uZ z 0 0) f) 1 (b275_2 (mcall (d + 1)) 0 _ z f) ?_
  refine rc_b (i' := 7) (ls' := [some (vR 0), some (vI 0), some (vI 0), o3, o4]) (st' := []) (L' := LR (uZ z 0 0) f) 4 (b275_3 (mcall (d + 1)) o1 o2 o3 o4 _) ?_
  exact H
set_option maxRecDepth 100000 in
theorem bc7_275_1 (call : QC FA) (x1 : Int32) (x2 : Int32) (o3 : Option PV) (o4 : Option PV) (z : Nat → Int32) (f : Nat → FA) (F : Nat) : rnG call 275 (F + 5) 7 [some (vR 0), some (vI x1), some (vI x2), o3, o4] [] (LR z f) = rnG call 275 F 12 [some (vR 0), some (vI x1), some (vI x2), o3, o4] [vI (1 <<< ((z 57) &&& 31)), vI x2] (LR z f) := rfl
set_option maxRecDepth 100000 in
theorem bc7_275_2 (call : QC FA) (x y : Int32) (ls : List (Option PV)) (L : QH FA) (F : Nat) : rnG call 275 (F + 1) 12 ls [vI y, vI x] L = bif pcmp 3 x y then rnG call 275 F 100 ls [] L else rnG call 275 F 13 ls [] L := rfl
set_option maxRecDepth 100000 in
theorem bc7_275_3 (call : QC FA) (x1 : Int32) (x2 : Int32) (o3 : Option PV) (o4 : Option PV) (L : QH FA) (F : Nat) : rnG call 275 (F + 1) 100 [some (vR 0), some (vI x1), some (vI x2), o3, o4] [] L = rnG call 275 F 101 [some (vR 0), some (vI x1), some (vI x2), o3, o4] [vI x1] L := rfl
set_option maxRecDepth 100000 in
theorem bc7_275_4 (call : QC FA) (x : Int32) (ls : List (Option PV)) (L : QH FA) (F : Nat) : rnG call 275 (F + 1) 101 ls [vI x] L = some (some (vI x), L) := rfl
set_option maxRecDepth 100000 in
theorem bc7_275_5 (call : QC FA) (x1 : Int32) (x2 : Int32) (o3 : Option PV) (o4 : Option PV) (L : QH FA) (F : Nat) : rnG call 275 (F + 4) 13 [some (vR 0), some (vI x1), some (vI x2), o3, o4] [] L = rnG call 275 F 17 [some (vR 0), some (vI x1), some (vI x2), some (vI 0), some (vI 0)] [] L := rfl
theorem vcc7_275_7 (d : Nat) (x1 : Int32) (x2 : Int32) (o3 : Option PV) (o4 : Option PV) (z : Nat → Int32) (f : Nat → FA) (res : Option PV × QH FA) (H : ((I (1 <<< ((z 57) &&& 31)) ≤ I x2 → res = (some (vI x1), LR z f)) ∧ (I x2 < I (1 <<< ((z 57) &&& 31)) → RC (mcall (d + 1)) (mP 275) 17 [some (vR 0), some (vI x1), some (vI x2), some (vI 0), some (vI 0)] [] (LR z f) res))) : RC (mcall (d + 1)) (mP 275) 7 [some (vR 0), some (vI x1), some (vI x2), o3, o4] [] (LR z f) res := by
  refine rc_b (i' := 12) (ls' := [some (vR 0), some (vI x1), some (vI x2), o3, o4]) (st' := [vI (1 <<< ((z 57) &&& 31)), vI x2]) (L' := LR z f) 5 (bc7_275_1 (mcall (d + 1)) x1 x2 o3 o4 z f) ?_
  refine rc_if (it := 100) (ie := 13) (ls' := [some (vR 0), some (vI x1), some (vI x2), o3, o4]) (st' := []) (bc7_275_2 (mcall (d + 1)) x2 (1 <<< ((z 57) &&& 31)) _ _) (fun q1 => ?_) (fun q1 => ?_)
  · have H := H.1 (cI3t q1 rfl rfl)
    refine rc_b (i' := 101) (ls' := [some (vR 0), some (vI x1), some (vI x2), o3, o4]) (st' := [vI x1]) (L' := LR z f) 1 (bc7_275_3 (mcall (d + 1)) x1 x2 o3 o4 _) ?_
    subst H
    exact rc_ret (bc7_275_4 (mcall (d + 1)) _ _ _)
  · have H := H.2 (cI3f q1 rfl rfl)
    refine rc_b (i' := 17) (ls' := [some (vR 0), some (vI x1), some (vI x2), some (vI 0), some (vI 0)]) (st' := []) (L' := LR z f) 4 (bc7_275_5 (mcall (d + 1)) x1 x2 o3 o4 _) ?_
    exact H
set_option maxRecDepth 100000 in
theorem bc17_275_1 (call : QC FA) (x1 : Int32) (x2 : Int32) (x3 : Int32) (x4 : Int32) (z : Nat → Int32) (f : Nat → FA) (F : Nat) : rnG call 275 (F + 3) 17 [some (vR 0), some (vI x1), some (vI x2), some (vI x3), some (vI x4)] [] (LR z f) = rnG call 275 F 20 [some (vR 0), some (vI x1), some (vI x2), some (vI x3), some (vI x4)] [vI (z 57), vI x4] (LR z f) := rfl
set_option maxRecDepth 100000 in
theorem bc17_275_2 (call : QC FA) (x y : Int32) (ls : List (Option PV)) (L : QH FA) (F : Nat) : rnG call 275 (F + 1) 20 ls [vI y, vI x] L = bif pcmp 3 x y then rnG call 275 F 35 ls [] L else rnG call 275 F 21 ls [] L := rfl
set_option maxRecDepth 100000 in
theorem bc17_275_3 (call : QC FA) (x1 : Int32) (x2 : Int32) (x3 : Int32) (x4 : Int32) (z : Nat → Int32) (f : Nat → FA) (F : Nat) : rnG call 275 (F + 4) 35 [some (vR 0), some (vI x1), some (vI x2), some (vI x3), some (vI x4)] [] (LR z f) = rnG call 275 F 39 [some (vR 0), some (vI x1), some (vI x2), some (vI x3), some (vI x4)] [vI x2, vI x2, vR 35] (LR z f) := rfl
set_option maxRecDepth 100000 in
theorem bc17_275_4 (call : QC FA) (x : Int32) (s0 : Int32) (ls : List (Option PV)) (L : QH FA) (F : Nat) : rnG call 275 (F + 1) 39 ls [vI x, vI s0, vR 35] L = bif pcmp 1 x 0 then rnG call 275 F 42 ls [vI s0, vR 35] L else rnG call 275 F 40 ls [vI s0, vR 35] L := rfl
set_option maxRecDepth 100000 in
theorem bc17_275_5 (call : QC FA) (x1 : Int32) (x2 : Int32) (x3 : Int32) (x4 : Int32) (s0 : Int32) (L : QH FA) (F : Nat) : rnG call 275 (F + 1) 42 [some (vR 0), some (vI x1), some (vI x2), some (vI x3), some (vI x4)] [vI s0, vR 35] L = rnG call 275 F 43 [some (vR 0), some (vI x1), some (vI x2), some (vI x3), some (vI x4)] [vI 0, vI s0, vR 35] L := rfl
set_option maxRecDepth 100000 in
theorem bc17_275_6 (call : QC FA) (x y : Int32) (ls : List (Option PV)) (z : Nat → Int32) (f : Nat → FA) (F : Nat) : rnG call 275 (F + 1) 43 ls [vI y, vI x, vR 35] (LR z f) = bif (Nat.beq 0 0 && pin x 256) then rnG call 275 F 44 ls [] (LR z (uA f 35 (upd (f 35) (ix x) y))) else none := rfl
set_option maxRecDepth 100000 in
theorem bc17_275_7 (call : QC FA) (x1 : Int32) (x2 : Int32) (x3 : Int32) (x4 : Int32) (L : QH FA) (F : Nat) : rnG call 275 (F + 2) 44 [some (vR 0), some (vI x1), some (vI x2), some (vI x3), some (vI x4)] [] L = rnG call 275 F 46 [some (vR 0), some (vI x1), some (vI x2), some (vI x3), some (vI 0)] [] L := rfl
set_option maxRecDepth 100000 in
theorem bc17_275_8 (call : QC FA) (x1 : Int32) (x2 : Int32) (x3 : Int32) (x4 : Int32) (s0 : Int32) (L : QH FA) (F : Nat) : rnG call 275 (F + 2) 40 [some (vR 0), some (vI x1), some (vI x2), some (vI x3), some (vI x4)] [vI s0, vR 35] L = rnG call 275 F 43 [some (vR 0), some (vI x1), some (vI x2), some (vI x3), some (vI x4)] [vI 1, vI s0, vR 35] L := rfl
set_option maxRecDepth 100000 in
theorem bc17_275_9 (call : QC FA) (x1 : Int32) (x2 : Int32) (x3 : Int32) (x4 : Int32) (L : QH FA) (F : Nat) : rnG call 275 (F + 3) 21 [some (vR 0), some (vI x1), some (vI x2), some (vI x3), some (vI x4)] [] L = rnG call 275 F 24 [some (vR 0), some (vI x1), some (vI x2), some (vI x3), some (vI x4)] [vI x4, vI x2, vR 0] L := rfl
set_option maxRecDepth 100000 in
theorem bc17_275_10 (call : QC FA) (a0 : Int32) (a1 : Int32) (ls : List (Option PV)) (z : Nat → Int32) (f : Nat → FA) (F : Nat) : rnG call 275 (F + 1) 24 ls [vI a1, vI a0, vR 0] (LR z f) = cbd (call 45 [vR 0, vI a0, vI a1] (LR z f)) (fun r L' => rnG call 275 F 25 ls (r.toList ++ []) L') := pcY (ih := rnG call 275 F) (call := call) (a := 45) (b := 2) (v := 12) (t := 25) (x := 0) (ls := ls) (As := [vI a0, vI a1]) (st' := []) (L := LR z f) rfl rfl rfl
set_option maxRecDepth 100000 in
theorem bc17_275_11 (call : QC FA) (x : Int32) (ls : List (Option PV)) (L : QH FA) (F : Nat) : rnG call 275 (F + 1) 25 ls [vI x] L = bif pcmp 0 x 0 then rnG call 275 F 33 ls [] L else rnG call 275 F 26 ls [] L := rfl
set_option maxRecDepth 100000 in
theorem bc17_275_12 (call : QC FA) (x1 : Int32) (x2 : Int32) (x3 : Int32) (x4 : Int32) (L : QH FA) (F : Nat) : rnG call 275 (F + 1) 33 [some (vR 0), some (vI x1), some (vI x2), some (vI x3), some (vI x4)] [] L = rnG call 275 F 34 [some (vR 0), some (vI x1), some (vI x2), some (vI x3), some (vI (x4 + 1))] [] L := rfl
set_option maxRecDepth 100000 in
theorem bc17_275_13 (call : QC FA) (x1 : Int32) (x2 : Int32) (x3 : Int32) (x4 : Int32) (L : QH FA) (F : Nat) : rnG call 275 (F + 1) 34 [some (vR 0), some (vI x1), some (vI x2), some (vI x3), some (vI x4)] [] L = rnG call 275 F 17 [some (vR 0), some (vI x1), some (vI x2), some (vI x3), some (vI x4)] [] L := rfl
set_option maxRecDepth 100000 in
theorem bc17_275_14 (call : QC FA) (x1 : Int32) (x2 : Int32) (x3 : Int32) (x4 : Int32) (z : Nat → Int32) (f : Nat → FA) (F : Nat) : rnG call 275 (F + 4) 26 [some (vR 0), some (vI x1), some (vI x2), some (vI x3), some (vI x4)] [] (LR z f) = rnG call 275 F 30 [some (vR 0), some (vI x1), some (vI x2), some (vI x3), some (vI x4)] [vI x4, vR 33, vI x3] (LR z f) := rfl
set_option maxRecDepth 100000 in
theorem bc17_275_15 (call : QC FA) (x : Int32) (s0 : Int32) (ls : List (Option PV)) (z : Nat → Int32) (f : Nat → FA) (F : Nat) : rnG call 275 (F + 1) 30 ls [vI x, vR 33, vI s0] (LR z f) = bif (Nat.beq 0 0 && pin x 8) then rnG call 275 F 31 ls [vI (f 33 (ix x)), vI s0] (LR z f) else none := rfl
set_option maxRecDepth 100000 in
theorem bc17_275_16 (call : QC FA) (x1 : Int32) (x2 : Int32) (x3 : Int32) (x4 : Int32) (s0 : Int32) (s1 : Int32) (L : QH FA) (F : Nat) : rnG call 275 (F + 2) 31 [some (vR 0), some (vI x1), some (vI x2), some (vI x3), some (vI x4)] [vI s0, vI s1] L = rnG call 275 F 33 [some (vR 0), some (vI x1), some (vI x2), some (vI (s1 + s0)), some (vI x4)] [] L := rfl
theorem vcc17_275_17 (d : Nat) (x1 : Int32) (x2 : Int32) (x3 : Int32) (x4 : Int32) (z : Nat → Int32) (f : Nat → FA) (res : Option PV × QH FA) (H : ((I (z 57) ≤ I x4 → ((¬ x2 = 0 → (pin x2 256 = true ∧ RC (mcall (d + 1)) (mP 275) 46 [some (vR 0), some (vI x1), some (vI x2), some (vI x3), some (vI 0)] [] (LR z (uA f 35 (upd (f 35) (ix x2) 0))) res)) ∧ (x2 = 0 → (pin x2 256 = true ∧ RC (mcall (d + 1)) (mP 275) 46 [some (vR 0), some (vI x1), some (vI x2), some (vI x3), some (vI 0)] [] (LR z (uA f 35 (upd (f 35) (ix x2) 1))) res)))) ∧ (I x4 < I (z 57) → (∃ (r1 : Int32) (z1 : Nat → Int32) (f1 : Nat → FA), (mcall (d + 1)) 45 [vR 0, vI x2, vI x4] (LR z f) = some (some (vI r1), LR z1 f1) ∧ ((r1 = 0 → RC (mcall (d + 1)) (mP 275) 17 [some (vR 0), some (vI x1), some (vI x2), some (vI x3), some (vI (x4 + 1))] [] (LR z1 f1) res) ∧ (¬ r1 = 0 → (pin x4 8 = true ∧ RC (mcall (d + 1)) (mP 275) 17 [some (vR 0), some (vI x1), some (vI x2), some (vI (x3 + (f1 33 (ix x4)))), some (vI (x4 + 1))] [] (LR z1 f1) res))))))) : RC (mcall (d + 1)) (mP 275) 17 [some (vR 0), some (vI x1), some (vI x2), some (vI x3), some (vI x4)] [] (LR z f) res := by
  refine rc_b (i' := 20) (ls' := [some (vR 0), some (vI x1), some (vI x2), some (vI x3), some (vI x4)]) (st' := [vI (z 57), vI x4]) (L' := LR z f) 3 (bc17_275_1 (mcall (d + 1)) x1 x2 x3 x4 z f) ?_
  refine rc_if (it := 35) (ie := 21) (ls' := [some (vR 0), some (vI x1), some (vI x2), some (vI x3), some (vI x4)]) (st' := []) (bc17_275_2 (mcall (d + 1)) x4 (z 57) _ _) (fun q1 => ?_) (fun q1 => ?_)
  · have H := H.1 (cI3t q1 rfl rfl)
    refine rc_b (i' := 39) (ls' := [some (vR 0), some (vI x1), some (vI x2), some (vI x3), some (vI x4)]) (st' := [vI x2, vI x2, vR 35]) (L' := LR z f) 4 (bc17_275_3 (mcall (d + 1)) x1 x2 x3 x4 z f) ?_
    refine rc_if (it := 42) (ie := 40) (ls' := [some (vR 0), some (vI x1), some (vI x2), some (vI x3), some (vI x4)]) (st' := [vI x2, vR 35]) (bc17_275_4 (mcall (d + 1)) x2 x2 _ _) (fun q2 => ?_) (fun q2 => ?_)
    · have H := H.1 (cI1t q2)
      refine rc_b (i' := 43) (ls' := [some (vR 0), some (vI x1), some (vI x2), some (vI x3), some (vI x4)]) (st' := [vI 0, vI x2, vR 35]) (L' := LR z f) 1 (bc17_275_5 (mcall (d + 1)) x1 x2 x3 x4 x2 _) ?_
      obtain ⟨g1, H⟩ := H
      refine rc_g (i' := 44) (ls' := [some (vR 0), some (vI x1), some (vI x2), some (vI x3), some (vI x4)]) (st' := []) (L' := LR z (uA f 35 (upd (f 35) (ix x2) 0))) (bc17_275_6 (mcall (d + 1)) x2 0 _ z f) (pinG g1) ?_
      refine rc_b (i' := 46) (ls' := [some (vR 0), some (vI x1), some (vI x2), some (vI x3), some (vI 0)]) (st' := []) (L' := LR z (uA f 35 (upd (f 35) (ix x2) 0))) 2 (bc17_275_7 (mcall (d + 1)) x1 x2 x3 x4 _) ?_
      exact H
    · have H := H.2 (cI1f q2)
      refine rc_b (i' := 43) (ls' := [some (vR 0), some (vI x1), some (vI x2), some (vI x3), some (vI x4)]) (st' := [vI 1, vI x2, vR 35]) (L' := LR z f) 2 (bc17_275_8 (mcall (d + 1)) x1 x2 x3 x4 x2 _) ?_
      obtain ⟨g1, H⟩ := H
      refine rc_g (i' := 44) (ls' := [some (vR 0), some (vI x1), some (vI x2), some (vI x3), some (vI x4)]) (st' := []) (L' := LR z (uA f 35 (upd (f 35) (ix x2) 1))) (bc17_275_6 (mcall (d + 1)) x2 1 _ z f) (pinG g1) ?_
      refine rc_b (i' := 46) (ls' := [some (vR 0), some (vI x1), some (vI x2), some (vI x3), some (vI 0)]) (st' := []) (L' := LR z (uA f 35 (upd (f 35) (ix x2) 1))) 2 (bc17_275_7 (mcall (d + 1)) x1 x2 x3 x4 _) ?_
      exact H
  · have H := H.2 (cI3f q1 rfl rfl)
    refine rc_b (i' := 24) (ls' := [some (vR 0), some (vI x1), some (vI x2), some (vI x3), some (vI x4)]) (st' := [vI x4, vI x2, vR 0]) (L' := LR z f) 3 (bc17_275_9 (mcall (d + 1)) x1 x2 x3 x4 _) ?_
    obtain ⟨r1, z1, f1, hc, H⟩ := H
    refine rc_call (t := 25) (ls' := [some (vR 0), some (vI x1), some (vI x2), some (vI x3), some (vI x4)]) (st' := []) (bc17_275_10 (mcall (d + 1)) x2 x4 _ z f) hc ?_
    show RC (mcall (d + 1)) (mP 275) 25 [some (vR 0), some (vI x1), some (vI x2), some (vI x3), some (vI x4)] [vI r1] (LR z1 f1) res
    refine rc_if (it := 33) (ie := 26) (ls' := [some (vR 0), some (vI x1), some (vI x2), some (vI x3), some (vI x4)]) (st' := []) (bc17_275_11 (mcall (d + 1)) r1 _ _) (fun q3 => ?_) (fun q3 => ?_)
    · have H := H.1 (cI0t q3)
      refine rc_b (i' := 34) (ls' := [some (vR 0), some (vI x1), some (vI x2), some (vI x3), some (vI (x4 + 1))]) (st' := []) (L' := LR z1 f1) 1 (bc17_275_12 (mcall (d + 1)) x1 x2 x3 x4 _) ?_
      refine rc_b (i' := 17) (ls' := [some (vR 0), some (vI x1), some (vI x2), some (vI x3), some (vI (x4 + 1))]) (st' := []) (L' := LR z1 f1) 1 (bc17_275_13 (mcall (d + 1)) x1 x2 x3 (x4 + 1) _) ?_
      exact H
    · have H := H.2 (cI0f q3)
      refine rc_b (i' := 30) (ls' := [some (vR 0), some (vI x1), some (vI x2), some (vI x3), some (vI x4)]) (st' := [vI x4, vR 33, vI x3]) (L' := LR z1 f1) 4 (bc17_275_14 (mcall (d + 1)) x1 x2 x3 x4 z1 f1) ?_
      obtain ⟨g1, H⟩ := H
      refine rc_g (i' := 31) (ls' := [some (vR 0), some (vI x1), some (vI x2), some (vI x3), some (vI x4)]) (st' := [vI (f1 33 (ix x4)), vI x3]) (L' := LR z1 f1) (bc17_275_15 (mcall (d + 1)) x4 x3 _ z1 f1) (pinG g1) ?_
      refine rc_b (i' := 33) (ls' := [some (vR 0), some (vI x1), some (vI x2), some (vI (x3 + (f1 33 (ix x4)))), some (vI x4)]) (st' := []) (L' := LR z1 f1) 2 (bc17_275_16 (mcall (d + 1)) x1 x2 x3 x4 (f1 33 (ix x4)) x3 _) ?_
      refine rc_b (i' := 34) (ls' := [some (vR 0), some (vI x1), some (vI x2), some (vI (x3 + (f1 33 (ix x4)))), some (vI (x4 + 1))]) (st' := []) (L' := LR z1 f1) 1 (bc17_275_12 (mcall (d + 1)) x1 x2 (x3 + (f1 33 (ix x4))) x4 _) ?_
      refine rc_b (i' := 17) (ls' := [some (vR 0), some (vI x1), some (vI x2), some (vI (x3 + (f1 33 (ix x4)))), some (vI (x4 + 1))]) (st' := []) (L' := LR z1 f1) 1 (bc17_275_13 (mcall (d + 1)) x1 x2 (x3 + (f1 33 (ix x4))) (x4 + 1) _) ?_
      exact H
set_option maxRecDepth 100000 in
theorem bc46_275_1 (call : QC FA) (x1 : Int32) (x2 : Int32) (x3 : Int32) (x4 : Int32) (z : Nat → Int32) (f : Nat → FA) (F : Nat) : rnG call 275 (F + 3) 46 [some (vR 0), some (vI x1), some (vI x2), some (vI x3), some (vI x4)] [] (LR z f) = rnG call 275 F 49 [some (vR 0), some (vI x1), some (vI x2), some (vI x3), some (vI x4)] [vI (z 57), vI x4] (LR z f) := rfl
set_option maxRecDepth 100000 in
theorem bc46_275_2 (call : QC FA) (x y : Int32) (ls : List (Option PV)) (L : QH FA) (F : Nat) : rnG call 275 (F + 1) 49 ls [vI y, vI x] L = bif pcmp 3 x y then rnG call 275 F 85 ls [] L else rnG call 275 F 50 ls [] L := rfl
set_option maxRecDepth 100000 in
theorem bc46_275_3 (call : QC FA) (x1 : Int32) (x2 : Int32) (x3 : Int32) (x4 : Int32) (z : Nat → Int32) (f : Nat → FA) (F : Nat) : rnG call 275 (F + 3) 85 [some (vR 0), some (vI x1), some (vI x2), some (vI x3), some (vI x4)] [] (LR z f) = rnG call 275 F 88 [some (vR 0), some (vI x1), some (vI x2), some (vI x3), some (vI x4)] [vI x2, vR 35] (LR z f) := rfl
set_option maxRecDepth 100000 in
theorem bc46_275_4 (call : QC FA) (x : Int32) (ls : List (Option PV)) (z : Nat → Int32) (f : Nat → FA) (F : Nat) : rnG call 275 (F + 1) 88 ls [vI x, vR 35] (LR z f) = bif (Nat.beq 0 0 && pin x 256) then rnG call 275 F 89 ls [vI (f 35 (ix x))] (LR z f) else none := rfl
set_option maxRecDepth 100000 in
theorem bc46_275_5 (call : QC FA) (x1 : Int32) (x2 : Int32) (x3 : Int32) (x4 : Int32) (s0 : Int32) (L : QH FA) (F : Nat) : rnG call 275 (F + 1) 89 [some (vR 0), some (vI x1), some (vI x2), some (vI x3), some (vI x4)] [vI s0] L = rnG call 275 F 90 [some (vR 0), some (vI x1), some (vI x2), some (vI x3), some (vI x4)] [vI 1, vI s0] L := rfl
set_option maxRecDepth 100000 in
theorem bc46_275_6 (call : QC FA) (x y : Int32) (ls : List (Option PV)) (L : QH FA) (F : Nat) : rnG call 275 (F + 1) 90 ls [vI y, vI x] L = bif pcmp 1 x y then rnG call 275 F 98 ls [] L else rnG call 275 F 91 ls [] L := rfl
set_option maxRecDepth 100000 in
theorem bc46_275_7 (call : QC FA) (x1 : Int32) (x2 : Int32) (x3 : Int32) (x4 : Int32) (L : QH FA) (F : Nat) : rnG call 275 (F + 1) 98 [some (vR 0), some (vI x1), some (vI x2), some (vI x3), some (vI x4)] [] L = rnG call 275 F 99 [some (vR 0), some (vI x1), some (vI (x2 + 1)), some (vI x3), some (vI x4)] [] L := rfl
set_option maxRecDepth 100000 in
theorem bc46_275_8 (call : QC FA) (x1 : Int32) (x2 : Int32) (x3 : Int32) (x4 : Int32) (L : QH FA) (F : Nat) : rnG call 275 (F + 1) 99 [some (vR 0), some (vI x1), some (vI x2), some (vI x3), some (vI x4)] [] L = rnG call 275 F 7 [some (vR 0), some (vI x1), some (vI x2), some (vI x3), some (vI x4)] [] L := rfl
set_option maxRecDepth 100000 in
theorem bc46_275_9 (call : QC FA) (x1 : Int32) (x2 : Int32) (x3 : Int32) (x4 : Int32) (L : QH FA) (F : Nat) : rnG call 275 (F + 4) 91 [some (vR 0), some (vI x1), some (vI x2), some (vI x3), some (vI x4)] [] L = rnG call 275 F 95 [some (vR 0), some (vI x1), some (vI x2), some (vI x3), some (vI x4)] [vI x2, vR 0, vI x1, vR 0] L := rfl
set_option maxRecDepth 100000 in
theorem bc46_275_10 (call : QC FA) (a0 : Int32) (s0 : Int32) (ls : List (Option PV)) (z : Nat → Int32) (f : Nat → FA) (F : Nat) : rnG call 275 (F + 1) 95 ls [vI a0, vR 0, vI s0, vR 0] (LR z f) = cbd (call 245 [vR 0, vI a0] (LR z f)) (fun r L' => rnG call 275 F 96 ls (r.toList ++ [vI s0, vR 0]) L') := pcY (ih := rnG call 275 F) (call := call) (a := 245) (b := 1) (v := 12) (t := 96) (x := 0) (ls := ls) (As := [vI a0]) (st' := [vI s0, vR 0]) (L := LR z f) rfl rfl rfl
set_option maxRecDepth 100000 in
theorem bc46_275_11 (call : QC FA) (a0 : Int32) (a1 : Int32) (ls : List (Option PV)) (z : Nat → Int32) (f : Nat → FA) (F : Nat) : rnG call 275 (F + 1) 96 ls [vI a1, vI a0, vR 0] (LR z f) = cbd (call 68 [vR 0, vI a0, vI a1] (LR z f)) (fun r L' => rnG call 275 F 97 ls (r.toList ++ []) L') := pcY (ih := rnG call 275 F) (call := call) (a := 68) (b := 2) (v := 12) (t := 97) (x := 0) (ls := ls) (As := [vI a0, vI a1]) (st' := []) (L := LR z f) rfl rfl rfl
set_option maxRecDepth 100000 in
theorem bc46_275_12 (call : QC FA) (x1 : Int32) (x2 : Int32) (x3 : Int32) (x4 : Int32) (s0 : Int32) (L : QH FA) (F : Nat) : rnG call 275 (F + 1) 97 [some (vR 0), some (vI x1), some (vI x2), some (vI x3), some (vI x4)] [vI s0] L = rnG call 275 F 98 [some (vR 0), some (vI s0), some (vI x2), some (vI x3), some (vI x4)] [] L := rfl
set_option maxRecDepth 100000 in
theorem bc46_275_13 (call : QC FA) (x1 : Int32) (x2 : Int32) (x3 : Int32) (x4 : Int32) (L : QH FA) (F : Nat) : rnG call 275 (F + 3) 50 [some (vR 0), some (vI x1), some (vI x2), some (vI x3), some (vI x4)] [] L = rnG call 275 F 53 [some (vR 0), some (vI x1), some (vI x2), some (vI x3), some (vI x4)] [vI x4, vI x2, vR 0] L := rfl
set_option maxRecDepth 100000 in
theorem bc46_275_14 (call : QC FA) (a0 : Int32) (a1 : Int32) (ls : List (Option PV)) (z : Nat → Int32) (f : Nat → FA) (F : Nat) : rnG call 275 (F + 1) 53 ls [vI a1, vI a0, vR 0] (LR z f) = cbd (call 45 [vR 0, vI a0, vI a1] (LR z f)) (fun r L' => rnG call 275 F 54 ls (r.toList ++ []) L') := pcY (ih := rnG call 275 F) (call := call) (a := 45) (b := 2) (v := 12) (t := 54) (x := 0) (ls := ls) (As := [vI a0, vI a1]) (st' := []) (L := LR z f) rfl rfl rfl
set_option maxRecDepth 100000 in
theorem bc46_275_15 (call : QC FA) (x : Int32) (ls : List (Option PV)) (L : QH FA) (F : Nat) : rnG call 275 (F + 1) 54 ls [vI x] L = bif pcmp 0 x 0 then rnG call 275 F 83 ls [] L else rnG call 275 F 55 ls [] L := rfl
set_option maxRecDepth 100000 in
theorem bc46_275_16 (call : QC FA) (x1 : Int32) (x2 : Int32) (x3 : Int32) (x4 : Int32) (L : QH FA) (F : Nat) : rnG call 275 (F + 1) 83 [some (vR 0), some (vI x1), some (vI x2), some (vI x3), some (vI x4)] [] L = rnG call 275 F 84 [some (vR 0), some (vI x1), some (vI x2), some (vI x3), some (vI (x4 + 1))] [] L := rfl
set_option maxRecDepth 100000 in
theorem bc46_275_17 (call : QC FA) (x1 : Int32) (x2 : Int32) (x3 : Int32) (x4 : Int32) (L : QH FA) (F : Nat) : rnG call 275 (F + 1) 84 [some (vR 0), some (vI x1), some (vI x2), some (vI x3), some (vI x4)] [] L = rnG call 275 F 46 [some (vR 0), some (vI x1), some (vI x2), some (vI x3), some (vI x4)] [] L := rfl
set_option maxRecDepth 100000 in
theorem bc46_275_18 (call : QC FA) (x1 : Int32) (x2 : Int32) (x3 : Int32) (x4 : Int32) (z : Nat → Int32) (f : Nat → FA) (F : Nat) : rnG call 275 (F + 9) 55 [some (vR 0), some (vI x1), some (vI x2), some (vI x3), some (vI x4)] [] (LR z f) = rnG call 275 F 64 [some (vR 0), some (vI x1), some (vI x2), some (vI x3), some (vI x4)] [vI (x2 &&& ((1 <<< (x4 &&& 31)) ^^^ ((-1)))), vR 35] (LR z f) := rfl
set_option maxRecDepth 100000 in
theorem bc46_275_19 (call : QC FA) (x : Int32) (ls : List (Option PV)) (z : Nat → Int32) (f : Nat → FA) (F : Nat) : rnG call 275 (F + 1) 64 ls [vI x, vR 35] (LR z f) = bif (Nat.beq 0 0 && pin x 256) then rnG call 275 F 65 ls [vI (f 35 (ix x))] (LR z f) else none := rfl
set_option maxRecDepth 100000 in
theorem bc46_275_20 (call : QC FA) (x1 : Int32) (x2 : Int32) (x3 : Int32) (x4 : Int32) (s0 : Int32) (L : QH FA) (F : Nat) : rnG call 275 (F + 1) 65 [some (vR 0), some (vI x1), some (vI x2), some (vI x3), some (vI x4)] [vI s0] L = rnG call 275 F 66 [some (vR 0), some (vI x1), some (vI x2), some (vI x3), some (vI x4)] [vI 1, vI s0] L := rfl
set_option maxRecDepth 100000 in
theorem bc46_275_21 (call : QC FA) (x y : Int32) (ls : List (Option PV)) (L : QH FA) (F : Nat) : rnG call 275 (F + 1) 66 ls [vI y, vI x] L = bif pcmp 1 x y then rnG call 275 F 83 ls [] L else rnG call 275 F 67 ls [] L := rfl
set_option maxRecDepth 100000 in
theorem bc46_275_22 (call : QC FA) (x1 : Int32) (x2 : Int32) (x3 : Int32) (x4 : Int32) (z : Nat → Int32) (f : Nat → FA) (F : Nat) : rnG call 275 (F + 3) 67 [some (vR 0), some (vI x1), some (vI x2), some (vI x3), some (vI x4)] [] (LR z f) = rnG call 275 F 70 [some (vR 0), some (vI x1), some (vI x2), some (vI x3), some (vI x4)] [vI x4, vR 34] (LR z f) := rfl
set_option maxRecDepth 100000 in
theorem bc46_275_23 (call : QC FA) (x : Int32) (ls : List (Option PV)) (z : Nat → Int32) (f : Nat → FA) (F : Nat) : rnG call 275 (F + 1) 70 ls [vI x, vR 34] (LR z f) = bif (Nat.beq 0 0 && pin x 8) then rnG call 275 F 71 ls [vI (f 34 (ix x))] (LR z f) else none := rfl
set_option maxRecDepth 100000 in
theorem bc46_275_24 (call : QC FA) (x1 : Int32) (x2 : Int32) (x3 : Int32) (x4 : Int32) (s0 : Int32) (z : Nat → Int32) (f : Nat → FA) (F : Nat) : rnG call 275 (F + 4) 71 [some (vR 0), some (vI x1), some (vI x2), some (vI x3), some (vI x4)] [vI s0] (LR z f) = rnG call 275 F 75 [some (vR 0), some (vI x1), some (vI x2), some (vI x3), some (vI x4)] [vI x4, vR 33, vI x3, vI s0] (LR z f) := rfl
set_option maxRecDepth 100000 in
theorem bc46_275_25 (call : QC FA) (x : Int32) (s0 : Int32) (s1 : Int32) (ls : List (Option PV)) (z : Nat → Int32) (f : Nat → FA) (F : Nat) : rnG call 275 (F + 1) 75 ls [vI x, vR 33, vI s0, vI s1] (LR z f) = bif (Nat.beq 0 0 && pin x 8) then rnG call 275 F 76 ls [vI (f 33 (ix x)), vI s0, vI s1] (LR z f) else none := rfl
set_option maxRecDepth 100000 in
theorem bc46_275_26 (call : QC FA) (x1 : Int32) (x2 : Int32) (x3 : Int32) (x4 : Int32) (s0 : Int32) (s1 : Int32) (s2 : Int32) (L : QH FA) (F : Nat) : rnG call 275 (F + 1) 76 [some (vR 0), some (vI x1), some (vI x2), some (vI x3), some (vI x4)] [vI s0, vI s1, vI s2] L = rnG call 275 F 77 [some (vR 0), some (vI x1), some (vI x2), some (vI x3), some (vI x4)] [vI (s1 - s0), vI s2] L := rfl
set_option maxRecDepth 100000 in
theorem bc46_275_27 (call : QC FA) (x y : Int32) (ls : List (Option PV)) (L : QH FA) (F : Nat) : rnG call 275 (F + 1) 77 ls [vI y, vI x] L = bif pcmp 2 x y then rnG call 275 F 83 ls [] L else rnG call 275 F 78 ls [] L := rfl
set_option maxRecDepth 100000 in
theorem bc46_275_28 (call : QC FA) (x1 : Int32) (x2 : Int32) (x3 : Int32) (x4 : Int32) (z : Nat → Int32) (f : Nat → FA) (F : Nat) : rnG call 275 (F + 4) 78 [some (vR 0), some (vI x1), some (vI x2), some (vI x3), some (vI x4)] [] (LR z f) = rnG call 275 F 82 [some (vR 0), some (vI x1), some (vI x2), some (vI x3), some (vI x4)] [vI 1, vI x2, vR 35] (LR z f) := rfl
set_option maxRecDepth 100000 in
theorem bc46_275_29 (call : QC FA) (x y : Int32) (ls : List (Option PV)) (z : Nat → Int32) (f : Nat → FA) (F : Nat) : rnG call 275 (F + 1) 82 ls [vI y, vI x, vR 35] (LR z f) = bif (Nat.beq 0 0 && pin x 256) then rnG call 275 F 83 ls [] (LR z (uA f 35 (upd (f 35) (ix x) y))) else none := rfl
theorem vcc46_275_46 (d : Nat) (x1 : Int32) (x2 : Int32) (x3 : Int32) (x4 : Int32) (z : Nat → Int32) (f : Nat → FA) (res : Option PV × QH FA) (H : ((I (z 57) ≤ I x4 → (pin x2 256 = true ∧ ((¬ f 35 (ix x2) = 1 → RC (mcall (d + 1)) (mP 275) 7 [some (vR 0), some (vI x1), some (vI (x2 + 1)), some (vI x3), some (vI x4)] [] (LR z f) res) ∧ (f 35 (ix x2) = 1 → (∃ (r1 : Int32) (z1 : Nat → Int32) (f1 : Nat → FA), (mcall (d + 1)) 245 [vR 0, vI x2] (LR z f) = some (some (vI r1), LR z1 f1) ∧ (∃ (r2 : Int32) (z2 : Nat → Int32) (f2 : Nat → FA), (mcall (d + 1)) 68 [vR 0, vI x1, vI r1] (LR z1 f1) = some (some (vI r2), LR z2 f2) ∧ RC (mcall (d + 1)) (mP 275) 7 [some (vR 0), some (vI r2), some (vI (x2 + 1)), some (vI x3), some (vI x4)] [] (LR z2 f2) res)))))) ∧ (I x4 < I (z 57) → (∃ (r3 : Int32) (z3 : Nat → Int32) (f3 : Nat → FA), (mcall (d + 1)) 45 [vR 0, vI x2, vI x4] (LR z f) = some (some (vI r3), LR z3 f3) ∧ ((r3 = 0 → RC (mcall (d + 1)) (mP 275) 46 [some (vR 0), some (vI x1), some (vI x2), some (vI x3), some (vI (x4 + 1))] [] (LR z3 f3) res) ∧ (¬ r3 = 0 → (pin (x2 &&& ((1 <<< (x4 &&& 31)) ^^^ ((-1)))) 256 = true ∧ ((¬ f3 35 (ix (x2 &&& ((1 <<< (x4 &&& 31)) ^^^ ((-1))))) = 1 → RC (mcall (d + 1)) (mP 275) 46 [some (vR 0), some (vI x1), some (vI x2), some (vI x3), some (vI (x4 + 1))] [] (LR z3 f3) res) ∧ (f3 35 (ix (x2 &&& ((1 <<< (x4 &&& 31)) ^^^ ((-1))))) = 1 → (pin x4 8 = true ∧ (pin x4 8 = true ∧ ((I (f3 34 (ix x4)) < I (x3 - (f3 33 (ix x4))) → RC (mcall (d + 1)) (mP 275) 46 [some (vR 0), some (vI x1), some (vI x2), some (vI x3), some (vI (x4 + 1))] [] (LR z3 f3) res) ∧ (I (x3 - (f3 33 (ix x4))) ≤ I (f3 34 (ix x4)) → (pin x2 256 = true ∧ RC (mcall (d + 1)) (mP 275) 46 [some (vR 0), some (vI x1), some (vI x2), some (vI x3), some (vI (x4 + 1))] [] (LR z3 (uA f3 35 (upd (f3 35) (ix x2) 1))) res)))))))))))))) : RC (mcall (d + 1)) (mP 275) 46 [some (vR 0), some (vI x1), some (vI x2), some (vI x3), some (vI x4)] [] (LR z f) res := by
  refine rc_b (i' := 49) (ls' := [some (vR 0), some (vI x1), some (vI x2), some (vI x3), some (vI x4)]) (st' := [vI (z 57), vI x4]) (L' := LR z f) 3 (bc46_275_1 (mcall (d + 1)) x1 x2 x3 x4 z f) ?_
  refine rc_if (it := 85) (ie := 50) (ls' := [some (vR 0), some (vI x1), some (vI x2), some (vI x3), some (vI x4)]) (st' := []) (bc46_275_2 (mcall (d + 1)) x4 (z 57) _ _) (fun q1 => ?_) (fun q1 => ?_)
  · have H := H.1 (cI3t q1 rfl rfl)
    refine rc_b (i' := 88) (ls' := [some (vR 0), some (vI x1), some (vI x2), some (vI x3), some (vI x4)]) (st' := [vI x2, vR 35]) (L' := LR z f) 3 (bc46_275_3 (mcall (d + 1)) x1 x2 x3 x4 z f) ?_
    obtain ⟨g1, H⟩ := H
    refine rc_g (i' := 89) (ls' := [some (vR 0), some (vI x1), some (vI x2), some (vI x3), some (vI x4)]) (st' := [vI (f 35 (ix x2))]) (L' := LR z f) (bc46_275_4 (mcall (d + 1)) x2 _ z f) (pinG g1) ?_
    refine rc_b (i' := 90) (ls' := [some (vR 0), some (vI x1), some (vI x2), some (vI x3), some (vI x4)]) (st' := [vI 1, vI (f 35 (ix x2))]) (L' := LR z f) 1 (bc46_275_5 (mcall (d + 1)) x1 x2 x3 x4 (f 35 (ix x2)) _) ?_
    refine rc_if (it := 98) (ie := 91) (ls' := [some (vR 0), some (vI x1), some (vI x2), some (vI x3), some (vI x4)]) (st' := []) (bc46_275_6 (mcall (d + 1)) (f 35 (ix x2)) 1 _ _) (fun q2 => ?_) (fun q2 => ?_)
    · have H := H.1 (cI1t q2)
      refine rc_b (i' := 99) (ls' := [some (vR 0), some (vI x1), some (vI (x2 + 1)), some (vI x3), some (vI x4)]) (st' := []) (L' := LR z f) 1 (bc46_275_7 (mcall (d + 1)) x1 x2 x3 x4 _) ?_
      refine rc_b (i' := 7) (ls' := [some (vR 0), some (vI x1), some (vI (x2 + 1)), some (vI x3), some (vI x4)]) (st' := []) (L' := LR z f) 1 (bc46_275_8 (mcall (d + 1)) x1 (x2 + 1) x3 x4 _) ?_
      exact H
    · have H := H.2 (cI1f q2)
      refine rc_b (i' := 95) (ls' := [some (vR 0), some (vI x1), some (vI x2), some (vI x3), some (vI x4)]) (st' := [vI x2, vR 0, vI x1, vR 0]) (L' := LR z f) 4 (bc46_275_9 (mcall (d + 1)) x1 x2 x3 x4 _) ?_
      obtain ⟨r1, z1, f1, hc, H⟩ := H
      refine rc_call (t := 96) (ls' := [some (vR 0), some (vI x1), some (vI x2), some (vI x3), some (vI x4)]) (st' := [vI x1, vR 0]) (bc46_275_10 (mcall (d + 1)) x2 x1 _ z f) hc ?_
      show RC (mcall (d + 1)) (mP 275) 96 [some (vR 0), some (vI x1), some (vI x2), some (vI x3), some (vI x4)] [vI r1, vI x1, vR 0] (LR z1 f1) res
      obtain ⟨r2, z2, f2, hc, H⟩ := H
      refine rc_call (t := 97) (ls' := [some (vR 0), some (vI x1), some (vI x2), some (vI x3), some (vI x4)]) (st' := []) (bc46_275_11 (mcall (d + 1)) x1 r1 _ z1 f1) hc ?_
      show RC (mcall (d + 1)) (mP 275) 97 [some (vR 0), some (vI x1), some (vI x2), some (vI x3), some (vI x4)] [vI r2] (LR z2 f2) res
      refine rc_b (i' := 98) (ls' := [some (vR 0), some (vI r2), some (vI x2), some (vI x3), some (vI x4)]) (st' := []) (L' := LR z2 f2) 1 (bc46_275_12 (mcall (d + 1)) x1 x2 x3 x4 r2 _) ?_
      refine rc_b (i' := 99) (ls' := [some (vR 0), some (vI r2), some (vI (x2 + 1)), some (vI x3), some (vI x4)]) (st' := []) (L' := LR z2 f2) 1 (bc46_275_7 (mcall (d + 1)) r2 x2 x3 x4 _) ?_
      refine rc_b (i' := 7) (ls' := [some (vR 0), some (vI r2), some (vI (x2 + 1)), some (vI x3), some (vI x4)]) (st' := []) (L' := LR z2 f2) 1 (bc46_275_8 (mcall (d + 1)) r2 (x2 + 1) x3 x4 _) ?_
      exact H
  · have H := H.2 (cI3f q1 rfl rfl)
    refine rc_b (i' := 53) (ls' := [some (vR 0), some (vI x1), some (vI x2), some (vI x3), some (vI x4)]) (st' := [vI x4, vI x2, vR 0]) (L' := LR z f) 3 (bc46_275_13 (mcall (d + 1)) x1 x2 x3 x4 _) ?_
    obtain ⟨r3, z3, f3, hc, H⟩ := H
    refine rc_call (t := 54) (ls' := [some (vR 0), some (vI x1), some (vI x2), some (vI x3), some (vI x4)]) (st' := []) (bc46_275_14 (mcall (d + 1)) x2 x4 _ z f) hc ?_
    show RC (mcall (d + 1)) (mP 275) 54 [some (vR 0), some (vI x1), some (vI x2), some (vI x3), some (vI x4)] [vI r3] (LR z3 f3) res
    refine rc_if (it := 83) (ie := 55) (ls' := [some (vR 0), some (vI x1), some (vI x2), some (vI x3), some (vI x4)]) (st' := []) (bc46_275_15 (mcall (d + 1)) r3 _ _) (fun q3 => ?_) (fun q3 => ?_)
    · have H := H.1 (cI0t q3)
      refine rc_b (i' := 84) (ls' := [some (vR 0), some (vI x1), some (vI x2), some (vI x3), some (vI (x4 + 1))]) (st' := []) (L' := LR z3 f3) 1 (bc46_275_16 (mcall (d + 1)) x1 x2 x3 x4 _) ?_
      refine rc_b (i' := 46) (ls' := [some (vR 0), some (vI x1), some (vI x2), some (vI x3), some (vI (x4 + 1))]) (st' := []) (L' := LR z3 f3) 1 (bc46_275_17 (mcall (d + 1)) x1 x2 x3 (x4 + 1) _) ?_
      exact H
    · have H := H.2 (cI0f q3)
      refine rc_b (i' := 64) (ls' := [some (vR 0), some (vI x1), some (vI x2), some (vI x3), some (vI x4)]) (st' := [vI (x2 &&& ((1 <<< (x4 &&& 31)) ^^^ ((-1)))), vR 35]) (L' := LR z3 f3) 9 (bc46_275_18 (mcall (d + 1)) x1 x2 x3 x4 z3 f3) ?_
      obtain ⟨g1, H⟩ := H
      refine rc_g (i' := 65) (ls' := [some (vR 0), some (vI x1), some (vI x2), some (vI x3), some (vI x4)]) (st' := [vI (f3 35 (ix (x2 &&& ((1 <<< (x4 &&& 31)) ^^^ ((-1))))))]) (L' := LR z3 f3) (bc46_275_19 (mcall (d + 1)) (x2 &&& ((1 <<< (x4 &&& 31)) ^^^ ((-1)))) _ z3 f3) (pinG g1) ?_
      refine rc_b (i' := 66) (ls' := [some (vR 0), some (vI x1), some (vI x2), some (vI x3), some (vI x4)]) (st' := [vI 1, vI (f3 35 (ix (x2 &&& ((1 <<< (x4 &&& 31)) ^^^ ((-1))))))]) (L' := LR z3 f3) 1 (bc46_275_20 (mcall (d + 1)) x1 x2 x3 x4 (f3 35 (ix (x2 &&& ((1 <<< (x4 &&& 31)) ^^^ ((-1)))))) _) ?_
      refine rc_if (it := 83) (ie := 67) (ls' := [some (vR 0), some (vI x1), some (vI x2), some (vI x3), some (vI x4)]) (st' := []) (bc46_275_21 (mcall (d + 1)) (f3 35 (ix (x2 &&& ((1 <<< (x4 &&& 31)) ^^^ ((-1)))))) 1 _ _) (fun q4 => ?_) (fun q4 => ?_)
      · have H := H.1 (cI1t q4)
        refine rc_b (i' := 84) (ls' := [some (vR 0), some (vI x1), some (vI x2), some (vI x3), some (vI (x4 + 1))]) (st' := []) (L' := LR z3 f3) 1 (bc46_275_16 (mcall (d + 1)) x1 x2 x3 x4 _) ?_
        refine rc_b (i' := 46) (ls' := [some (vR 0), some (vI x1), some (vI x2), some (vI x3), some (vI (x4 + 1))]) (st' := []) (L' := LR z3 f3) 1 (bc46_275_17 (mcall (d + 1)) x1 x2 x3 (x4 + 1) _) ?_
        exact H
      · have H := H.2 (cI1f q4)
        refine rc_b (i' := 70) (ls' := [some (vR 0), some (vI x1), some (vI x2), some (vI x3), some (vI x4)]) (st' := [vI x4, vR 34]) (L' := LR z3 f3) 3 (bc46_275_22 (mcall (d + 1)) x1 x2 x3 x4 z3 f3) ?_
        obtain ⟨g1, H⟩ := H
        refine rc_g (i' := 71) (ls' := [some (vR 0), some (vI x1), some (vI x2), some (vI x3), some (vI x4)]) (st' := [vI (f3 34 (ix x4))]) (L' := LR z3 f3) (bc46_275_23 (mcall (d + 1)) x4 _ z3 f3) (pinG g1) ?_
        refine rc_b (i' := 75) (ls' := [some (vR 0), some (vI x1), some (vI x2), some (vI x3), some (vI x4)]) (st' := [vI x4, vR 33, vI x3, vI (f3 34 (ix x4))]) (L' := LR z3 f3) 4 (bc46_275_24 (mcall (d + 1)) x1 x2 x3 x4 (f3 34 (ix x4)) z3 f3) ?_
        obtain ⟨g1, H⟩ := H
        refine rc_g (i' := 76) (ls' := [some (vR 0), some (vI x1), some (vI x2), some (vI x3), some (vI x4)]) (st' := [vI (f3 33 (ix x4)), vI x3, vI (f3 34 (ix x4))]) (L' := LR z3 f3) (bc46_275_25 (mcall (d + 1)) x4 x3 (f3 34 (ix x4)) _ z3 f3) (pinG g1) ?_
        refine rc_b (i' := 77) (ls' := [some (vR 0), some (vI x1), some (vI x2), some (vI x3), some (vI x4)]) (st' := [vI (x3 - (f3 33 (ix x4))), vI (f3 34 (ix x4))]) (L' := LR z3 f3) 1 (bc46_275_26 (mcall (d + 1)) x1 x2 x3 x4 (f3 33 (ix x4)) x3 (f3 34 (ix x4)) _) ?_
        refine rc_if (it := 83) (ie := 78) (ls' := [some (vR 0), some (vI x1), some (vI x2), some (vI x3), some (vI x4)]) (st' := []) (bc46_275_27 (mcall (d + 1)) (f3 34 (ix x4)) (x3 - (f3 33 (ix x4))) _ _) (fun q5 => ?_) (fun q5 => ?_)
        · have H := H.1 (cI2t q5 rfl rfl)
          refine rc_b (i' := 84) (ls' := [some (vR 0), some (vI x1), some (vI x2), some (vI x3), some (vI (x4 + 1))]) (st' := []) (L' := LR z3 f3) 1 (bc46_275_16 (mcall (d + 1)) x1 x2 x3 x4 _) ?_
          refine rc_b (i' := 46) (ls' := [some (vR 0), some (vI x1), some (vI x2), some (vI x3), some (vI (x4 + 1))]) (st' := []) (L' := LR z3 f3) 1 (bc46_275_17 (mcall (d + 1)) x1 x2 x3 (x4 + 1) _) ?_
          exact H
        · have H := H.2 (cI2f q5 rfl rfl)
          refine rc_b (i' := 82) (ls' := [some (vR 0), some (vI x1), some (vI x2), some (vI x3), some (vI x4)]) (st' := [vI 1, vI x2, vR 35]) (L' := LR z3 f3) 4 (bc46_275_28 (mcall (d + 1)) x1 x2 x3 x4 z3 f3) ?_
          obtain ⟨g1, H⟩ := H
          refine rc_g (i' := 83) (ls' := [some (vR 0), some (vI x1), some (vI x2), some (vI x3), some (vI x4)]) (st' := []) (L' := LR z3 (uA f3 35 (upd (f3 35) (ix x2) 1))) (bc46_275_29 (mcall (d + 1)) x2 1 _ z3 f3) (pinG g1) ?_
          refine rc_b (i' := 84) (ls' := [some (vR 0), some (vI x1), some (vI x2), some (vI x3), some (vI (x4 + 1))]) (st' := []) (L' := LR z3 (uA f3 35 (upd (f3 35) (ix x2) 1))) 1 (bc46_275_16 (mcall (d + 1)) x1 x2 x3 x4 _) ?_
          refine rc_b (i' := 46) (ls' := [some (vR 0), some (vI x1), some (vI x2), some (vI x3), some (vI (x4 + 1))]) (st' := []) (L' := LR z3 (uA f3 35 (upd (f3 35) (ix x2) 1))) 1 (bc46_275_17 (mcall (d + 1)) x1 x2 x3 (x4 + 1) _) ?_
          exact H
theorem ms17 (d : Nat) (x1 : Int32) {z : Nat → Int32} {f : Nat → FA} {n s : Nat} {w : Nat → Nat} (hz : z 57 = nI n) (hn : n ≤ 8) (hw : ∀ j, j < n → f 33 j = nI (w j)) (hs : s < 256) : ∀ t i, i + t = n → ∀ res, RC (mcall (d + 1)) (mP 275) 46 [some (vR 0), some (vI x1), some (vI (nI s)), some (vI (nI (Wn w s n))), some (vI 0)] [] (LR z (uA f 35 (upd (f 35) s (if s = 0 then 1 else 0)))) res → RC (mcall (d + 1)) (mP 275) 17 [some (vR 0), some (vI x1), some (vI (nI s)), some (vI (nI (Wn w s i))), some (vI (nI i))] [] (LR z f) res := by
  intro t
  induction t with
  | zero =>
    intro i hi res h
    obtain rfl : i = n := by omega
    have ps : pin (nI s) 256 = true := pin_nI (by omega) (by omega)
    refine vcc17_275_17 d _ _ _ _ _ _ _ ⟨fun _ => ⟨fun q => ⟨ps, ?_⟩, fun q => ⟨ps, ?_⟩⟩, fun q => by rw [hz] at q; omega⟩
    · have h0 : ¬ s = 0 := fun c => q (by rw [c]; rfl)
      rw [if_neg h0] at h
      rw [ix_nI (j := s) (by omega)]
      exact h
    · have h0 : s = 0 := nI_inj (by omega) (by omega) (show nI s = nI 0 from q)
      rw [if_pos h0] at h
      rw [ix_nI (j := s) (by omega)]
      exact h
  | succ t ih =>
    intro i hi res h
    have h1 := ih (i + 1) (by omega) res h
    have pi : pin (nI i) 8 = true := pin_nI (by omega) (by omega)
    refine vcc17_275_17 d _ _ _ _ _ _ _ ⟨fun q => ?_, fun _ => ⟨_, _, _, has_r d s i hs (by omega) z f, fun q => ?_, fun q => ⟨pi, ?_⟩⟩⟩
    · rw [hz, I_nI (n := n) (by omega), I_nI (n := i) (by omega)] at q
      omega
    · have hb : ¬ bt s i = true := fun c => by
        rw [if_pos c] at q
        exact absurd q (by decide)
      rw [show Wn w s (i + 1) = Wn w s i from by
        show Wn w s i + (if bt s i = true then w i else 0) = Wn w s i
        rw [if_neg hb]
        rfl, ← nI_add i 1] at h1
      exact h1
    · have hb : bt s i = true := by
        by_cases c : bt s i = true
        · exact c
        · rw [if_neg c] at q
          exact absurd rfl q
      rw [show Wn w s (i + 1) = Wn w s i + w i from by
        show Wn w s i + (if bt s i = true then w i else 0) = Wn w s i + w i
        rw [if_pos hb], ← nI_add i 1, ← nI_add (Wn w s i)] at h1
      rw [ix_nI (j := i) (by omega), hw i (by omega)]
      exact h1
def RowM (w b : Nat → Nat) (n m : Nat) (g : FA) : Prop := ∀ s, s < m → g s = if stk w b n s = true then 1 else 0
theorem ms46 (d : Nat) (x1 : Int32) {z : Nat → Int32} {f : Nat → FA} {n s : Nat} {w b : Nat → Nat} (hz : z 57 = nI n) (hn : n ≤ 8) (hw : ∀ j, j < n → f 33 j = nI (w j)) (hb' : ∀ j, j < n → f 34 j = nI (b j)) (hl : ∀ j, j < n → 1 ≤ w j ∧ w j ≤ 50 ∧ b j ≤ 200) (hs : s < 256) : ∀ t i, i + t = n → ∀ g, RowM w b n s g → g s = (if (decide (s = 0) || exB (lwB w b n s) i) = true then 1 else 0) → ∃ g', RowM w b n s g' ∧ g' s = (if (decide (s = 0) || exB (lwB w b n s) n) = true then 1 else 0) ∧ ∀ res, RC (mcall (d + 1)) (mP 275) 46 [some (vR 0), some (vI x1), some (vI (nI s)), some (vI (nI (Wn w s n))), some (vI (nI n))] [] (LR z (uA f 35 g')) res → RC (mcall (d + 1)) (mP 275) 46 [some (vR 0), some (vI x1), some (vI (nI s)), some (vI (nI (Wn w s n))), some (vI (nI i))] [] (LR z (uA f 35 g)) res := by
  intro t
  induction t with
  | zero =>
    intro i hi g h1 h2
    obtain rfl : i = n := by omega
    exact ⟨g, h1, h2, fun res h => h⟩
  | succ t ih =>
    intro i hi g h1 h2
    have ec := rb_code s hs i (by omega)
    have rle : rb s i ≤ s := by
      unfold rb
      split
      · exact Nat.sub_le _ _
      · exact Nat.le_refl _
    have hin : ¬ I (z 57) ≤ I (nI i) := by rw [hz, I_nI (n := n) (by omega), I_nI (n := i) (by omega)]; omega
    have ps : pin (nI s) 256 = true := pin_nI (by omega) (by omega)
    have pi : pin (nI i) 8 = true := pin_nI (by omega) (by omega)
    have xi : ix (nI i) = i := ix_nI (by omega)
    have pr : pin (nI (rb s i)) 256 = true := pin_nI (by omega) (by omega)
    have xr : ix (nI (rb s i)) = rb s i := ix_nI (by omega)
    have hh := has_r d s i hs (by omega) z (uA f 35 g)
    have same : lwB w b n s i = false → g s = (if (decide (s = 0) || exB (lwB w b n s) (i + 1)) = true then 1 else 0) := fun hl => by
      show _ = if (decide (s = 0) || (exB (lwB w b n s) i || lwB w b n s i)) = true then _ else _
      rw [hl, Bool.or_false]
      exact h2
    have e1 : nI i + 1 = nI (i + 1) := nI_add i 1
    cases hb : bt s i with
    | false =>
      rw [hb, if_neg (by decide)] at hh
      obtain ⟨g', k1, k2, k3⟩ := ih (i + 1) (by omega) g h1 (same (by
        unfold lwB
        rw [hb]
        rfl))
      refine ⟨g', k1, k2, fun res h => vcc46_275_46 d _ _ _ _ _ _ _ ⟨fun q => absurd q hin, fun _ => ⟨_, _, _, hh, fun _ => ?_, fun q => absurd rfl q⟩⟩⟩
      rw [e1]
      exact k3 res h
    | true =>
      rw [hb, if_pos rfl] at hh
      obtain ⟨r1, r2, r3⟩ := rb_lt s hs i (by omega) hb
      have gr := h1 (rb s i) r1
      have wle := Wn_le (w := w) (s := rb s i) n (fun i hi => (hl i hi).2.1)
      have wrb := Wn_rb (w := w) hs (by omega) hb n hn (by omega)
      cases hst : stk w b n (rb s i) with
      | false =>
        rw [hst, if_neg (by decide)] at gr
        obtain ⟨g', k1, k2, k3⟩ := ih (i + 1) (by omega) g h1 (same (by
          unfold lwB
          rw [hst, Bool.false_and, Bool.and_false]))
        refine ⟨g', k1, k2, fun res h => vcc46_275_46 d _ _ _ _ _ _ _ ⟨fun q => absurd q hin, fun _ => ⟨_, _, _, hh, fun q => absurd q (by decide), fun _ => ?_⟩⟩⟩
        rw [ec, uA_self, xr, gr, e1]
        exact ⟨pr, fun _ => k3 res h, fun q => absurd q (by decide)⟩
      | true =>
        rw [hst, if_pos rfl] at gr
        by_cases hw2 : Wn w (rb s i) n ≤ b i
        · obtain ⟨g', k1, k2, k3⟩ := ih (i + 1) (by omega) (upd g s 1) (fun s' hs' => by rw [pk_un (by omega)]; exact h1 s' hs') (by
            rw [pk_us]
            show _ = if (decide (s = 0) || (exB (lwB w b n s) i || lwB w b n s i)) = true then _ else _
            rw [show lwB w b n s i = true from by
              unfold lwB
              rw [hb, hst, decide_eq_true hw2]
              rfl, Bool.or_true, Bool.or_true, if_pos rfl])
          refine ⟨g', k1, k2, fun res h => vcc46_275_46 d _ _ _ _ _ _ _ ⟨fun q => absurd q hin, fun _ => ⟨_, _, _, hh, fun q => absurd q (by decide), fun _ => ?_⟩⟩⟩
          rw [ec, uA_self, xr, gr, e1, xi, uA_ne (show (34 : Nat) ≠ 35 by decide), uA_ne (show (33 : Nat) ≠ 35 by decide), hw i (by omega), hb' i (by omega), wrb, nI_sub (show w i ≤ Wn w (rb s i) n + w i by omega), Nat.add_sub_cancel, uA_uA, ix_nI (j := s) (by omega)]
          refine ⟨pr, fun q => absurd rfl q, fun _ => ⟨pi, pi, fun q => ?_, fun _ => ⟨ps, ?_⟩⟩⟩
          · rw [I_nI (n := Wn w (rb s i) n) (by omega), I_nI (n := b i) (by have := (hl i (by omega)).2.2; omega)] at q
            omega
          · rw [wrb] at k3
            exact k3 res (by rw [wrb] at h; exact h)
        · obtain ⟨g', k1, k2, k3⟩ := ih (i + 1) (by omega) g h1 (same (by
            unfold lwB
            rw [decide_eq_false hw2, Bool.and_false, Bool.and_false]))
          refine ⟨g', k1, k2, fun res h => vcc46_275_46 d _ _ _ _ _ _ _ ⟨fun q => absurd q hin, fun _ => ⟨_, _, _, hh, fun q => absurd q (by decide), fun _ => ?_⟩⟩⟩
          rw [ec, uA_self, xr, gr, e1, xi, uA_ne (show (34 : Nat) ≠ 35 by decide), uA_ne (show (33 : Nat) ≠ 35 by decide), hw i (by omega), hb' i (by omega), wrb, nI_sub (show w i ≤ Wn w (rb s i) n + w i by omega), Nat.add_sub_cancel]
          refine ⟨pr, fun q => absurd rfl q, fun _ => ⟨pi, pi, fun _ => ?_, fun q => ?_⟩⟩
          · rw [wrb] at k3
            exact k3 res (by rw [wrb] at h; exact h)
          · rw [I_nI (n := Wn w (rb s i) n) (by omega), I_nI (n := b i) (by have := (hl i (by omega)).2.2; omega)] at q
            omega
theorem ms7 (d : Nat) {z : Nat → Int32} {f : Nat → FA} {n : Nat} {w b : Nat → Nat} (hz : z 57 = nI n) (hn : n ≤ 8) (hw : ∀ j, j < n → f 33 j = nI (w j)) (hb' : ∀ j, j < n → f 34 j = nI (b j)) (hl : ∀ j, j < n → 1 ≤ w j ∧ w j ≤ 50 ∧ b j ≤ 200) : ∀ t s, s + t = 2 ^ n → ∀ g, RowM w b n s g → ∀ o3 o4, ∃ g', RC (mcall (d + 1)) (mP 275) 7 [some (vR 0), some (vI (nI (mxs (stk w b n) s))), some (vI (nI s)), o3, o4] [] (LR z (uA f 35 g)) (some (vI (nI (mxs (stk w b n) (2 ^ n)))), LR z (uA f 35 g')) := by
  have p2 := p2_le n (by omega)
  intro t
  induction t with
  | zero =>
    intro s hs g hg o3 o4
    obtain rfl : s = 2 ^ n := by omega
    exact ⟨g, vcc7_275_7 d _ _ _ _ _ _ _ ⟨fun _ => rfl, fun q => by rw [hz, sh_code n (by omega)] at q; omega⟩⟩
  | succ t ih =>
    intro s hs g hg o3 o4
    have s256 : s < 256 := by omega
    have ps : pin (nI s) 256 = true := pin_nI (by omega) (by omega)
    have xs : ix (nI s) = s := ix_nI (by omega)
    obtain ⟨g1, k1, k2, k3⟩ := ms46 d (nI (mxs (stk w b n) s)) hz hn hw hb' hl s256 n 0 (by omega) (upd g s (if s = 0 then 1 else 0)) (fun s' hs' => by rw [pk_un (by omega)]; exact hg s' hs') (by
      rw [pk_us]
      show _ = if (decide (s = 0) || false) = true then _ else _
      rw [Bool.or_false]
      by_cases c : s = 0
      · rw [if_pos c, if_pos (decide_eq_true c)]
      · rw [if_neg c, if_neg (by rw [decide_eq_false c]; decide)])
    rw [← stk_eq hn s s256] at k2
    have hg1 : RowM w b n (s + 1) g1 := fun s' hs' => by
      by_cases q : s' = s
      · subst q
        exact k2
      · exact k1 s' (by omega)
    obtain ⟨g', k4⟩ := ih (s + 1) (by omega) g1 hg1 (some (vI (nI (Wn w s n)))) (some (vI (nI n)))
    refine ⟨g', vcc7_275_7 d _ _ _ _ _ _ _ ⟨fun q => ?_, fun _ => ?_⟩⟩
    · rw [hz, sh_code n (by omega), I_nI (n := 2 ^ n) (by omega), I_nI (n := s) (by omega)] at q
      omega
    · refine ms17 d _ hz hn (f := uA f 35 g) (fun j hj => by rw [uA_ne (show (33 : Nat) ≠ 35 by decide)]; exact hw j hj) s256 n 0 (by omega) _ ?_
      rw [uA_uA, uA_self]
      refine k3 _ (vcc46_275_46 d _ _ _ _ _ _ _ ⟨fun _ => ⟨ps, fun q => ?_, fun q => ⟨_, _, _, ones_r (d) s s256 _ _, _, _, _, greater_x d _ _ _ _, ?_⟩⟩, fun q => by rw [hz] at q; omega⟩)
      · rw [uA_self, xs, k2] at q
        have hf : ¬ stk w b n s = true := fun c => q (by rw [if_pos c])
        rw [show mxs (stk w b n) (s + 1) = mxs (stk w b n) s from if_neg hf, ← nI_add s 1] at k4
        exact k4
      · rw [uA_self, xs, k2] at q
        have ht : stk w b n s = true := by
          by_cases c : stk w b n s = true
          · exact c
          · rw [if_neg c] at q
            exact absurd q (by decide)
        have m1 := mxs_le (stk w b n) s
        have pl := pcN_le s
        rw [show mxs (stk w b n) (s + 1) = max (mxs (stk w b n) s) (pcN s) from if_pos ht, ← nI_add s 1] at k4
        rw [show (if I (nI (pcN s)) < I (nI (mxs (stk w b n) s)) then nI (mxs (stk w b n) s) else nI (pcN s)) = nI (max (mxs (stk w b n) s) (pcN s)) from by
          rw [I_nI (n := mxs (stk w b n) s) (by omega), I_nI (n := pcN s) (by omega)]
          by_cases c : ((pcN s : Nat) : Int) < (mxs (stk w b n) s : Nat)
          · rw [if_pos c]
            congr 1
            omega
          · rw [if_neg c]
            congr 1
            omega]
        exact k4
theorem m_stack (d : Nat) {z : Nat → Int32} {f : Nat → FA} {n : Nat} {w b : Nat → Nat} (hz : z 57 = nI n) (hn : n ≤ 8) (hw : ∀ j, j < n → f 33 j = nI (w j)) (hb' : ∀ j, j < n → f 34 j = nI (b j)) (hl : ∀ j, j < n → 1 ≤ w j ∧ w j ≤ 50 ∧ b j ≤ 200) : ∃ f1, (∀ k, k ≠ 35 → f1 k = f k) ∧ mcall (d + 2) 275 [vR 0] (LR z f) = some (some (vI (nI (mxs (stk w b n) (2 ^ n)))), LR (uZ z 0 0) f1) := by
  obtain ⟨g', k1⟩ := ms7 d (z := uZ z 0 0) (f := f) (by rw [uZ_n (by decide)]; exact hz) hn hw hb' hl (2 ^ n) 0 (by omega) (f 35) (fun s hs => absurd hs (Nat.not_lt_zero s)) none none
  rw [uA_id rfl] at k1
  exact ⟨uA f 35 g', fun k hk => uA_ne hk, mcall_i (mq275 (cu := [])).2.2 rfl (vc275_0 d none none none none z f _ k1)⟩
theorem TA_f {zc : Nat → Int32} {fc : Nat → FA} {zm : Nat → Int32} {fm fm1 : Nat → FA} (h : TA zc fc zm fm) (hf : ∀ k N, (k, N) ∈ MKt → fm1 k = fm k) : TA zc fc zm fm1 := h.cong (fun _ _ => rfl) (fun _ _ _ _ _ _ _ => rfl) (fun _ _ => rfl) (fun k N hk _ _ => by rw [hf k N hk])
theorem tq_stack (l : Launch) (G : PG) {nc nm : Nat} {h : PH} (hI : LIY TP nc nm h) : PRY TP l G nc nm h 177 3 275 2 [] := by
  obtain ⟨lam, b, u, z, f, zm, fm, hB, hR, hM, hT, hX⟩ := TP_link hI
  obtain ⟨m, hm, e1, e2, e3⟩ : DLs (z 13) (f 14) (zm 57) (fm 33) (fm 34) := hT 5 (by decide)
  have ex : ∀ j, ∃ q : Nat × Nat, j < m → 1 ≤ q.1 ∧ q.1 ≤ 50 ∧ q.2 ≤ 200 ∧ f 14 j = nI (q.1 * 256 + q.2) ∧ fm 33 j = nI q.1 ∧ fm 34 j = nI q.2 := by
    intro j
    by_cases hj : j < m
    · obtain ⟨w, b, h1⟩ := e3 j hj
      exact ⟨(w, b), fun _ => h1⟩
    · exact ⟨(0, 0), fun q => absurd q hj⟩
  obtain ⟨F, hF⟩ := Classical.axiomOfChoice ex
  obtain ⟨f1, hf1, hc⟩ := c_stack (u := u) 0 (w := fun j => (F j).1) (b := fun j => (F j).2) e1 hm (fun j hj => ⟨(hF j hj).1, (hF j hj).2.1, (hF j hj).2.2.1, (hF j hj).2.2.2.1⟩)
  obtain ⟨g1, hg1, r⟩ := m_stack 0 (w := fun j => (F j).1) (b := fun j => (F j).2) e2 hm (fun j hj => (hF j hj).2.2.2.2.1) (fun j hj => (hF j hj).2.2.2.2.2) (fun j hj => ⟨(hF j hj).1, (hF j hj).2.1, (hF j hj).2.2.1⟩)
  have ht : TA (fun i => z (3 + 2 * i)) (fun i => f1 (4 + 2 * i)) (uZ zm 0 0) g1 := by
    have h1 := TA_f (TA_0 hT) (fm1 := g1) (fun k N hk => hg1 k (by
      have : ∀ e, e ∈ MKt → e.1 ≠ 35 := by decide
      exact this _ hk))
    intro i hi
    show TQ i (z (3 + 2 * i)) (f1 (4 + 2 * i)) (uZ zm 0 0) g1
    rw [hf1 (4 + 2 * i) (by omega)]
    exact h1 i hi
  exact tp_pair l G hB hR hM hX (kc_q190_ok l G lam hB.2.1) (kr_q52_ok l G _ (lamM_r nm) _ (EXK_of (lamM_r nm))) (As := []) hc r ht (by decide +kernel) (by decide +kernel) ⟨by rw [show nc = lam 0 from (hB.2.2.1 0 (by decide)).symm]; rfl, trivial⟩ ⟨rfl, trivial⟩ rfl
