/-! goes: the reference -/
set_option maxRecDepth 100000 in
theorem b281_1 (call : QC FA) (o1 : Option PV) (L : QH FA) (F : Nat) : rnG call 281 (F + 2) 0 [some (vR 0), o1] [] L = rnG call 281 F 2 [some (vR 0), some (vI 0)] [] L := rfl
theorem vc281_0 (d : Nat) (o1 : Option PV) (z : Nat → Int32) (f : Nat → FA) (res : Option PV × QH FA) (H : RC (mcall (d + 1)) (mP 281) 2 [some (vR 0), some (vI 0)] [] (LR z f) res) : RC (mcall (d + 1)) (mP 281) 0 [some (vR 0), o1] [] (LR z f) res := by
  refine rc_b (i' := 2) (ls' := [some (vR 0), some (vI 0)]) (st' := []) (L' := LR z f) 2 (b281_1 (mcall (d + 1)) o1 _) ?_
  exact H
set_option maxRecDepth 100000 in
theorem bc2_281_1 (call : QC FA) (x1 : Int32) (L : QH FA) (F : Nat) : rnG call 281 (F + 2) 2 [some (vR 0), some (vI x1)] [] L = rnG call 281 F 4 [some (vR 0), some (vI x1)] [vI 499, vI x1] L := rfl
set_option maxRecDepth 100000 in
theorem bc2_281_2 (call : QC FA) (x y : Int32) (ls : List (Option PV)) (L : QH FA) (F : Nat) : rnG call 281 (F + 1) 4 ls [vI y, vI x] L = bif pcmp 3 x y then rnG call 281 F 15 ls [] L else rnG call 281 F 5 ls [] L := rfl
set_option maxRecDepth 100000 in
theorem bc2_281_3 (call : QC FA) (x1 : Int32) (L : QH FA) (F : Nat) : rnG call 281 (F + 2) 15 [some (vR 0), some (vI x1)] [] L = rnG call 281 F 17 [some (vR 0), some (vI x1)] [vI 1, vR 0] L := rfl
set_option maxRecDepth 100000 in
theorem bc2_281_4 (call : QC FA) (y : Int32) (ls : List (Option PV)) (z : Nat → Int32) (f : Nat → FA) (F : Nat) : rnG call 281 (F + 1) 17 ls [vI y, vR 0] (LR z f) = bif (pcmp 0 y 0 || pcmp 0 y 1) then rnG call 281 F 18 ls [] (LR (uZ z 5 y) f) else none := rfl
set_option maxRecDepth 100000 in
theorem bc2_281_5 (call : QC FA) (ls : List (Option PV)) (L : QH FA) (F : Nat) : rnG call 281 (F + 1) 18 ls [] L = some (none, L) := rfl
set_option maxRecDepth 100000 in
theorem bc2_281_6 (call : QC FA) (x1 : Int32) (z : Nat → Int32) (f : Nat → FA) (F : Nat) : rnG call 281 (F + 6) 5 [some (vR 0), some (vI x1)] [] (LR z f) = rnG call 281 F 11 [some (vR 0), some (vI x1)] [vI x1, vR 1, vI x1, vR 3] (LR z f) := rfl
set_option maxRecDepth 100000 in
theorem bc2_281_7 (call : QC FA) (x : Int32) (s0 : Int32) (ls : List (Option PV)) (z : Nat → Int32) (f : Nat → FA) (F : Nat) : rnG call 281 (F + 1) 11 ls [vI x, vR 1, vI s0, vR 3] (LR z f) = bif (Nat.beq 0 0 && pin x 499) then rnG call 281 F 12 ls [vI (f 1 (ix x)), vI s0, vR 3] (LR z f) else none := rfl
set_option maxRecDepth 100000 in
theorem bc2_281_8 (call : QC FA) (x y : Int32) (ls : List (Option PV)) (z : Nat → Int32) (f : Nat → FA) (F : Nat) : rnG call 281 (F + 1) 12 ls [vI y, vI x, vR 3] (LR z f) = bif (Nat.beq 0 0 && pin x 499) then rnG call 281 F 13 ls [] (LR z (uA f 3 (upd (f 3) (ix x) y))) else none := rfl
set_option maxRecDepth 100000 in
theorem bc2_281_9 (call : QC FA) (x1 : Int32) (L : QH FA) (F : Nat) : rnG call 281 (F + 1) 13 [some (vR 0), some (vI x1)] [] L = rnG call 281 F 14 [some (vR 0), some (vI (x1 + 1))] [] L := rfl
set_option maxRecDepth 100000 in
theorem bc2_281_10 (call : QC FA) (x1 : Int32) (L : QH FA) (F : Nat) : rnG call 281 (F + 1) 14 [some (vR 0), some (vI x1)] [] L = rnG call 281 F 2 [some (vR 0), some (vI x1)] [] L := rfl
theorem vcc2_281_2 (d : Nat) (x1 : Int32) (z : Nat → Int32) (f : Nat → FA) (res : Option PV × QH FA) (H : ((499 ≤ I x1 → (((1 : Int32) = 0 ∨ (1 : Int32) = 1) ∧ res = (none, LR (uZ z 5 1) f))) ∧ (I x1 < 499 → (pin x1 499 = true ∧ (pin x1 499 = true ∧ RC (mcall (d + 1)) (mP 281) 2 [some (vR 0), some (vI (x1 + 1))] [] (LR z (uA f 3 (upd (f 3) (ix x1) (f 1 (ix x1))))) res))))) : RC (mcall (d + 1)) (mP 281) 2 [some (vR 0), some (vI x1)] [] (LR z f) res := by
  refine rc_b (i' := 4) (ls' := [some (vR 0), some (vI x1)]) (st' := [vI 499, vI x1]) (L' := LR z f) 2 (bc2_281_1 (mcall (d + 1)) x1 _) ?_
  refine rc_if (it := 15) (ie := 5) (ls' := [some (vR 0), some (vI x1)]) (st' := []) (bc2_281_2 (mcall (d + 1)) x1 499 _ _) (fun q1 => ?_) (fun q1 => ?_)
  · have H := H.1 (cI3t q1 rfl rfl)
    refine rc_b (i' := 17) (ls' := [some (vR 0), some (vI x1)]) (st' := [vI 1, vR 0]) (L' := LR z f) 2 (bc2_281_3 (mcall (d + 1)) x1 _) ?_
    obtain ⟨g1, H⟩ := H
    refine rc_g (i' := 18) (ls' := [some (vR 0), some (vI x1)]) (st' := []) (L' := LR (uZ z 5 1) f) (bc2_281_4 (mcall (d + 1)) 1 _ z f) (zG g1) ?_
    subst H
    exact rc_ret (bc2_281_5 (mcall (d + 1)) _ _)
  · have H := H.2 (cI3f q1 rfl rfl)
    refine rc_b (i' := 11) (ls' := [some (vR 0), some (vI x1)]) (st' := [vI x1, vR 1, vI x1, vR 3]) (L' := LR z f) 6 (bc2_281_6 (mcall (d + 1)) x1 z f) ?_
    obtain ⟨g1, H⟩ := H
    refine rc_g (i' := 12) (ls' := [some (vR 0), some (vI x1)]) (st' := [vI (f 1 (ix x1)), vI x1, vR 3]) (L' := LR z f) (bc2_281_7 (mcall (d + 1)) x1 x1 _ z f) (pinG g1) ?_
    obtain ⟨g1, H⟩ := H
    refine rc_g (i' := 13) (ls' := [some (vR 0), some (vI x1)]) (st' := []) (L' := LR z (uA f 3 (upd (f 3) (ix x1) (f 1 (ix x1))))) (bc2_281_8 (mcall (d + 1)) x1 (f 1 (ix x1)) _ z f) (pinG g1) ?_
    refine rc_b (i' := 14) (ls' := [some (vR 0), some (vI (x1 + 1))]) (st' := []) (L' := LR z (uA f 3 (upd (f 3) (ix x1) (f 1 (ix x1))))) 1 (bc2_281_9 (mcall (d + 1)) x1 _) ?_
    refine rc_b (i' := 2) (ls' := [some (vR 0), some (vI (x1 + 1))]) (st' := []) (L' := LR z (uA f 3 (upd (f 3) (ix x1) (f 1 (ix x1))))) 1 (bc2_281_10 (mcall (d + 1)) (x1 + 1) _) ?_
    exact H
set_option maxRecDepth 100000 in
theorem b207_1 (call : QC FA) (o1 : Option PV) (L : QH FA) (F : Nat) : rnG call 207 (F + 2) 0 [some (vR 0), o1] [] L = rnG call 207 F 2 [some (vR 0), some (vI 0)] [] L := rfl
theorem vc207_0 (d : Nat) (o1 : Option PV) (z : Nat → Int32) (f : Nat → FA) (res : Option PV × QH FA) (H : RC (mcall (d + 1)) (mP 207) 2 [some (vR 0), some (vI 0)] [] (LR z f) res) : RC (mcall (d + 1)) (mP 207) 0 [some (vR 0), o1] [] (LR z f) res := by
  refine rc_b (i' := 2) (ls' := [some (vR 0), some (vI 0)]) (st' := []) (L' := LR z f) 2 (b207_1 (mcall (d + 1)) o1 _) ?_
  exact H
set_option maxRecDepth 100000 in
theorem bc2_207_1 (call : QC FA) (x1 : Int32) (L : QH FA) (F : Nat) : rnG call 207 (F + 2) 2 [some (vR 0), some (vI x1)] [] L = rnG call 207 F 4 [some (vR 0), some (vI x1)] [vI 499, vI x1] L := rfl
set_option maxRecDepth 100000 in
theorem bc2_207_2 (call : QC FA) (x y : Int32) (ls : List (Option PV)) (L : QH FA) (F : Nat) : rnG call 207 (F + 1) 4 ls [vI y, vI x] L = bif pcmp 3 x y then rnG call 207 F 15 ls [] L else rnG call 207 F 5 ls [] L := rfl
set_option maxRecDepth 100000 in
theorem bc2_207_3 (call : QC FA) (x1 : Int32) (L : QH FA) (F : Nat) : rnG call 207 (F + 2) 15 [some (vR 0), some (vI x1)] [] L = rnG call 207 F 17 [some (vR 0), some (vI x1)] [vI 0, vR 0] L := rfl
set_option maxRecDepth 100000 in
theorem bc2_207_4 (call : QC FA) (y : Int32) (ls : List (Option PV)) (z : Nat → Int32) (f : Nat → FA) (F : Nat) : rnG call 207 (F + 1) 17 ls [vI y, vR 0] (LR z f) = bif (pcmp 0 y 0 || pcmp 0 y 1) then rnG call 207 F 18 ls [] (LR (uZ z 5 y) f) else none := rfl
set_option maxRecDepth 100000 in
theorem bc2_207_5 (call : QC FA) (ls : List (Option PV)) (L : QH FA) (F : Nat) : rnG call 207 (F + 1) 18 ls [] L = some (none, L) := rfl
set_option maxRecDepth 100000 in
theorem bc2_207_6 (call : QC FA) (x1 : Int32) (z : Nat → Int32) (f : Nat → FA) (F : Nat) : rnG call 207 (F + 6) 5 [some (vR 0), some (vI x1)] [] (LR z f) = rnG call 207 F 11 [some (vR 0), some (vI x1)] [vI x1, vR 3, vI x1, vR 1] (LR z f) := rfl
set_option maxRecDepth 100000 in
theorem bc2_207_7 (call : QC FA) (x : Int32) (s0 : Int32) (ls : List (Option PV)) (z : Nat → Int32) (f : Nat → FA) (F : Nat) : rnG call 207 (F + 1) 11 ls [vI x, vR 3, vI s0, vR 1] (LR z f) = bif (Nat.beq 0 0 && pin x 499) then rnG call 207 F 12 ls [vI (f 3 (ix x)), vI s0, vR 1] (LR z f) else none := rfl
set_option maxRecDepth 100000 in
theorem bc2_207_8 (call : QC FA) (x y : Int32) (ls : List (Option PV)) (z : Nat → Int32) (f : Nat → FA) (F : Nat) : rnG call 207 (F + 1) 12 ls [vI y, vI x, vR 1] (LR z f) = bif (Nat.beq 0 0 && pin x 499) then rnG call 207 F 13 ls [] (LR z (uA f 1 (upd (f 1) (ix x) y))) else none := rfl
set_option maxRecDepth 100000 in
theorem bc2_207_9 (call : QC FA) (x1 : Int32) (L : QH FA) (F : Nat) : rnG call 207 (F + 1) 13 [some (vR 0), some (vI x1)] [] L = rnG call 207 F 14 [some (vR 0), some (vI (x1 + 1))] [] L := rfl
set_option maxRecDepth 100000 in
theorem bc2_207_10 (call : QC FA) (x1 : Int32) (L : QH FA) (F : Nat) : rnG call 207 (F + 1) 14 [some (vR 0), some (vI x1)] [] L = rnG call 207 F 2 [some (vR 0), some (vI x1)] [] L := rfl
theorem vcc2_207_2 (d : Nat) (x1 : Int32) (z : Nat → Int32) (f : Nat → FA) (res : Option PV × QH FA) (H : ((499 ≤ I x1 → (((0 : Int32) = 0 ∨ (0 : Int32) = 1) ∧ res = (none, LR (uZ z 5 0) f))) ∧ (I x1 < 499 → (pin x1 499 = true ∧ (pin x1 499 = true ∧ RC (mcall (d + 1)) (mP 207) 2 [some (vR 0), some (vI (x1 + 1))] [] (LR z (uA f 1 (upd (f 1) (ix x1) (f 3 (ix x1))))) res))))) : RC (mcall (d + 1)) (mP 207) 2 [some (vR 0), some (vI x1)] [] (LR z f) res := by
  refine rc_b (i' := 4) (ls' := [some (vR 0), some (vI x1)]) (st' := [vI 499, vI x1]) (L' := LR z f) 2 (bc2_207_1 (mcall (d + 1)) x1 _) ?_
  refine rc_if (it := 15) (ie := 5) (ls' := [some (vR 0), some (vI x1)]) (st' := []) (bc2_207_2 (mcall (d + 1)) x1 499 _ _) (fun q1 => ?_) (fun q1 => ?_)
  · have H := H.1 (cI3t q1 rfl rfl)
    refine rc_b (i' := 17) (ls' := [some (vR 0), some (vI x1)]) (st' := [vI 0, vR 0]) (L' := LR z f) 2 (bc2_207_3 (mcall (d + 1)) x1 _) ?_
    obtain ⟨g1, H⟩ := H
    refine rc_g (i' := 18) (ls' := [some (vR 0), some (vI x1)]) (st' := []) (L' := LR (uZ z 5 0) f) (bc2_207_4 (mcall (d + 1)) 0 _ z f) (zG g1) ?_
    subst H
    exact rc_ret (bc2_207_5 (mcall (d + 1)) _ _)
  · have H := H.2 (cI3f q1 rfl rfl)
    refine rc_b (i' := 11) (ls' := [some (vR 0), some (vI x1)]) (st' := [vI x1, vR 3, vI x1, vR 1]) (L' := LR z f) 6 (bc2_207_6 (mcall (d + 1)) x1 z f) ?_
    obtain ⟨g1, H⟩ := H
    refine rc_g (i' := 12) (ls' := [some (vR 0), some (vI x1)]) (st' := [vI (f 3 (ix x1)), vI x1, vR 1]) (L' := LR z f) (bc2_207_7 (mcall (d + 1)) x1 x1 _ z f) (pinG g1) ?_
    obtain ⟨g1, H⟩ := H
    refine rc_g (i' := 13) (ls' := [some (vR 0), some (vI x1)]) (st' := []) (L' := LR z (uA f 1 (upd (f 1) (ix x1) (f 3 (ix x1))))) (bc2_207_8 (mcall (d + 1)) x1 (f 3 (ix x1)) _ z f) (pinG g1) ?_
    refine rc_b (i' := 14) (ls' := [some (vR 0), some (vI (x1 + 1))]) (st' := []) (L' := LR z (uA f 1 (upd (f 1) (ix x1) (f 3 (ix x1))))) 1 (bc2_207_9 (mcall (d + 1)) x1 _) ?_
    refine rc_b (i' := 2) (ls' := [some (vR 0), some (vI (x1 + 1))]) (st' := []) (L' := LR z (uA f 1 (upd (f 1) (ix x1) (f 3 (ix x1))))) 1 (bc2_207_10 (mcall (d + 1)) (x1 + 1) _) ?_
    exact H
set_option maxRecDepth 100000 in
theorem b237_1 (call : QC FA) (o1 : Option PV) (o2 : Option PV) (L : QH FA) (F : Nat) : rnG call 237 (F + 4) 0 [some (vR 0), o1, o2] [] L = rnG call 237 F 4 [some (vR 0), some (vI 0), some (vI 0)] [] L := rfl
theorem vc237_0 (d : Nat) (o1 : Option PV) (o2 : Option PV) (z : Nat → Int32) (f : Nat → FA) (res : Option PV × QH FA) (H : RC (mcall (d + 2)) (mP 237) 4 [some (vR 0), some (vI 0), some (vI 0)] [] (LR z f) res) : RC (mcall (d + 2)) (mP 237) 0 [some (vR 0), o1, o2] [] (LR z f) res := by
  refine rc_b (i' := 4) (ls' := [some (vR 0), some (vI 0), some (vI 0)]) (st' := []) (L' := LR z f) 4 (b237_1 (mcall (d + 2)) o1 o2 _) ?_
  exact H
set_option maxRecDepth 100000 in
theorem bc4_237_1 (call : QC FA) (x1 : Int32) (x2 : Int32) (L : QH FA) (F : Nat) : rnG call 237 (F + 2) 4 [some (vR 0), some (vI x1), some (vI x2)] [] L = rnG call 237 F 6 [some (vR 0), some (vI x1), some (vI x2)] [vI 144, vI x2] L := rfl
set_option maxRecDepth 100000 in
theorem bc4_237_2 (call : QC FA) (x y : Int32) (ls : List (Option PV)) (L : QH FA) (F : Nat) : rnG call 237 (F + 1) 6 ls [vI y, vI x] L = bif pcmp 3 x y then rnG call 237 F 17 ls [] L else rnG call 237 F 7 ls [] L := rfl
set_option maxRecDepth 100000 in
theorem bc4_237_3 (call : QC FA) (x1 : Int32) (x2 : Int32) (L : QH FA) (F : Nat) : rnG call 237 (F + 1) 17 [some (vR 0), some (vI x1), some (vI x2)] [] L = rnG call 237 F 18 [some (vR 0), some (vI x1), some (vI x2)] [vI x1] L := rfl
set_option maxRecDepth 100000 in
theorem bc4_237_4 (call : QC FA) (x : Int32) (ls : List (Option PV)) (L : QH FA) (F : Nat) : rnG call 237 (F + 1) 18 ls [vI x] L = some (some (vI x), L) := rfl
set_option maxRecDepth 100000 in
theorem bc4_237_5 (call : QC FA) (x1 : Int32) (x2 : Int32) (L : QH FA) (F : Nat) : rnG call 237 (F + 2) 7 [some (vR 0), some (vI x1), some (vI x2)] [] L = rnG call 237 F 9 [some (vR 0), some (vI x1), some (vI x2)] [vI x2, vR 0] L := rfl
set_option maxRecDepth 100000 in
theorem bc4_237_6 (call : QC FA) (a0 : Int32) (ls : List (Option PV)) (z : Nat → Int32) (f : Nat → FA) (F : Nat) : rnG call 237 (F + 1) 9 ls [vI a0, vR 0] (LR z f) = cbd (call 49 [vR 0, vI a0] (LR z f)) (fun r L' => rnG call 237 F 10 ls (r.toList ++ []) L') := pcY (ih := rnG call 237 F) (call := call) (a := 49) (b := 1) (v := 12) (t := 10) (x := 0) (ls := ls) (As := [vI a0]) (st' := []) (L := LR z f) rfl rfl rfl
set_option maxRecDepth 100000 in
theorem bc4_237_7 (call : QC FA) (x : Int32) (ls : List (Option PV)) (L : QH FA) (F : Nat) : rnG call 237 (F + 1) 10 ls [vI x] L = bif pcmp 0 x 0 then rnG call 237 F 15 ls [] L else rnG call 237 F 11 ls [] L := rfl
set_option maxRecDepth 100000 in
theorem bc4_237_8 (call : QC FA) (x1 : Int32) (x2 : Int32) (L : QH FA) (F : Nat) : rnG call 237 (F + 1) 15 [some (vR 0), some (vI x1), some (vI x2)] [] L = rnG call 237 F 16 [some (vR 0), some (vI x1), some (vI (x2 + 1))] [] L := rfl
set_option maxRecDepth 100000 in
theorem bc4_237_9 (call : QC FA) (x1 : Int32) (x2 : Int32) (L : QH FA) (F : Nat) : rnG call 237 (F + 1) 16 [some (vR 0), some (vI x1), some (vI x2)] [] L = rnG call 237 F 4 [some (vR 0), some (vI x1), some (vI x2)] [] L := rfl
set_option maxRecDepth 100000 in
theorem bc4_237_10 (call : QC FA) (x1 : Int32) (x2 : Int32) (L : QH FA) (F : Nat) : rnG call 237 (F + 4) 11 [some (vR 0), some (vI x1), some (vI x2)] [] L = rnG call 237 F 15 [some (vR 0), some (vI (x1 + 1)), some (vI x2)] [] L := rfl
theorem vcc4_237_4 (d : Nat) (x1 : Int32) (x2 : Int32) (z : Nat → Int32) (f : Nat → FA) (res : Option PV × QH FA) (H : ((144 ≤ I x2 → res = (some (vI x1), LR z f)) ∧ (I x2 < 144 → (∃ (r1 : Int32) (z1 : Nat → Int32) (f1 : Nat → FA), (mcall (d + 2)) 49 [vR 0, vI x2] (LR z f) = some (some (vI r1), LR z1 f1) ∧ ((r1 = 0 → RC (mcall (d + 2)) (mP 237) 4 [some (vR 0), some (vI x1), some (vI (x2 + 1))] [] (LR z1 f1) res) ∧ (¬ r1 = 0 → RC (mcall (d + 2)) (mP 237) 4 [some (vR 0), some (vI (x1 + 1)), some (vI (x2 + 1))] [] (LR z1 f1) res)))))) : RC (mcall (d + 2)) (mP 237) 4 [some (vR 0), some (vI x1), some (vI x2)] [] (LR z f) res := by
  refine rc_b (i' := 6) (ls' := [some (vR 0), some (vI x1), some (vI x2)]) (st' := [vI 144, vI x2]) (L' := LR z f) 2 (bc4_237_1 (mcall (d + 2)) x1 x2 _) ?_
  refine rc_if (it := 17) (ie := 7) (ls' := [some (vR 0), some (vI x1), some (vI x2)]) (st' := []) (bc4_237_2 (mcall (d + 2)) x2 144 _ _) (fun q1 => ?_) (fun q1 => ?_)
  · have H := H.1 (cI3t q1 rfl rfl)
    refine rc_b (i' := 18) (ls' := [some (vR 0), some (vI x1), some (vI x2)]) (st' := [vI x1]) (L' := LR z f) 1 (bc4_237_3 (mcall (d + 2)) x1 x2 _) ?_
    subst H
    exact rc_ret (bc4_237_4 (mcall (d + 2)) _ _ _)
  · have H := H.2 (cI3f q1 rfl rfl)
    refine rc_b (i' := 9) (ls' := [some (vR 0), some (vI x1), some (vI x2)]) (st' := [vI x2, vR 0]) (L' := LR z f) 2 (bc4_237_5 (mcall (d + 2)) x1 x2 _) ?_
    obtain ⟨r1, z1, f1, hc, H⟩ := H
    refine rc_call (t := 10) (ls' := [some (vR 0), some (vI x1), some (vI x2)]) (st' := []) (bc4_237_6 (mcall (d + 2)) x2 _ z f) hc ?_
    show RC (mcall (d + 2)) (mP 237) 10 [some (vR 0), some (vI x1), some (vI x2)] [vI r1] (LR z1 f1) res
    refine rc_if (it := 15) (ie := 11) (ls' := [some (vR 0), some (vI x1), some (vI x2)]) (st' := []) (bc4_237_7 (mcall (d + 2)) r1 _ _) (fun q2 => ?_) (fun q2 => ?_)
    · have H := H.1 (cI0t q2)
      refine rc_b (i' := 16) (ls' := [some (vR 0), some (vI x1), some (vI (x2 + 1))]) (st' := []) (L' := LR z1 f1) 1 (bc4_237_8 (mcall (d + 2)) x1 x2 _) ?_
      refine rc_b (i' := 4) (ls' := [some (vR 0), some (vI x1), some (vI (x2 + 1))]) (st' := []) (L' := LR z1 f1) 1 (bc4_237_9 (mcall (d + 2)) x1 (x2 + 1) _) ?_
      exact H
    · have H := H.2 (cI0f q2)
      refine rc_b (i' := 15) (ls' := [some (vR 0), some (vI (x1 + 1)), some (vI x2)]) (st' := []) (L' := LR z1 f1) 4 (bc4_237_10 (mcall (d + 2)) x1 x2 _) ?_
      refine rc_b (i' := 16) (ls' := [some (vR 0), some (vI (x1 + 1)), some (vI (x2 + 1))]) (st' := []) (L' := LR z1 f1) 1 (bc4_237_8 (mcall (d + 2)) (x1 + 1) x2 _) ?_
      refine rc_b (i' := 4) (ls' := [some (vR 0), some (vI (x1 + 1)), some (vI (x2 + 1))]) (st' := []) (L' := LR z1 f1) 1 (bc4_237_9 (mcall (d + 2)) (x1 + 1) (x2 + 1) _) ?_
      exact H
set_option maxRecDepth 100000 in
theorem b213_1 (call : QC FA) (x1 : Int32) (x2 : Int32) (o3 : Option PV) (o4 : Option PV) (L : QH FA) (F : Nat) : rnG call 213 (F + 2) 0 [some (vR 0), some (vI x1), some (vI x2), o3, o4] [] L = rnG call 213 F 2 [some (vR 0), some (vI x1), some (vI x2), o3, o4] [vI 0, vR 0] L := rfl
set_option maxRecDepth 100000 in
theorem b213_2 (call : QC FA) (y : Int32) (ls : List (Option PV)) (z : Nat → Int32) (f : Nat → FA) (F : Nat) : rnG call 213 (F + 1) 2 ls [vI y, vR 0] (LR z f) = rnG call 213 F 3 ls [] (LR (uZ z 0 y) f) := rfl
set_option maxRecDepth 100000 in
theorem b213_3 (call : QC FA) (x1 : Int32) (x2 : Int32) (o3 : Option PV) (o4 : Option PV) (L : QH FA) (F : Nat) : rnG call 213 (F + 4) 3 [some (vR 0), some (vI x1), some (vI x2), o3, o4] [] L = rnG call 213 F 7 [some (vR 0), some (vI x1), some (vI x2), o3, o4] [vI 60, vI 1, vI x1, vR 0] L := rfl
set_option maxRecDepth 100000 in
theorem b213_4 (call : QC FA) (a0 : Int32) (a1 : Int32) (a2 : Int32) (ls : List (Option PV)) (z : Nat → Int32) (f : Nat → FA) (F : Nat) : rnG call 213 (F + 1) 7 ls [vI a2, vI a1, vI a0, vR 0] (LR z f) = cbd (call 47 [vR 0, vI a0, vI a1, vI a2] (LR z f)) (fun r L' => rnG call 213 F 8 ls (r.toList ++ []) L') := pcY (ih := rnG call 213 F) (call := call) (a := 47) (b := 3) (v := 12) (t := 8) (x := 0) (ls := ls) (As := [vI a0, vI a1, vI a2]) (st' := []) (L := LR z f) rfl rfl rfl
set_option maxRecDepth 100000 in
theorem b213_5 (call : QC FA) (x : Int32) (ls : List (Option PV)) (L : QH FA) (F : Nat) : rnG call 213 (F + 1) 8 ls [vI x] L = bif pcmp 0 x 0 then rnG call 213 F 15 ls [] L else rnG call 213 F 9 ls [] L := rfl
set_option maxRecDepth 100000 in
theorem b213_6 (call : QC FA) (x1 : Int32) (x2 : Int32) (o3 : Option PV) (o4 : Option PV) (L : QH FA) (F : Nat) : rnG call 213 (F + 1) 15 [some (vR 0), some (vI x1), some (vI x2), o3, o4] [] L = rnG call 213 F 16 [some (vR 0), some (vI x1), some (vI x2), o3, o4] [vI ((-100000))] L := rfl
set_option maxRecDepth 100000 in
theorem b213_7 (call : QC FA) (x : Int32) (ls : List (Option PV)) (L : QH FA) (F : Nat) : rnG call 213 (F + 1) 16 ls [vI x] L = some (some (vI x), L) := rfl
set_option maxRecDepth 100000 in
theorem b213_8 (call : QC FA) (x1 : Int32) (x2 : Int32) (o3 : Option PV) (o4 : Option PV) (L : QH FA) (F : Nat) : rnG call 213 (F + 4) 9 [some (vR 0), some (vI x1), some (vI x2), o3, o4] [] L = rnG call 213 F 13 [some (vR 0), some (vI x1), some (vI x2), o3, o4] [vI 3, vI 0, vI x2, vR 0] L := rfl
set_option maxRecDepth 100000 in
theorem b213_9 (call : QC FA) (a0 : Int32) (a1 : Int32) (a2 : Int32) (ls : List (Option PV)) (z : Nat → Int32) (f : Nat → FA) (F : Nat) : rnG call 213 (F + 1) 13 ls [vI a2, vI a1, vI a0, vR 0] (LR z f) = cbd (call 47 [vR 0, vI a0, vI a1, vI a2] (LR z f)) (fun r L' => rnG call 213 F 14 ls (r.toList ++ []) L') := pcY (ih := rnG call 213 F) (call := call) (a := 47) (b := 3) (v := 12) (t := 14) (x := 0) (ls := ls) (As := [vI a0, vI a1, vI a2]) (st' := []) (L := LR z f) rfl rfl rfl
set_option maxRecDepth 100000 in
theorem b213_10 (call : QC FA) (x : Int32) (ls : List (Option PV)) (L : QH FA) (F : Nat) : rnG call 213 (F + 1) 14 ls [vI x] L = bif pcmp 1 x 0 then rnG call 213 F 17 ls [] L else rnG call 213 F 15 ls [] L := rfl
set_option maxRecDepth 100000 in
theorem b213_11 (call : QC FA) (x1 : Int32) (x2 : Int32) (o3 : Option PV) (o4 : Option PV) (L : QH FA) (F : Nat) : rnG call 213 (F + 1) 17 [some (vR 0), some (vI x1), some (vI x2), o3, o4] [] L = rnG call 213 F 18 [some (vR 0), some (vI x1), some (vI x2), o3, o4] [vR 0] L := rfl
set_option maxRecDepth 100000 in
theorem b213_12 (call : QC FA) (ls : List (Option PV)) (z : Nat → Int32) (f : Nat → FA) (F : Nat) : rnG call 213 (F + 1) 18 ls [vR 0] (LR z f) = cbd (call 281 [vR 0] (LR z f)) (fun r L' => rnG call 213 F 19 ls (r.toList ++ []) L') := pcY (ih := rnG call 213 F) (call := call) (a := 281) (b := 0) (v := 12) (t := 19) (x := 0) (ls := ls) (As := []) (st' := []) (L := LR z f) rfl rfl rfl
set_option maxRecDepth 100000 in
theorem b213_13 (call : QC FA) (x1 : Int32) (x2 : Int32) (o3 : Option PV) (o4 : Option PV) (L : QH FA) (F : Nat) : rnG call 213 (F + 2) 19 [some (vR 0), some (vI x1), some (vI x2), o3, o4] [] L = rnG call 213 F 21 [some (vR 0), some (vI x1), some (vI x2), some (vI 0), o4] [] L := rfl
theorem vc213_0 (d : Nat) (x1 : Int32) (x2 : Int32) (o3 : Option PV) (o4 : Option PV) (z : Nat → Int32) (f : Nat → FA) (res : Option PV × QH FA) (H : (((1 ≤ I x1 ∧ I x1 ≤ 60) → (((0 ≤ I x2 ∧ I x2 ≤ 3) → (∃ (z1 : Nat → Int32) (f1 : Nat → FA), (mcall (d + 7)) 281 [vR 0] (LR (uZ z 0 0) f) = some (none, LR z1 f1) ∧ RC (mcall (d + 7)) (mP 213) 21 [some (vR 0), some (vI x1), some (vI x2), some (vI 0), o4] [] (LR z1 f1) res)) ∧ ((¬ (0 ≤ I x2 ∧ I x2 ≤ 3)) → res = (some (vI ((-100000))), LR (uZ z 0 0) f)))) ∧ ((¬ (1 ≤ I x1 ∧ I x1 ≤ 60)) → res = (some (vI ((-100000))), LR (uZ z 0 0) f)))) : RC (mcall (d + 7)) (mP 213) 0 [some (vR 0), some (vI x1), some (vI x2), o3, o4] [] (LR z f) res := by
  refine rc_b (i' := 2) (ls' := [some (vR 0), some (vI x1), some (vI x2), o3, o4]) (st' := [vI 0, vR 0]) (L' := LR z f) 2 (b213_1 (mcall (d + 7)) x1 x2 o3 o4 _) ?_
  refine rc_b (i' := 3) (ls' := [some (vR 0), some (vI x1), some (vI x2), o3, o4]) (st' := []) (L' := LR (uZ z 0 0) f) 1 (b213_2 (mcall (d + 7)) 0 _ z f) ?_
  refine rc_b (i' := 7) (ls' := [some (vR 0), some (vI x1), some (vI x2), o3, o4]) (st' := [vI 60, vI 1, vI x1, vR 0]) (L' := LR (uZ z 0 0) f) 4 (b213_3 (mcall (d + 7)) x1 x2 o3 o4 _) ?_
  refine rc_call (t := 8) (ls' := [some (vR 0), some (vI x1), some (vI x2), o3, o4]) (st' := []) (b213_4 (mcall (d + 7)) x1 1 60 _ (uZ z 0 0) f) (isIn_r _ x1 1 60 (uZ z 0 0) f) ?_
  show RC (mcall (d + 7)) (mP 213) 8 [some (vR 0), some (vI x1), some (vI x2), o3, o4] [vI (bI (1 ≤ I x1 ∧ I x1 ≤ 60))] (LR (uZ z 0 0) f) res
  refine rc_bz (it := 15) (ie := 9) (ls' := [some (vR 0), some (vI x1), some (vI x2), o3, o4]) (st' := []) (b213_5 (mcall (d + 7)) (bI (1 ≤ I x1 ∧ I x1 ≤ 60)) _ _) (fun q1 => ?_) (fun q1 => ?_)
  · have H := H.2 q1
    refine rc_b (i' := 16) (ls' := [some (vR 0), some (vI x1), some (vI x2), o3, o4]) (st' := [vI ((-100000))]) (L' := LR (uZ z 0 0) f) 1 (b213_6 (mcall (d + 7)) x1 x2 o3 o4 _) ?_
    subst H
    exact rc_ret (b213_7 (mcall (d + 7)) _ _ _)
  · have H := H.1 q1
    refine rc_b (i' := 13) (ls' := [some (vR 0), some (vI x1), some (vI x2), o3, o4]) (st' := [vI 3, vI 0, vI x2, vR 0]) (L' := LR (uZ z 0 0) f) 4 (b213_8 (mcall (d + 7)) x1 x2 o3 o4 _) ?_
    refine rc_call (t := 14) (ls' := [some (vR 0), some (vI x1), some (vI x2), o3, o4]) (st' := []) (b213_9 (mcall (d + 7)) x2 0 3 _ (uZ z 0 0) f) (isIn_r _ x2 0 3 (uZ z 0 0) f) ?_
    show RC (mcall (d + 7)) (mP 213) 14 [some (vR 0), some (vI x1), some (vI x2), o3, o4] [vI (bI (0 ≤ I x2 ∧ I x2 ≤ 3))] (LR (uZ z 0 0) f) res
    refine rc_bn (it := 17) (ie := 15) (ls' := [some (vR 0), some (vI x1), some (vI x2), o3, o4]) (st' := []) (b213_10 (mcall (d + 7)) (bI (0 ≤ I x2 ∧ I x2 ≤ 3)) _ _) (fun q2 => ?_) (fun q2 => ?_)
    · have H := H.1 q2
      refine rc_b (i' := 18) (ls' := [some (vR 0), some (vI x1), some (vI x2), o3, o4]) (st' := [vR 0]) (L' := LR (uZ z 0 0) f) 1 (b213_11 (mcall (d + 7)) x1 x2 o3 o4 _) ?_
      obtain ⟨z1, f1, hc, H⟩ := H
      refine rc_call (t := 19) (ls' := [some (vR 0), some (vI x1), some (vI x2), o3, o4]) (st' := []) (b213_12 (mcall (d + 7)) _ (uZ z 0 0) f) hc ?_
      show RC (mcall (d + 7)) (mP 213) 19 [some (vR 0), some (vI x1), some (vI x2), o3, o4] [] (LR z1 f1) res
      refine rc_b (i' := 21) (ls' := [some (vR 0), some (vI x1), some (vI x2), some (vI 0), o4]) (st' := []) (L' := LR z1 f1) 2 (b213_13 (mcall (d + 7)) x1 x2 o3 o4 _) ?_
      exact H
    · have H := H.2 q2
      refine rc_b (i' := 16) (ls' := [some (vR 0), some (vI x1), some (vI x2), o3, o4]) (st' := [vI ((-100000))]) (L' := LR (uZ z 0 0) f) 1 (b213_6 (mcall (d + 7)) x1 x2 o3 o4 _) ?_
      subst H
      exact rc_ret (b213_7 (mcall (d + 7)) _ _ _)
set_option maxRecDepth 100000 in
theorem bc21_213_1 (call : QC FA) (x1 : Int32) (x2 : Int32) (x3 : Int32) (o4 : Option PV) (L : QH FA) (F : Nat) : rnG call 213 (F + 2) 21 [some (vR 0), some (vI x1), some (vI x2), some (vI x3), o4] [] L = rnG call 213 F 23 [some (vR 0), some (vI x1), some (vI x2), some (vI x3), o4] [vI x1, vI x3] L := rfl
set_option maxRecDepth 100000 in
theorem bc21_213_2 (call : QC FA) (x y : Int32) (ls : List (Option PV)) (L : QH FA) (F : Nat) : rnG call 213 (F + 1) 23 ls [vI y, vI x] L = bif pcmp 3 x y then rnG call 213 F 29 ls [] L else rnG call 213 F 24 ls [] L := rfl
set_option maxRecDepth 100000 in
theorem bc21_213_3 (call : QC FA) (x1 : Int32) (x2 : Int32) (x3 : Int32) (o4 : Option PV) (L : QH FA) (F : Nat) : rnG call 213 (F + 1) 29 [some (vR 0), some (vI x1), some (vI x2), some (vI x3), o4] [] L = rnG call 213 F 30 [some (vR 0), some (vI x1), some (vI x2), some (vI x3), o4] [vI x2] L := rfl
set_option maxRecDepth 100000 in
theorem bc21_213_4 (call : QC FA) (x : Int32) (ls : List (Option PV)) (L : QH FA) (F : Nat) : rnG call 213 (F + 1) 30 ls [vI x] L = bif pcmp 1 x 0 then rnG call 213 F 36 ls [] L else rnG call 213 F 31 ls [] L := rfl
set_option maxRecDepth 100000 in
theorem bc21_213_5 (call : QC FA) (x1 : Int32) (x2 : Int32) (x3 : Int32) (o4 : Option PV) (L : QH FA) (F : Nat) : rnG call 213 (F + 2) 36 [some (vR 0), some (vI x1), some (vI x2), some (vI x3), o4] [] L = rnG call 213 F 38 [some (vR 0), some (vI x1), some (vI x2), some (vI x3), o4] [vI 1, vI x2] L := rfl
set_option maxRecDepth 100000 in
theorem bc21_213_6 (call : QC FA) (x y : Int32) (ls : List (Option PV)) (L : QH FA) (F : Nat) : rnG call 213 (F + 1) 38 ls [vI y, vI x] L = bif pcmp 1 x y then rnG call 213 F 42 ls [] L else rnG call 213 F 39 ls [] L := rfl
set_option maxRecDepth 100000 in
theorem bc21_213_7 (call : QC FA) (x1 : Int32) (x2 : Int32) (x3 : Int32) (o4 : Option PV) (L : QH FA) (F : Nat) : rnG call 213 (F + 2) 42 [some (vR 0), some (vI x1), some (vI x2), some (vI x3), o4] [] L = rnG call 213 F 44 [some (vR 0), some (vI x1), some (vI x2), some (vI x3), o4] [vI 2, vI x2] L := rfl
set_option maxRecDepth 100000 in
theorem bc21_213_8 (call : QC FA) (x y : Int32) (ls : List (Option PV)) (L : QH FA) (F : Nat) : rnG call 213 (F + 1) 44 ls [vI y, vI x] L = bif pcmp 1 x y then rnG call 213 F 48 ls [] L else rnG call 213 F 45 ls [] L := rfl
set_option maxRecDepth 100000 in
theorem bc21_213_9 (call : QC FA) (x1 : Int32) (x2 : Int32) (x3 : Int32) (o4 : Option PV) (L : QH FA) (F : Nat) : rnG call 213 (F + 4) 48 [some (vR 0), some (vI x1), some (vI x2), some (vI x3), o4] [] L = rnG call 213 F 52 [some (vR 0), some (vI x1), some (vI x2), some (vI 0), some (vI 0)] [] L := rfl
set_option maxRecDepth 100000 in
theorem bc21_213_10 (call : QC FA) (x1 : Int32) (x2 : Int32) (x3 : Int32) (o4 : Option PV) (L : QH FA) (F : Nat) : rnG call 213 (F + 1) 45 [some (vR 0), some (vI x1), some (vI x2), some (vI x3), o4] [] L = rnG call 213 F 46 [some (vR 0), some (vI x1), some (vI x2), some (vI x3), o4] [vR 0] L := rfl
set_option maxRecDepth 100000 in
theorem bc21_213_11 (call : QC FA) (ls : List (Option PV)) (z : Nat → Int32) (f : Nat → FA) (F : Nat) : rnG call 213 (F + 1) 46 ls [vR 0] (LR z f) = cbd (call 48 [vR 0] (LR z f)) (fun r L' => rnG call 213 F 47 ls (r.toList ++ []) L') := pcY (ih := rnG call 213 F) (call := call) (a := 48) (b := 0) (v := 12) (t := 47) (x := 0) (ls := ls) (As := []) (st' := []) (L := LR z f) rfl rfl rfl
set_option maxRecDepth 100000 in
theorem bc21_213_12 (call : QC FA) (x1 : Int32) (x2 : Int32) (x3 : Int32) (o4 : Option PV) (s0 : Int32) (L : QH FA) (F : Nat) : rnG call 213 (F + 4) 47 [some (vR 0), some (vI x1), some (vI x2), some (vI x3), o4] [vI s0] L = rnG call 213 F 52 [some (vR 0), some (vI x1), some (vI x2), some (vI s0), some (vI 0)] [] L := rfl
set_option maxRecDepth 100000 in
theorem bc21_213_13 (call : QC FA) (x1 : Int32) (x2 : Int32) (x3 : Int32) (o4 : Option PV) (L : QH FA) (F : Nat) : rnG call 213 (F + 1) 39 [some (vR 0), some (vI x1), some (vI x2), some (vI x3), o4] [] L = rnG call 213 F 40 [some (vR 0), some (vI x1), some (vI x2), some (vI x3), o4] [vR 0] L := rfl
set_option maxRecDepth 100000 in
theorem bc21_213_14 (call : QC FA) (ls : List (Option PV)) (z : Nat → Int32) (f : Nat → FA) (F : Nat) : rnG call 213 (F + 1) 40 ls [vR 0] (LR z f) = cbd (call 237 [vR 0] (LR z f)) (fun r L' => rnG call 213 F 41 ls (r.toList ++ []) L') := pcY (ih := rnG call 213 F) (call := call) (a := 237) (b := 0) (v := 12) (t := 41) (x := 0) (ls := ls) (As := []) (st' := []) (L := LR z f) rfl rfl rfl
set_option maxRecDepth 100000 in
theorem bc21_213_15 (call : QC FA) (x1 : Int32) (x2 : Int32) (x3 : Int32) (o4 : Option PV) (s0 : Int32) (L : QH FA) (F : Nat) : rnG call 213 (F + 4) 41 [some (vR 0), some (vI x1), some (vI x2), some (vI x3), o4] [vI s0] L = rnG call 213 F 52 [some (vR 0), some (vI x1), some (vI x2), some (vI s0), some (vI 0)] [] L := rfl
set_option maxRecDepth 100000 in
theorem bc21_213_16 (call : QC FA) (x1 : Int32) (x2 : Int32) (x3 : Int32) (o4 : Option PV) (z : Nat → Int32) (f : Nat → FA) (F : Nat) : rnG call 213 (F + 3) 31 [some (vR 0), some (vI x1), some (vI x2), some (vI x3), o4] [] (LR z f) = rnG call 213 F 34 [some (vR 0), some (vI x1), some (vI x2), some (vI x3), o4] [vI 5, vR 1] (LR z f) := rfl
set_option maxRecDepth 100000 in
theorem bc21_213_17 (call : QC FA) (x : Int32) (ls : List (Option PV)) (z : Nat → Int32) (f : Nat → FA) (F : Nat) : rnG call 213 (F + 1) 34 ls [vI x, vR 1] (LR z f) = bif (Nat.beq 0 0 && pin x 499) then rnG call 213 F 35 ls [vI (f 1 (ix x))] (LR z f) else none := rfl
set_option maxRecDepth 100000 in
theorem bc21_213_18 (call : QC FA) (x1 : Int32) (x2 : Int32) (x3 : Int32) (o4 : Option PV) (s0 : Int32) (L : QH FA) (F : Nat) : rnG call 213 (F + 4) 35 [some (vR 0), some (vI x1), some (vI x2), some (vI x3), o4] [vI s0] L = rnG call 213 F 52 [some (vR 0), some (vI x1), some (vI x2), some (vI s0), some (vI 0)] [] L := rfl
set_option maxRecDepth 100000 in
theorem bc21_213_19 (call : QC FA) (x1 : Int32) (x2 : Int32) (x3 : Int32) (o4 : Option PV) (L : QH FA) (F : Nat) : rnG call 213 (F + 1) 24 [some (vR 0), some (vI x1), some (vI x2), some (vI x3), o4] [] L = rnG call 213 F 25 [some (vR 0), some (vI x1), some (vI x2), some (vI x3), o4] [vR 0] L := rfl
set_option maxRecDepth 100000 in
theorem bc21_213_20 (call : QC FA) (ls : List (Option PV)) (z : Nat → Int32) (f : Nat → FA) (F : Nat) : rnG call 213 (F + 1) 25 ls [vR 0] (LR z f) = cbd (call 214 [vR 0] (LR z f)) (fun r L' => rnG call 213 F 26 ls (r.toList ++ []) L') := pcY (ih := rnG call 213 F) (call := call) (a := 214) (b := 0) (v := 12) (t := 26) (x := 0) (ls := ls) (As := []) (st' := []) (L := LR z f) rfl rfl rfl
set_option maxRecDepth 100000 in
theorem bc21_213_21 (call : QC FA) (x1 : Int32) (x2 : Int32) (x3 : Int32) (o4 : Option PV) (s0 : Int32) (L : QH FA) (F : Nat) : rnG call 213 (F + 1) 26 [some (vR 0), some (vI x1), some (vI x2), some (vI x3), o4] [vI s0] L = rnG call 213 F 27 [some (vR 0), some (vI x1), some (vI x2), some (vI x3), o4] [] L := rfl
set_option maxRecDepth 100000 in
theorem bc21_213_22 (call : QC FA) (x1 : Int32) (x2 : Int32) (x3 : Int32) (o4 : Option PV) (L : QH FA) (F : Nat) : rnG call 213 (F + 1) 27 [some (vR 0), some (vI x1), some (vI x2), some (vI x3), o4] [] L = rnG call 213 F 28 [some (vR 0), some (vI x1), some (vI x2), some (vI (x3 + 1)), o4] [] L := rfl
set_option maxRecDepth 100000 in
theorem bc21_213_23 (call : QC FA) (x1 : Int32) (x2 : Int32) (x3 : Int32) (o4 : Option PV) (L : QH FA) (F : Nat) : rnG call 213 (F + 1) 28 [some (vR 0), some (vI x1), some (vI x2), some (vI x3), o4] [] L = rnG call 213 F 21 [some (vR 0), some (vI x1), some (vI x2), some (vI x3), o4] [] L := rfl
theorem vcc21_213_21 (d : Nat) (x1 : Int32) (x2 : Int32) (x3 : Int32) (o4 : Option PV) (z : Nat → Int32) (f : Nat → FA) (res : Option PV × QH FA) (H : ((I x1 ≤ I x3 → ((¬ x2 = 0 → ((¬ x2 = 1 → ((¬ x2 = 2 → RC (mcall (d + 7)) (mP 213) 52 [some (vR 0), some (vI x1), some (vI x2), some (vI 0), some (vI 0)] [] (LR z f) res) ∧ (x2 = 2 → (∃ (r1 : Int32) (z1 : Nat → Int32) (f1 : Nat → FA), (mcall (d + 7)) 48 [vR 0] (LR z f) = some (some (vI r1), LR z1 f1) ∧ RC (mcall (d + 7)) (mP 213) 52 [some (vR 0), some (vI x1), some (vI x2), some (vI r1), some (vI 0)] [] (LR z1 f1) res)))) ∧ (x2 = 1 → (∃ (r2 : Int32) (z2 : Nat → Int32) (f2 : Nat → FA), (mcall (d + 7)) 237 [vR 0] (LR z f) = some (some (vI r2), LR z2 f2) ∧ RC (mcall (d + 7)) (mP 213) 52 [some (vR 0), some (vI x1), some (vI x2), some (vI r2), some (vI 0)] [] (LR z2 f2) res)))) ∧ (x2 = 0 → (pin 5 499 = true ∧ RC (mcall (d + 7)) (mP 213) 52 [some (vR 0), some (vI x1), some (vI x2), some (vI (f 1 (ix 5))), some (vI 0)] [] (LR z f) res)))) ∧ (I x3 < I x1 → (∃ (r3 : Int32) (z3 : Nat → Int32) (f3 : Nat → FA), (mcall (d + 7)) 214 [vR 0] (LR z f) = some (some (vI r3), LR z3 f3) ∧ RC (mcall (d + 7)) (mP 213) 21 [some (vR 0), some (vI x1), some (vI x2), some (vI (x3 + 1)), o4] [] (LR z3 f3) res)))) : RC (mcall (d + 7)) (mP 213) 21 [some (vR 0), some (vI x1), some (vI x2), some (vI x3), o4] [] (LR z f) res := by
  refine rc_b (i' := 23) (ls' := [some (vR 0), some (vI x1), some (vI x2), some (vI x3), o4]) (st' := [vI x1, vI x3]) (L' := LR z f) 2 (bc21_213_1 (mcall (d + 7)) x1 x2 x3 o4 _) ?_
  refine rc_if (it := 29) (ie := 24) (ls' := [some (vR 0), some (vI x1), some (vI x2), some (vI x3), o4]) (st' := []) (bc21_213_2 (mcall (d + 7)) x3 x1 _ _) (fun q1 => ?_) (fun q1 => ?_)
  · have H := H.1 (cI3t q1 rfl rfl)
    refine rc_b (i' := 30) (ls' := [some (vR 0), some (vI x1), some (vI x2), some (vI x3), o4]) (st' := [vI x2]) (L' := LR z f) 1 (bc21_213_3 (mcall (d + 7)) x1 x2 x3 o4 _) ?_
    refine rc_if (it := 36) (ie := 31) (ls' := [some (vR 0), some (vI x1), some (vI x2), some (vI x3), o4]) (st' := []) (bc21_213_4 (mcall (d + 7)) x2 _ _) (fun q2 => ?_) (fun q2 => ?_)
    · have H := H.1 (cI1t q2)
      refine rc_b (i' := 38) (ls' := [some (vR 0), some (vI x1), some (vI x2), some (vI x3), o4]) (st' := [vI 1, vI x2]) (L' := LR z f) 2 (bc21_213_5 (mcall (d + 7)) x1 x2 x3 o4 _) ?_
      refine rc_if (it := 42) (ie := 39) (ls' := [some (vR 0), some (vI x1), some (vI x2), some (vI x3), o4]) (st' := []) (bc21_213_6 (mcall (d + 7)) x2 1 _ _) (fun q3 => ?_) (fun q3 => ?_)
      · have H := H.1 (cI1t q3)
        refine rc_b (i' := 44) (ls' := [some (vR 0), some (vI x1), some (vI x2), some (vI x3), o4]) (st' := [vI 2, vI x2]) (L' := LR z f) 2 (bc21_213_7 (mcall (d + 7)) x1 x2 x3 o4 _) ?_
        refine rc_if (it := 48) (ie := 45) (ls' := [some (vR 0), some (vI x1), some (vI x2), some (vI x3), o4]) (st' := []) (bc21_213_8 (mcall (d + 7)) x2 2 _ _) (fun q4 => ?_) (fun q4 => ?_)
        · have H := H.1 (cI1t q4)
          refine rc_b (i' := 52) (ls' := [some (vR 0), some (vI x1), some (vI x2), some (vI 0), some (vI 0)]) (st' := []) (L' := LR z f) 4 (bc21_213_9 (mcall (d + 7)) x1 x2 x3 o4 _) ?_
          exact H
        · have H := H.2 (cI1f q4)
          refine rc_b (i' := 46) (ls' := [some (vR 0), some (vI x1), some (vI x2), some (vI x3), o4]) (st' := [vR 0]) (L' := LR z f) 1 (bc21_213_10 (mcall (d + 7)) x1 x2 x3 o4 _) ?_
          obtain ⟨r1, z1, f1, hc, H⟩ := H
          refine rc_call (t := 47) (ls' := [some (vR 0), some (vI x1), some (vI x2), some (vI x3), o4]) (st' := []) (bc21_213_11 (mcall (d + 7)) _ z f) hc ?_
          show RC (mcall (d + 7)) (mP 213) 47 [some (vR 0), some (vI x1), some (vI x2), some (vI x3), o4] [vI r1] (LR z1 f1) res
          refine rc_b (i' := 52) (ls' := [some (vR 0), some (vI x1), some (vI x2), some (vI r1), some (vI 0)]) (st' := []) (L' := LR z1 f1) 4 (bc21_213_12 (mcall (d + 7)) x1 x2 x3 o4 r1 _) ?_
          exact H
      · have H := H.2 (cI1f q3)
        refine rc_b (i' := 40) (ls' := [some (vR 0), some (vI x1), some (vI x2), some (vI x3), o4]) (st' := [vR 0]) (L' := LR z f) 1 (bc21_213_13 (mcall (d + 7)) x1 x2 x3 o4 _) ?_
        obtain ⟨r2, z2, f2, hc, H⟩ := H
        refine rc_call (t := 41) (ls' := [some (vR 0), some (vI x1), some (vI x2), some (vI x3), o4]) (st' := []) (bc21_213_14 (mcall (d + 7)) _ z f) hc ?_
        show RC (mcall (d + 7)) (mP 213) 41 [some (vR 0), some (vI x1), some (vI x2), some (vI x3), o4] [vI r2] (LR z2 f2) res
        refine rc_b (i' := 52) (ls' := [some (vR 0), some (vI x1), some (vI x2), some (vI r2), some (vI 0)]) (st' := []) (L' := LR z2 f2) 4 (bc21_213_15 (mcall (d + 7)) x1 x2 x3 o4 r2 _) ?_
        exact H
    · have H := H.2 (cI1f q2)
      refine rc_b (i' := 34) (ls' := [some (vR 0), some (vI x1), some (vI x2), some (vI x3), o4]) (st' := [vI 5, vR 1]) (L' := LR z f) 3 (bc21_213_16 (mcall (d + 7)) x1 x2 x3 o4 z f) ?_
      obtain ⟨g1, H⟩ := H
      refine rc_g (i' := 35) (ls' := [some (vR 0), some (vI x1), some (vI x2), some (vI x3), o4]) (st' := [vI (f 1 (ix 5))]) (L' := LR z f) (bc21_213_17 (mcall (d + 7)) 5 _ z f) (pinG g1) ?_
      refine rc_b (i' := 52) (ls' := [some (vR 0), some (vI x1), some (vI x2), some (vI (f 1 (ix 5))), some (vI 0)]) (st' := []) (L' := LR z f) 4 (bc21_213_18 (mcall (d + 7)) x1 x2 x3 o4 (f 1 (ix 5)) _) ?_
      exact H
  · have H := H.2 (cI3f q1 rfl rfl)
    refine rc_b (i' := 25) (ls' := [some (vR 0), some (vI x1), some (vI x2), some (vI x3), o4]) (st' := [vR 0]) (L' := LR z f) 1 (bc21_213_19 (mcall (d + 7)) x1 x2 x3 o4 _) ?_
    obtain ⟨r3, z3, f3, hc, H⟩ := H
    refine rc_call (t := 26) (ls' := [some (vR 0), some (vI x1), some (vI x2), some (vI x3), o4]) (st' := []) (bc21_213_20 (mcall (d + 7)) _ z f) hc ?_
    show RC (mcall (d + 7)) (mP 213) 26 [some (vR 0), some (vI x1), some (vI x2), some (vI x3), o4] [vI r3] (LR z3 f3) res
    refine rc_b (i' := 27) (ls' := [some (vR 0), some (vI x1), some (vI x2), some (vI x3), o4]) (st' := []) (L' := LR z3 f3) 1 (bc21_213_21 (mcall (d + 7)) x1 x2 x3 o4 r3 _) ?_
    refine rc_b (i' := 28) (ls' := [some (vR 0), some (vI x1), some (vI x2), some (vI (x3 + 1)), o4]) (st' := []) (L' := LR z3 f3) 1 (bc21_213_22 (mcall (d + 7)) x1 x2 x3 o4 _) ?_
    refine rc_b (i' := 21) (ls' := [some (vR 0), some (vI x1), some (vI x2), some (vI (x3 + 1)), o4]) (st' := []) (L' := LR z3 f3) 1 (bc21_213_23 (mcall (d + 7)) x1 x2 (x3 + 1) o4 _) ?_
    exact H
set_option maxRecDepth 100000 in
theorem bc52_213_1 (call : QC FA) (o1 : Option PV) (x2 : Int32) (x3 : Int32) (x4 : Int32) (z : Nat → Int32) (f : Nat → FA) (F : Nat) : rnG call 213 (F + 3) 52 [some (vR 0), o1, some (vI x2), some (vI x3), some (vI x4)] [] (LR z f) = rnG call 213 F 55 [some (vR 0), o1, some (vI x2), some (vI x3), some (vI x4)] [vI (z 6), vI x4] (LR z f) := rfl
set_option maxRecDepth 100000 in
theorem bc52_213_2 (call : QC FA) (x y : Int32) (ls : List (Option PV)) (L : QH FA) (F : Nat) : rnG call 213 (F + 1) 55 ls [vI y, vI x] L = bif pcmp 3 x y then rnG call 213 F 70 ls [] L else rnG call 213 F 56 ls [] L := rfl
set_option maxRecDepth 100000 in
theorem bc52_213_3 (call : QC FA) (o1 : Option PV) (x2 : Int32) (x3 : Int32) (x4 : Int32) (L : QH FA) (F : Nat) : rnG call 213 (F + 1) 70 [some (vR 0), o1, some (vI x2), some (vI x3), some (vI x4)] [] L = rnG call 213 F 71 [some (vR 0), o1, some (vI x2), some (vI x3), some (vI x4)] [vR 0] L := rfl
set_option maxRecDepth 100000 in
theorem bc52_213_4 (call : QC FA) (ls : List (Option PV)) (z : Nat → Int32) (f : Nat → FA) (F : Nat) : rnG call 213 (F + 1) 71 ls [vR 0] (LR z f) = cbd (call 207 [vR 0] (LR z f)) (fun r L' => rnG call 213 F 72 ls (r.toList ++ []) L') := pcY (ih := rnG call 213 F) (call := call) (a := 207) (b := 0) (v := 12) (t := 72) (x := 0) (ls := ls) (As := []) (st' := []) (L := LR z f) rfl rfl rfl
set_option maxRecDepth 100000 in
theorem bc52_213_5 (call : QC FA) (o1 : Option PV) (x2 : Int32) (x3 : Int32) (x4 : Int32) (L : QH FA) (F : Nat) : rnG call 213 (F + 1) 72 [some (vR 0), o1, some (vI x2), some (vI x3), some (vI x4)] [] L = rnG call 213 F 73 [some (vR 0), o1, some (vI x2), some (vI x3), some (vI x4)] [vI x3] L := rfl
set_option maxRecDepth 100000 in
theorem bc52_213_6 (call : QC FA) (x : Int32) (ls : List (Option PV)) (L : QH FA) (F : Nat) : rnG call 213 (F + 1) 73 ls [vI x] L = some (some (vI x), L) := rfl
set_option maxRecDepth 100000 in
theorem bc52_213_7 (call : QC FA) (o1 : Option PV) (x2 : Int32) (x3 : Int32) (x4 : Int32) (L : QH FA) (F : Nat) : rnG call 213 (F + 2) 56 [some (vR 0), o1, some (vI x2), some (vI x3), some (vI x4)] [] L = rnG call 213 F 58 [some (vR 0), o1, some (vI x2), some (vI x3), some (vI x4)] [vI 3, vI x2] L := rfl
set_option maxRecDepth 100000 in
theorem bc52_213_8 (call : QC FA) (x y : Int32) (ls : List (Option PV)) (L : QH FA) (F : Nat) : rnG call 213 (F + 1) 58 ls [vI y, vI x] L = bif pcmp 1 x y then rnG call 213 F 70 ls [] L else rnG call 213 F 59 ls [] L := rfl
set_option maxRecDepth 100000 in
theorem bc52_213_9 (call : QC FA) (o1 : Option PV) (x2 : Int32) (x3 : Int32) (x4 : Int32) (z : Nat → Int32) (f : Nat → FA) (F : Nat) : rnG call 213 (F + 6) 59 [some (vR 0), o1, some (vI x2), some (vI x3), some (vI x4)] [] (LR z f) = rnG call 213 F 65 [some (vR 0), o1, some (vI x2), some (vI x3), some (vI x4)] [vI (47 + x4), vR 1, vI x3] (LR z f) := rfl
set_option maxRecDepth 100000 in
theorem bc52_213_10 (call : QC FA) (x : Int32) (s0 : Int32) (ls : List (Option PV)) (z : Nat → Int32) (f : Nat → FA) (F : Nat) : rnG call 213 (F + 1) 65 ls [vI x, vR 1, vI s0] (LR z f) = bif (Nat.beq 0 0 && pin x 499) then rnG call 213 F 66 ls [vI (f 1 (ix x)), vI s0] (LR z f) else none := rfl
set_option maxRecDepth 100000 in
theorem bc52_213_11 (call : QC FA) (o1 : Option PV) (x2 : Int32) (x3 : Int32) (x4 : Int32) (s0 : Int32) (s1 : Int32) (L : QH FA) (F : Nat) : rnG call 213 (F + 2) 66 [some (vR 0), o1, some (vI x2), some (vI x3), some (vI x4)] [vI s0, vI s1] L = rnG call 213 F 68 [some (vR 0), o1, some (vI x2), some (vI (s1 + s0)), some (vI x4)] [] L := rfl
set_option maxRecDepth 100000 in
theorem bc52_213_12 (call : QC FA) (o1 : Option PV) (x2 : Int32) (x3 : Int32) (x4 : Int32) (L : QH FA) (F : Nat) : rnG call 213 (F + 1) 68 [some (vR 0), o1, some (vI x2), some (vI x3), some (vI x4)] [] L = rnG call 213 F 69 [some (vR 0), o1, some (vI x2), some (vI x3), some (vI (x4 + 1))] [] L := rfl
set_option maxRecDepth 100000 in
theorem bc52_213_13 (call : QC FA) (o1 : Option PV) (x2 : Int32) (x3 : Int32) (x4 : Int32) (L : QH FA) (F : Nat) : rnG call 213 (F + 1) 69 [some (vR 0), o1, some (vI x2), some (vI x3), some (vI x4)] [] L = rnG call 213 F 52 [some (vR 0), o1, some (vI x2), some (vI x3), some (vI x4)] [] L := rfl
theorem vcc52_213_52 (d : Nat) (o1 : Option PV) (x2 : Int32) (x3 : Int32) (x4 : Int32) (z : Nat → Int32) (f : Nat → FA) (res : Option PV × QH FA) (H : ((I (z 6) ≤ I x4 → (∃ (z1 : Nat → Int32) (f1 : Nat → FA), (mcall (d + 7)) 207 [vR 0] (LR z f) = some (none, LR z1 f1) ∧ res = (some (vI x3), LR z1 f1))) ∧ (I x4 < I (z 6) → ((¬ x2 = 3 → (∃ (z2 : Nat → Int32) (f2 : Nat → FA), (mcall (d + 7)) 207 [vR 0] (LR z f) = some (none, LR z2 f2) ∧ res = (some (vI x3), LR z2 f2))) ∧ (x2 = 3 → (pin (47 + x4) 499 = true ∧ RC (mcall (d + 7)) (mP 213) 52 [some (vR 0), o1, some (vI x2), some (vI (x3 + (f 1 (ix (47 + x4))))), some (vI (x4 + 1))] [] (LR z f) res)))))) : RC (mcall (d + 7)) (mP 213) 52 [some (vR 0), o1, some (vI x2), some (vI x3), some (vI x4)] [] (LR z f) res := by
  refine rc_b (i' := 55) (ls' := [some (vR 0), o1, some (vI x2), some (vI x3), some (vI x4)]) (st' := [vI (z 6), vI x4]) (L' := LR z f) 3 (bc52_213_1 (mcall (d + 7)) o1 x2 x3 x4 z f) ?_
  refine rc_if (it := 70) (ie := 56) (ls' := [some (vR 0), o1, some (vI x2), some (vI x3), some (vI x4)]) (st' := []) (bc52_213_2 (mcall (d + 7)) x4 (z 6) _ _) (fun q1 => ?_) (fun q1 => ?_)
  · have H := H.1 (cI3t q1 rfl rfl)
    refine rc_b (i' := 71) (ls' := [some (vR 0), o1, some (vI x2), some (vI x3), some (vI x4)]) (st' := [vR 0]) (L' := LR z f) 1 (bc52_213_3 (mcall (d + 7)) o1 x2 x3 x4 _) ?_
    obtain ⟨z1, f1, hc, H⟩ := H
    refine rc_call (t := 72) (ls' := [some (vR 0), o1, some (vI x2), some (vI x3), some (vI x4)]) (st' := []) (bc52_213_4 (mcall (d + 7)) _ z f) hc ?_
    show RC (mcall (d + 7)) (mP 213) 72 [some (vR 0), o1, some (vI x2), some (vI x3), some (vI x4)] [] (LR z1 f1) res
    refine rc_b (i' := 73) (ls' := [some (vR 0), o1, some (vI x2), some (vI x3), some (vI x4)]) (st' := [vI x3]) (L' := LR z1 f1) 1 (bc52_213_5 (mcall (d + 7)) o1 x2 x3 x4 _) ?_
    subst H
    exact rc_ret (bc52_213_6 (mcall (d + 7)) _ _ _)
  · have H := H.2 (cI3f q1 rfl rfl)
    refine rc_b (i' := 58) (ls' := [some (vR 0), o1, some (vI x2), some (vI x3), some (vI x4)]) (st' := [vI 3, vI x2]) (L' := LR z f) 2 (bc52_213_7 (mcall (d + 7)) o1 x2 x3 x4 _) ?_
    refine rc_if (it := 70) (ie := 59) (ls' := [some (vR 0), o1, some (vI x2), some (vI x3), some (vI x4)]) (st' := []) (bc52_213_8 (mcall (d + 7)) x2 3 _ _) (fun q2 => ?_) (fun q2 => ?_)
    · have H := H.1 (cI1t q2)
      refine rc_b (i' := 71) (ls' := [some (vR 0), o1, some (vI x2), some (vI x3), some (vI x4)]) (st' := [vR 0]) (L' := LR z f) 1 (bc52_213_3 (mcall (d + 7)) o1 x2 x3 x4 _) ?_
      obtain ⟨z2, f2, hc, H⟩ := H
      refine rc_call (t := 72) (ls' := [some (vR 0), o1, some (vI x2), some (vI x3), some (vI x4)]) (st' := []) (bc52_213_4 (mcall (d + 7)) _ z f) hc ?_
      show RC (mcall (d + 7)) (mP 213) 72 [some (vR 0), o1, some (vI x2), some (vI x3), some (vI x4)] [] (LR z2 f2) res
      refine rc_b (i' := 73) (ls' := [some (vR 0), o1, some (vI x2), some (vI x3), some (vI x4)]) (st' := [vI x3]) (L' := LR z2 f2) 1 (bc52_213_5 (mcall (d + 7)) o1 x2 x3 x4 _) ?_
      subst H
      exact rc_ret (bc52_213_6 (mcall (d + 7)) _ _ _)
    · have H := H.2 (cI1f q2)
      refine rc_b (i' := 65) (ls' := [some (vR 0), o1, some (vI x2), some (vI x3), some (vI x4)]) (st' := [vI (47 + x4), vR 1, vI x3]) (L' := LR z f) 6 (bc52_213_9 (mcall (d + 7)) o1 x2 x3 x4 z f) ?_
      obtain ⟨g1, H⟩ := H
      refine rc_g (i' := 66) (ls' := [some (vR 0), o1, some (vI x2), some (vI x3), some (vI x4)]) (st' := [vI (f 1 (ix (47 + x4))), vI x3]) (L' := LR z f) (bc52_213_10 (mcall (d + 7)) (47 + x4) x3 _ z f) (pinG g1) ?_
      refine rc_b (i' := 68) (ls' := [some (vR 0), o1, some (vI x2), some (vI (x3 + (f 1 (ix (47 + x4))))), some (vI x4)]) (st' := []) (L' := LR z f) 2 (bc52_213_11 (mcall (d + 7)) o1 x2 x3 x4 (f 1 (ix (47 + x4))) x3 _) ?_
      refine rc_b (i' := 69) (ls' := [some (vR 0), o1, some (vI x2), some (vI (x3 + (f 1 (ix (47 + x4))))), some (vI (x4 + 1))]) (st' := []) (L' := LR z f) 1 (bc52_213_12 (mcall (d + 7)) o1 x2 (x3 + (f 1 (ix (47 + x4)))) x4 _) ?_
      refine rc_b (i' := 52) (ls' := [some (vR 0), o1, some (vI x2), some (vI (x3 + (f 1 (ix (47 + x4))))), some (vI (x4 + 1))]) (st' := []) (L' := LR z f) 1 (bc52_213_13 (mcall (d + 7)) o1 x2 (x3 + (f 1 (ix (47 + x4)))) (x4 + 1) _) ?_
      exact H
theorem cpW_0 (f g : FA) : cpW f g 0 = g := by
  funext j
  exact if_neg (Nat.not_lt_zero j)
theorem cpW_s (f g : FA) (x : Nat) : upd (cpW f g x) x (f x) = cpW f g (x + 1) := by
  funext j
  unfold upd cpW
  by_cases e : j = x
  · subst e
    rw [if_pos rfl, if_pos (by omega)]
  · rw [if_neg e]
    by_cases q : j < x
    · rw [if_pos q, if_pos (by omega)]
    · rw [if_neg q, if_neg (by omega)]
theorem mThinks (d : Nat) {z : Nat → Int32} {r : Nat → FA} : mcall (d + 2) 281 [vR 0] (LR z r) = some (none, LR (uZ z 5 1) (uA r 3 (cpW (r 1) (r 3) 499))) := by
  have lp : ∀ t x, x + t = 499 → RC (mcall (d + 1)) (mP 281) 2 [some (vR 0), some (vI (nI x))] [] (LR z (uA r 3 (cpW (r 1) (r 3) x))) (none, LR (uZ z 5 1) (uA r 3 (cpW (r 1) (r 3) 499))) := by
    intro t
    induction t with
    | zero =>
      intro x hx
      obtain rfl : x = 499 := by omega
      exact vcc2_281_2 d _ _ _ _ ⟨fun _ => ⟨by decide, rfl⟩, fun q => absurd q (by decide)⟩
    | succ t ih =>
      intro x hx
      have h := ih (x + 1) (by omega)
      rw [← nI_add x 1, ← cpW_s] at h
      refine vcc2_281_2 d _ _ _ _ ⟨fun q => ?_, fun _ => ⟨pin_nI (by omega) (by omega), pin_nI (by omega) (by omega), ?_⟩⟩
      · rw [I_nI (n := x) (by omega)] at q
        omega
      · rw [ix_nI (j := x) (by omega), uA_uA, uA_self, uA_ne (show (1 : Nat) ≠ 3 by decide)]
        exact h
  have h := lp 499 0 rfl
  rw [cpW_0, uA_id rfl] at h
  exact mcall_i (mq281 (cu := [])).2.2 rfl (vc281_0 d none z r _ h)
theorem mEnds (d : Nat) {z : Nat → Int32} {r : Nat → FA} : mcall (d + 2) 207 [vR 0] (LR z r) = some (none, LR (uZ z 5 0) (uA r 1 (cpW (r 3) (r 1) 499))) := by
  have lp : ∀ t x, x + t = 499 → RC (mcall (d + 1)) (mP 207) 2 [some (vR 0), some (vI (nI x))] [] (LR z (uA r 1 (cpW (r 3) (r 1) x))) (none, LR (uZ z 5 0) (uA r 1 (cpW (r 3) (r 1) 499))) := by
    intro t
    induction t with
    | zero =>
      intro x hx
      obtain rfl : x = 499 := by omega
      exact vcc2_207_2 d _ _ _ _ ⟨fun _ => ⟨by decide, rfl⟩, fun q => absurd q (by decide)⟩
    | succ t ih =>
      intro x hx
      have h := ih (x + 1) (by omega)
      rw [← nI_add x 1, ← cpW_s] at h
      refine vcc2_207_2 d _ _ _ _ ⟨fun q => ?_, fun _ => ⟨pin_nI (by omega) (by omega), pin_nI (by omega) (by omega), ?_⟩⟩
      · rw [I_nI (n := x) (by omega)] at q
        omega
      · rw [ix_nI (j := x) (by omega), uA_uA, uA_self, uA_ne (show (3 : Nat) ≠ 1 by decide)]
        exact h
  have h := lp 499 0 rfl
  rw [cpW_0, uA_id rfl] at h
  exact mcall_i (mq207 (cu := [])).2.2 rfl (vc207_0 d none z r _ h)
theorem mGoEnd (d : Nat) (o1 : Option PV) {x2 y x4 : Int32} {z : Nat → Int32} {r : Nat → FA} (h : x2 = 3 → I (z 6) ≤ I x4) : RC (mcall (d + 8)) (mP 213) 52 [some (vR 0), o1, some (vI x2), some (vI y), some (vI x4)] [] (LR z r) (some (vI y), LR (uZ z 5 0) (uA r 1 (cpW (r 3) (r 1) 499))) := vcc52_213_52 (d + 1) _ _ _ _ _ _ _ ⟨fun _ => ⟨_, _, mEnds (d + 6), rfl⟩, fun q => ⟨fun _ => ⟨_, _, mEnds (d + 6), rfl⟩, fun q2 => absurd (h q2) (by omega)⟩⟩
theorem RGA.st {c c2 k nv : Nat} {z zr z' zr' : Nat → Int32} {f r f' r' : Nat → FA} (g : RGA c c2 k nv z f zr r) (hz : ∀ j, 122 ≤ j → j < 322 → z' j = z j) (hf : ∀ j, 15 ≤ j → j < 32 → f' j = f j) (h3 : zr' 3 = zr 3) (h2 : r' 2 = r 2) (h4 : r' 4 = r 4) (h5 : r' 5 = r 5) (h6 : r' 6 = r 6) : RGA c c2 k nv z' f' zr' r' := by
  obtain ⟨p, hp, hc, hc2, hk1, hk2, g1, g2, g3, g4⟩ := g
  refine ⟨p, hp, hc, hc2, hk1, hk2, (hz 122 (by omega) (by omega)).trans g1, (hz 123 (by omega) (by omega)).trans g2, h3.trans g3, fun i hi => ?_⟩
  rw [h2, h4, h5, h6]
  exact (g4 i hi).st (fun i' h1 h2 => hz _ (by omega) (by omega)) (hf _ (by omega) (by omega)) (hf _ (by omega) (by omega))
