/-! telling, on the class's side -/
theorem pab (ih : QK FA) (t : Nat) (x : Int32) (ls : List (Option PV)) (st : List PV) (L : QH FA) (h : Nat.ble st.length 8 = true) : p_abs ih fzF t ls (vI x :: st) L = bif pcmp 3 x 0 then ih t ls (vI x :: st) L else ih t ls (vI (0 - x) :: st) L := by
  show (bif Nat.ble st.length 8 then (bif pcmp 3 x 0 then ih t ls (vI x :: st) L else ih t ls (vI (0 - x) :: st) L) else none) = _
  rw [h, cond_true]
theorem pmn (ih : QK FA) (t : Nat) (x y : Int32) (ls : List (Option PV)) (st : List PV) (L : QH FA) (h : Nat.ble st.length 8 = true) : p_min ih t ls (vI y :: vI x :: st) L = bif pcmp 2 y x then ih t ls (vI y :: st) L else ih t ls (vI x :: st) L := by
  show (bif Nat.ble st.length 8 then (bif pcmp 2 y x then ih t ls (vI y :: st) L else ih t ls (vI x :: st) L) else none) = _
  rw [h, cond_true]
theorem pmxr (ih : QK FA) (t : Nat) (x y : Int32) (ls : List (Option PV)) (st : List PV) (L : QH FA) (h : Nat.ble st.length 8 = true) : p_max ih t ls (vI y :: vI x :: st) L = bif pcmp 2 x y then ih t ls (vI y :: st) L else ih t ls (vI x :: st) L := by
  show (bif Nat.ble st.length 8 then (bif pcmp 2 x y then ih t ls (vI y :: st) L else ih t ls (vI x :: st) L) else none) = _
  rw [h, cond_true]
section TLs
variable {u : Nat → Option Nat}
set_option maxRecDepth 100000 in
theorem bt0_142_1 (call : QC FA) (x1 : Int32) (z : Nat → Int32) (f : Nat → FA) (F : Nat) : rnG call 142 (F + 2) 0 [some (vR 3), some (vI x1)] [] (LT u z f) = rnG call 142 F 2 [some (vR 3), some (vI x1)] [vI (z 3)] (LT u z f) := rfl
set_option maxRecDepth 100000 in
theorem bt0_142_2 (call : QC FA) (x : Int32) (ls : List (Option PV)) (L : QH FA) (F : Nat) : rnG call 142 (F + 1) 2 ls [vI x] L = bif pcmp 2 x 0 then rnG call 142 F 9 ls [] L else rnG call 142 F 3 ls [] L := rfl
set_option maxRecDepth 100000 in
theorem bt0_142_3 (call : QC FA) (x1 : Int32) (L : QH FA) (F : Nat) : rnG call 142 (F + 1) 9 [some (vR 3), some (vI x1)] [] L = rnG call 142 F 10 [some (vR 3), some (vI x1)] [vI ((-1))] L := rfl
set_option maxRecDepth 100000 in
theorem bt0_142_4 (call : QC FA) (x : Int32) (ls : List (Option PV)) (L : QH FA) (F : Nat) : rnG call 142 (F + 1) 10 ls [vI x] L = some (some (vI x), L) := rfl
set_option maxRecDepth 100000 in
theorem bt0_142_5 (call : QC FA) (x1 : Int32) (z : Nat → Int32) (f : Nat → FA) (F : Nat) : rnG call 142 (F + 5) 3 [some (vR 3), some (vI x1)] [] (LT u z f) = rnG call 142 F 8 [some (vR 3), some (vI x1)] [vI (nI 6), vI (z 3)] (LT u z f) := rfl
set_option maxRecDepth 100000 in
theorem bt0_142_6 (call : QC FA) (x y : Int32) (ls : List (Option PV)) (L : QH FA) (F : Nat) : rnG call 142 (F + 1) 8 ls [vI y, vI x] L = bif pcmp 2 x y then rnG call 142 F 11 ls [] L else rnG call 142 F 9 ls [] L := rfl
set_option maxRecDepth 100000 in
theorem bt0_142_7 (call : QC FA) (x1 : Int32) (z : Nat → Int32) (f : Nat → FA) (F : Nat) : rnG call 142 (F + 5) 11 [some (vR 3), some (vI x1)] [] (LT u z f) = rnG call 142 F 16 [some (vR 3), some (vI x1)] [vI x1, vI (z 3), vR 4] (LT u z f) := rfl
set_option maxRecDepth 100000 in
theorem bt0_142_8 (call : QC FA) (x y : Int32) (ls : List (Option PV)) (z : Nat → Int32) (f : Nat → FA) (F : Nat) : rnG call 142 (F + 1) 16 ls [vI y, vI x, vR 4] (LT u z f) = bif (Nat.beq 0 0 && pin x 6) then rnG call 142 F 17 ls [] (LT u z (uA f 4 (upd (f 4) (ix x) y))) else none := rfl
set_option maxRecDepth 100000 in
theorem bt0_142_9 (call : QC FA) (x1 : Int32) (z : Nat → Int32) (f : Nat → FA) (F : Nat) : rnG call 142 (F + 5) 17 [some (vR 3), some (vI x1)] [] (LT u z f) = rnG call 142 F 22 [some (vR 3), some (vI x1)] [vI ((z 3) + 1), vR 3] (LT u z f) := rfl
set_option maxRecDepth 100000 in
theorem bt0_142_10 (call : QC FA) (y : Int32) (ls : List (Option PV)) (z : Nat → Int32) (f : Nat → FA) (F : Nat) : rnG call 142 (F + 1) 22 ls [vI y, vR 3] (LT u z f) = rnG call 142 F 23 ls [] (LT u (uZ z 3 y) f) := rfl
set_option maxRecDepth 100000 in
theorem bt0_142_11 (call : QC FA) (x1 : Int32) (z : Nat → Int32) (f : Nat → FA) (F : Nat) : rnG call 142 (F + 2) 23 [some (vR 3), some (vI x1)] [] (LT u z f) = rnG call 142 F 25 [some (vR 3), some (vI x1)] [vI (z 3)] (LT u z f) := rfl
set_option maxRecDepth 100000 in
theorem bt0_142_12 (call : QC FA) (x : Int32) (ls : List (Option PV)) (L : QH FA) (F : Nat) : rnG call 142 (F + 1) 25 ls [vI x] L = some (some (vI x), L) := rfl
theorem vct0_142_0 (call : QC FA) (x1 : Int32) (z : Nat → Int32) (f : Nat → FA) (res : Option PV × QH FA) (H : ((I (z 3) < 0 → res = (some (vI ((-1))), LT u z f)) ∧ (0 ≤ I (z 3) → ((I (z 3) < I (nI 6) → (pin (z 3) 6 = true ∧ res = (some (vI ((z 3) + 1)), LT u (uZ z 3 ((z 3) + 1)) (uA f 4 (upd (f 4) (ix (z 3)) x1))))) ∧ (I (nI 6) ≤ I (z 3) → res = (some (vI ((-1))), LT u z f)))))) : RC call (mP 142) 0 [some (vR 3), some (vI x1)] [] (LT u z f) res := by
  refine rc_b (i' := 2) (ls' := [some (vR 3), some (vI x1)]) (st' := [vI (z 3)]) (L' := LT u z f) 2 (bt0_142_1 call x1 z f) ?_
  refine rc_if (it := 9) (ie := 3) (ls' := [some (vR 3), some (vI x1)]) (st' := []) (bt0_142_2 call (z 3) _ _) (fun q1 => ?_) (fun q1 => ?_)
  · have H := H.1 (cI2t q1 rfl rfl)
    refine rc_b (i' := 10) (ls' := [some (vR 3), some (vI x1)]) (st' := [vI ((-1))]) (L' := LT u z f) 1 (bt0_142_3 call x1 _) ?_
    subst H
    exact rc_ret (bt0_142_4 call _ _ _)
  · have H := H.2 (cI2f q1 rfl rfl)
    refine rc_b (i' := 8) (ls' := [some (vR 3), some (vI x1)]) (st' := [vI (nI 6), vI (z 3)]) (L' := LT u z f) 5 (bt0_142_5 call x1 z f) ?_
    refine rc_if (it := 11) (ie := 9) (ls' := [some (vR 3), some (vI x1)]) (st' := []) (bt0_142_6 call (z 3) (nI 6) _ _) (fun q2 => ?_) (fun q2 => ?_)
    · have H := H.1 (cI2t q2 rfl rfl)
      refine rc_b (i' := 16) (ls' := [some (vR 3), some (vI x1)]) (st' := [vI x1, vI (z 3), vR 4]) (L' := LT u z f) 5 (bt0_142_7 call x1 z f) ?_
      obtain ⟨g1, H⟩ := H
      refine rc_g (i' := 17) (ls' := [some (vR 3), some (vI x1)]) (st' := []) (L' := LT u z (uA f 4 (upd (f 4) (ix (z 3)) x1))) (bt0_142_8 call (z 3) x1 _ z f) (pinG g1) ?_
      refine rc_b (i' := 22) (ls' := [some (vR 3), some (vI x1)]) (st' := [vI ((z 3) + 1), vR 3]) (L' := LT u z (uA f 4 (upd (f 4) (ix (z 3)) x1))) 5 (bt0_142_9 call x1 z (uA f 4 (upd (f 4) (ix (z 3)) x1))) ?_
      refine rc_b (i' := 23) (ls' := [some (vR 3), some (vI x1)]) (st' := []) (L' := LT u (uZ z 3 ((z 3) + 1)) (uA f 4 (upd (f 4) (ix (z 3)) x1))) 1 (bt0_142_10 call ((z 3) + 1) _ z (uA f 4 (upd (f 4) (ix (z 3)) x1))) ?_
      refine rc_b (i' := 25) (ls' := [some (vR 3), some (vI x1)]) (st' := [vI ((z 3) + 1)]) (L' := LT u (uZ z 3 ((z 3) + 1)) (uA f 4 (upd (f 4) (ix (z 3)) x1))) 2 (bt0_142_11 call x1 (uZ z 3 ((z 3) + 1)) (uA f 4 (upd (f 4) (ix (z 3)) x1))) ?_
      subst H
      exact rc_ret (bt0_142_12 call _ _ _)
    · have H := H.2 (cI2f q2 rfl rfl)
      refine rc_b (i' := 10) (ls' := [some (vR 3), some (vI x1)]) (st' := [vI ((-1))]) (L' := LT u z f) 1 (bt0_142_3 call x1 _) ?_
      subst H
      exact rc_ret (bt0_142_4 call _ _ _)
set_option maxRecDepth 100000 in
theorem bt0_147_1 (call : QC FA) (x1 : Int32) (x2 : Int32) (x3 : Int32) (x4 : Int32) (L : QH FA) (F : Nat) : rnG call 147 (F + 1) 0 [some (vR 1), some (vI x1), some (vI x2), some (vI x3), some (vI x4)] [] L = rnG call 147 F 1 [some (vR 1), some (vI x1), some (vI x2), some (vI x3), some (vI x4)] [vI x1] L := rfl
set_option maxRecDepth 100000 in
theorem bt0_147_2 (call : QC FA) (x : Int32) (ls : List (Option PV)) (L : QH FA) (F : Nat) : rnG call 147 (F + 1) 1 ls [vI x] L = bif pcmp 2 x 0 then rnG call 147 F 5 ls [] L else rnG call 147 F 2 ls [] L := rfl
set_option maxRecDepth 100000 in
theorem bt0_147_3 (call : QC FA) (x1 : Int32) (x2 : Int32) (x3 : Int32) (x4 : Int32) (L : QH FA) (F : Nat) : rnG call 147 (F + 2) 2 [some (vR 1), some (vI x1), some (vI x2), some (vI x3), some (vI x4)] [] L = rnG call 147 F 4 [some (vR 1), some (vI x1), some (vI x2), some (vI x3), some (vI x4)] [vI 9, vI x1] L := rfl
set_option maxRecDepth 100000 in
theorem bt0_147_4 (call : QC FA) (x y : Int32) (ls : List (Option PV)) (L : QH FA) (F : Nat) : rnG call 147 (F + 1) 4 ls [vI y, vI x] L = bif pcmp 2 x y then rnG call 147 F 7 ls [] L else rnG call 147 F 5 ls [] L := rfl
set_option maxRecDepth 100000 in
theorem bt0_147_5 (call : QC FA) (x1 : Int32) (x2 : Int32) (x3 : Int32) (x4 : Int32) (L : QH FA) (F : Nat) : rnG call 147 (F + 1) 7 [some (vR 1), some (vI x1), some (vI x2), some (vI x3), some (vI x4)] [] L = rnG call 147 F 8 [some (vR 1), some (vI x1), some (vI x2), some (vI x3), some (vI x4)] [vI x2] L := rfl
set_option maxRecDepth 100000 in
theorem bt0_147_6 (call : QC FA) (x : Int32) (ls : List (Option PV)) (L : QH FA) (F : Nat) : rnG call 147 (F + 1) 8 ls [vI x] L = bif pcmp 0 x 0 then rnG call 147 F 17 ls [] L else rnG call 147 F 9 ls [] L := rfl
set_option maxRecDepth 100000 in
theorem bt0_147_7 (call : QC FA) (x1 : Int32) (x2 : Int32) (x3 : Int32) (x4 : Int32) (L : QH FA) (F : Nat) : rnG call 147 (F + 1) 17 [some (vR 1), some (vI x1), some (vI x2), some (vI x3), some (vI x4)] [] L = rnG call 147 F 18 [some (vR 1), some (vI x1), some (vI x2), some (vI x3), some (vI x4)] [vI x3] L := rfl
set_option maxRecDepth 100000 in
theorem bt0_147_8 (call : QC FA) (x : Int32) (ls : List (Option PV)) (L : QH FA) (F : Nat) : rnG call 147 (F + 1) 18 ls [vI x] L = bif pcmp 0 x 0 then rnG call 147 F 26 ls [] L else rnG call 147 F 19 ls [] L := rfl
set_option maxRecDepth 100000 in
theorem bt0_147_9 (call : QC FA) (x1 : Int32) (x2 : Int32) (x3 : Int32) (x4 : Int32) (L : QH FA) (F : Nat) : rnG call 147 (F + 1) 26 [some (vR 1), some (vI x1), some (vI x2), some (vI x3), some (vI x4)] [] L = rnG call 147 F 27 [some (vR 1), some (vI x1), some (vI x2), some (vI x3), some (vI x4)] [vI ((-1))] L := rfl
set_option maxRecDepth 100000 in
theorem bt0_147_10 (call : QC FA) (x : Int32) (ls : List (Option PV)) (L : QH FA) (F : Nat) : rnG call 147 (F + 1) 27 ls [vI x] L = some (some (vI x), L) := rfl
set_option maxRecDepth 100000 in
theorem bt0_147_11 (call : QC FA) (x1 : Int32) (x2 : Int32) (x3 : Int32) (x4 : Int32) (z : Nat → Int32) (f : Nat → FA) (F : Nat) : rnG call 147 (F + 3) 19 [some (vR 1), some (vI x1), some (vI x2), some (vI x3), some (vI x4)] [] (LT u z f) = rnG call 147 F 22 [some (vR 1), some (vI x1), some (vI x2), some (vI x3), some (vI x4)] [vI x1, vR 2] (LT u z f) := rfl
set_option maxRecDepth 100000 in
theorem bt0_147_12 (call : QC FA) (x : Int32) (ls : List (Option PV)) (z : Nat → Int32) (f : Nat → FA) (F : Nat) : rnG call 147 (F + 1) 22 ls [vI x, vR 2] (LT u z f) = bif ((Nat.beq 3 1 || (Nat.beq 3 2 || Nat.beq 3 3)) && pin x 9) then rnG call 147 F 23 ls [.inr (.inl (wT u (ix x)))] (LT u z f) else none := rfl
set_option maxRecDepth 100000 in
theorem bt0_147_13 (call : QC FA) (x1 : Int32) (x2 : Int32) (x3 : Int32) (x4 : Int32) (L : QH FA) (F : Nat) : rnG call 147 (F + 1) 23 [some (vR 1), some (vI x1), some (vI x2), some (vI x3), some (vI x4)] [vR 3] L = rnG call 147 F 24 [some (vR 1), some (vI x1), some (vI x2), some (vI x3), some (vI x4)] [vI x4, vR 3] L := rfl
set_option maxRecDepth 100000 in
theorem bt0_147_14 (call : QC FA) (a0 : Int32) (ls : List (Option PV)) (z : Nat → Int32) (f : Nat → FA) (F : Nat) : rnG call 147 (F + 1) 24 ls [vI a0, vR 3] (LT u z f) = cbd (call 142 [vR 3, vI a0] (LT u z f)) (fun r L' => rnG call 147 F 25 ls (r.toList ++ []) L') := pcY (ih := rnG call 147 F) (call := call) (a := 142) (b := 1) (v := 9) (t := 25) (x := 3) (ls := ls) (As := [vI a0]) (st' := []) (L := LT u z f) rfl rfl rfl
set_option maxRecDepth 100000 in
theorem bt0_147_15 (call : QC FA) (x1 : Int32) (x2 : Int32) (x3 : Int32) (x4 : Int32) (s0 : Int32) (L : QH FA) (F : Nat) : rnG call 147 (F + 1) 25 [some (vR 1), some (vI x1), some (vI x2), some (vI x3), some (vI x4)] [vI s0] L = rnG call 147 F 27 [some (vR 1), some (vI x1), some (vI x2), some (vI x3), some (vI x4)] [vI s0] L := rfl
set_option maxRecDepth 100000 in
theorem bt0_147_16 (call : QC FA) (x1 : Int32) (x2 : Int32) (x3 : Int32) (x4 : Int32) (z : Nat → Int32) (f : Nat → FA) (F : Nat) : rnG call 147 (F + 3) 9 [some (vR 1), some (vI x1), some (vI x2), some (vI x3), some (vI x4)] [] (LT u z f) = rnG call 147 F 12 [some (vR 1), some (vI x1), some (vI x2), some (vI x3), some (vI x4)] [vI x1, vR 2] (LT u z f) := rfl
set_option maxRecDepth 100000 in
theorem bt0_147_17 (call : QC FA) (x : Int32) (ls : List (Option PV)) (z : Nat → Int32) (f : Nat → FA) (F : Nat) : rnG call 147 (F + 1) 12 ls [vI x, vR 2] (LT u z f) = bif ((Nat.beq 3 1 || (Nat.beq 3 2 || Nat.beq 3 3)) && pin x 9) then rnG call 147 F 13 ls [.inr (.inl (wT u (ix x)))] (LT u z f) else none := rfl
set_option maxRecDepth 100000 in
theorem bt0_147_18 (call : QC FA) (x1 : Int32) (x2 : Int32) (x3 : Int32) (x4 : Int32) (L : QH FA) (F : Nat) : rnG call 147 (F + 1) 13 [some (vR 1), some (vI x1), some (vI x2), some (vI x3), some (vI x4)] [vR 3] L = rnG call 147 F 14 [some (vR 1), some (vI x1), some (vI x2), some (vI x3), some (vI x4)] [vI 0, vR 3] L := rfl
set_option maxRecDepth 100000 in
theorem bt0_147_19 (call : QC FA) (y : Int32) (ls : List (Option PV)) (z : Nat → Int32) (f : Nat → FA) (F : Nat) : rnG call 147 (F + 1) 14 ls [vI y, vR 3] (LT u z f) = rnG call 147 F 15 ls [] (LT u (uZ z 3 y) f) := rfl
set_option maxRecDepth 100000 in
theorem bt0_147_20 (call : QC FA) (x1 : Int32) (x2 : Int32) (x3 : Int32) (x4 : Int32) (L : QH FA) (F : Nat) : rnG call 147 (F + 1) 15 [some (vR 1), some (vI x1), some (vI x2), some (vI x3), some (vI x4)] [] L = rnG call 147 F 16 [some (vR 1), some (vI x1), some (vI x2), some (vI x3), some (vI x4)] [vI 0] L := rfl
set_option maxRecDepth 100000 in
theorem bt0_147_21 (call : QC FA) (x : Int32) (ls : List (Option PV)) (L : QH FA) (F : Nat) : rnG call 147 (F + 1) 16 ls [vI x] L = some (some (vI x), L) := rfl
theorem vct0_147_0 (call : QC FA) (x2 : Int32) (x3 : Int32) (x4 : Int32) (z : Nat → Int32) (f : Nat → FA) (res : Option PV × QH FA) (H : ((x2 = 0 → ((x3 = 0 → res = (some (vI ((-1))), LT u z f)) ∧ (¬ x3 = 0 → (∃ (r1 : Int32) (z1 : Nat → Int32) (f1 : Nat → FA), call 142 [vR 3, vI x4] (LT u z f) = some (some (vI r1), LT u z1 f1) ∧ res = (some (vI r1), LT u z1 f1))))) ∧ (¬ x2 = 0 → res = (some (vI 0), LT u (uZ z 3 0) f)))) : RC call (mP 147) 0 [some (vR 1), some (vI 0), some (vI x2), some (vI x3), some (vI x4)] [] (LT u z f) res := by
  refine rc_b (i' := 1) (ls' := [some (vR 1), some (vI 0), some (vI x2), some (vI x3), some (vI x4)]) (st' := [vI 0]) (L' := LT u z f) 1 (bt0_147_1 call 0 x2 x3 x4 _) ?_
  refine rc_f (it := 5) (ie := 2) (ls' := [some (vR 1), some (vI 0), some (vI x2), some (vI x3), some (vI x4)]) (st' := []) (bt0_147_2 call 0 _ _) (by decide) ?_
  refine rc_b (i' := 4) (ls' := [some (vR 1), some (vI 0), some (vI x2), some (vI x3), some (vI x4)]) (st' := [vI 9, vI 0]) (L' := LT u z f) 2 (bt0_147_3 call 0 x2 x3 x4 _) ?_
  refine rc_t (it := 7) (ie := 5) (ls' := [some (vR 1), some (vI 0), some (vI x2), some (vI x3), some (vI x4)]) (st' := []) (bt0_147_4 call 0 9 _ _) (by decide) ?_
  refine rc_b (i' := 8) (ls' := [some (vR 1), some (vI 0), some (vI x2), some (vI x3), some (vI x4)]) (st' := [vI x2]) (L' := LT u z f) 1 (bt0_147_5 call 0 x2 x3 x4 _) ?_
  refine rc_if (it := 17) (ie := 9) (ls' := [some (vR 1), some (vI 0), some (vI x2), some (vI x3), some (vI x4)]) (st' := []) (bt0_147_6 call x2 _ _) (fun q1 => ?_) (fun q1 => ?_)
  · have H := H.1 (cI0t q1)
    refine rc_b (i' := 18) (ls' := [some (vR 1), some (vI 0), some (vI x2), some (vI x3), some (vI x4)]) (st' := [vI x3]) (L' := LT u z f) 1 (bt0_147_7 call 0 x2 x3 x4 _) ?_
    refine rc_if (it := 26) (ie := 19) (ls' := [some (vR 1), some (vI 0), some (vI x2), some (vI x3), some (vI x4)]) (st' := []) (bt0_147_8 call x3 _ _) (fun q2 => ?_) (fun q2 => ?_)
    · have H := H.1 (cI0t q2)
      refine rc_b (i' := 27) (ls' := [some (vR 1), some (vI 0), some (vI x2), some (vI x3), some (vI x4)]) (st' := [vI ((-1))]) (L' := LT u z f) 1 (bt0_147_9 call 0 x2 x3 x4 _) ?_
      subst H
      exact rc_ret (bt0_147_10 call _ _ _)
    · have H := H.2 (cI0f q2)
      refine rc_b (i' := 22) (ls' := [some (vR 1), some (vI 0), some (vI x2), some (vI x3), some (vI x4)]) (st' := [vI 0, vR 2]) (L' := LT u z f) 3 (bt0_147_11 call 0 x2 x3 x4 z f) ?_
      refine rc_g (i' := 23) (ls' := [some (vR 1), some (vI 0), some (vI x2), some (vI x3), some (vI x4)]) (st' := [.inr (.inl (wT u (ix 0)))]) (L' := LT u z f) (bt0_147_12 call 0 _ z f) (by decide) ?_
      show RC call (mP 147) 23 [some (vR 1), some (vI 0), some (vI x2), some (vI x3), some (vI x4)] [vR 3] (LT u z f) res
      refine rc_b (i' := 24) (ls' := [some (vR 1), some (vI 0), some (vI x2), some (vI x3), some (vI x4)]) (st' := [vI x4, vR 3]) (L' := LT u z f) 1 (bt0_147_13 call 0 x2 x3 x4 _) ?_
      obtain ⟨r1, z1, f1, hc, H⟩ := H
      refine rc_call (t := 25) (ls' := [some (vR 1), some (vI 0), some (vI x2), some (vI x3), some (vI x4)]) (st' := []) (bt0_147_14 call x4 _ z f) hc ?_
      show RC call (mP 147) 25 [some (vR 1), some (vI 0), some (vI x2), some (vI x3), some (vI x4)] [vI r1] (LT u z1 f1) res
      refine rc_b (i' := 27) (ls' := [some (vR 1), some (vI 0), some (vI x2), some (vI x3), some (vI x4)]) (st' := [vI r1]) (L' := LT u z1 f1) 1 (bt0_147_15 call 0 x2 x3 x4 r1 _) ?_
      subst H
      exact rc_ret (bt0_147_10 call _ _ _)
  · have H := H.2 (cI0f q1)
    refine rc_b (i' := 12) (ls' := [some (vR 1), some (vI 0), some (vI x2), some (vI x3), some (vI x4)]) (st' := [vI 0, vR 2]) (L' := LT u z f) 3 (bt0_147_16 call 0 x2 x3 x4 z f) ?_
    refine rc_g (i' := 13) (ls' := [some (vR 1), some (vI 0), some (vI x2), some (vI x3), some (vI x4)]) (st' := [.inr (.inl (wT u (ix 0)))]) (L' := LT u z f) (bt0_147_17 call 0 _ z f) (by decide) ?_
    show RC call (mP 147) 13 [some (vR 1), some (vI 0), some (vI x2), some (vI x3), some (vI x4)] [vR 3] (LT u z f) res
    refine rc_b (i' := 14) (ls' := [some (vR 1), some (vI 0), some (vI x2), some (vI x3), some (vI x4)]) (st' := [vI 0, vR 3]) (L' := LT u z f) 1 (bt0_147_18 call 0 x2 x3 x4 _) ?_
    refine rc_b (i' := 15) (ls' := [some (vR 1), some (vI 0), some (vI x2), some (vI x3), some (vI x4)]) (st' := []) (L' := LT u (uZ z 3 0) f) 1 (bt0_147_19 call 0 _ z f) ?_
    refine rc_b (i' := 16) (ls' := [some (vR 1), some (vI 0), some (vI x2), some (vI x3), some (vI x4)]) (st' := [vI 0]) (L' := LT u (uZ z 3 0) f) 1 (bt0_147_20 call 0 x2 x3 x4 _) ?_
    subst H
    exact rc_ret (bt0_147_21 call _ _ _)
theorem c_ad0_p (d : Nat) (v : Int32) {z : Nat → Int32} {f : Nat → FA} {n : Nat} (hz : z 3 = nI n) (hn : n < 6) : mcall (d + 1) 142 [vR 3, vI v] (LT u z f) = some (some (vI (nI (n + 1))), LT u (uZ z 3 (nI (n + 1))) (uA f 4 (upd (f 4) n v))) := by
  have go : ∀ res, _ → mcall (d + 1) 142 [vR 3, vI v] (LT u z f) = some res := fun res H => mcall_i (mq142 (cu := [])).2.2 rfl (vct0_142_0 (mcall d) v z f res H)
  rw [hz, I_nI (n := n) (by omega), I_nI (n := 6) (by omega), show nI n + 1 = nI (n + 1) from nI_add n 1, ix_nI (j := n) (by omega)] at go
  exact go _ ⟨fun q => by omega, fun _ => ⟨fun _ => ⟨pin_nI (by omega) (by omega), rfl⟩, fun q => by omega⟩⟩
theorem c_ad0_f (d : Nat) (v : Int32) {z : Nat → Int32} {f : Nat → FA} (hz : z 3 = nI 6) : mcall (d + 1) 142 [vR 3, vI v] (LT u z f) = some (some (vI (-1)), LT u z f) := by
  have go : ∀ res, _ → mcall (d + 1) 142 [vR 3, vI v] (LT u z f) = some res := fun res H => mcall_i (mq142 (cu := [])).2.2 rfl (vct0_142_0 (mcall d) v z f res H)
  rw [hz, I_nI (n := 6) (by omega)] at go
  exact go _ ⟨fun q => by omega, fun _ => ⟨fun q => by omega, fun _ => rfl⟩⟩
theorem c_tl0_e (d : Nat) (x3 v : Int32) {z : Nat → Int32} {f : Nat → FA} : mcall (d + 2) 147 [vR 1, vI 0, vI 1, vI x3, vI v] (LT u z f) = some (some (vI 0), LT u (uZ z 3 0) f) := mcall_i (mq147 (cu := [])).2.2 rfl (vct0_147_0 (mcall (d + 1)) 1 x3 v z f _ ⟨fun q => absurd q (by decide), fun _ => rfl⟩)
theorem c_tl0_r (d : Nat) (v : Int32) {z : Nat → Int32} {f : Nat → FA} : mcall (d + 2) 147 [vR 1, vI 0, vI 0, vI 0, vI v] (LT u z f) = some (some (vI (-1)), LT u z f) := mcall_i (mq147 (cu := [])).2.2 rfl (vct0_147_0 (mcall (d + 1)) 0 0 v z f _ ⟨fun _ => ⟨fun _ => rfl, fun q => absurd rfl q⟩, fun q => absurd rfl q⟩)
theorem c_tl0_p (d : Nat) (v : Int32) {z : Nat → Int32} {f : Nat → FA} {n : Nat} (hz : z 3 = nI n) (hn : n < 6) : mcall (d + 2) 147 [vR 1, vI 0, vI 0, vI 1, vI v] (LT u z f) = some (some (vI (nI (n + 1))), LT u (uZ z 3 (nI (n + 1))) (uA f 4 (upd (f 4) n v))) := mcall_i (mq147 (cu := [])).2.2 rfl (vct0_147_0 (mcall (d + 1)) 0 1 v z f _ ⟨fun _ => ⟨fun q => absurd q (by decide), fun _ => ⟨_, _, _, c_ad0_p d v hz hn, rfl⟩⟩, fun q => absurd rfl q⟩)
theorem c_tl0_f (d : Nat) (v : Int32) {z : Nat → Int32} {f : Nat → FA} (hz : z 3 = nI 6) : mcall (d + 2) 147 [vR 1, vI 0, vI 0, vI 1, vI v] (LT u z f) = some (some (vI (-1)), LT u z f) := mcall_i (mq147 (cu := [])).2.2 rfl (vct0_147_0 (mcall (d + 1)) 0 1 v z f _ ⟨fun _ => ⟨fun q => absurd q (by decide), fun _ => ⟨_, _, _, c_ad0_f d v hz, rfl⟩⟩, fun q => absurd rfl q⟩)
set_option maxRecDepth 100000 in
theorem bt1_142_1 (call : QC FA) (x1 : Int32) (z : Nat → Int32) (f : Nat → FA) (F : Nat) : rnG call 142 (F + 2) 0 [some (vR 5), some (vI x1)] [] (LT u z f) = rnG call 142 F 2 [some (vR 5), some (vI x1)] [vI (z 5)] (LT u z f) := rfl
set_option maxRecDepth 100000 in
theorem bt1_142_2 (call : QC FA) (x : Int32) (ls : List (Option PV)) (L : QH FA) (F : Nat) : rnG call 142 (F + 1) 2 ls [vI x] L = bif pcmp 2 x 0 then rnG call 142 F 9 ls [] L else rnG call 142 F 3 ls [] L := rfl
set_option maxRecDepth 100000 in
theorem bt1_142_3 (call : QC FA) (x1 : Int32) (L : QH FA) (F : Nat) : rnG call 142 (F + 1) 9 [some (vR 5), some (vI x1)] [] L = rnG call 142 F 10 [some (vR 5), some (vI x1)] [vI ((-1))] L := rfl
set_option maxRecDepth 100000 in
theorem bt1_142_4 (call : QC FA) (x : Int32) (ls : List (Option PV)) (L : QH FA) (F : Nat) : rnG call 142 (F + 1) 10 ls [vI x] L = some (some (vI x), L) := rfl
set_option maxRecDepth 100000 in
theorem bt1_142_5 (call : QC FA) (x1 : Int32) (z : Nat → Int32) (f : Nat → FA) (F : Nat) : rnG call 142 (F + 5) 3 [some (vR 5), some (vI x1)] [] (LT u z f) = rnG call 142 F 8 [some (vR 5), some (vI x1)] [vI (nI 16), vI (z 5)] (LT u z f) := rfl
set_option maxRecDepth 100000 in
theorem bt1_142_6 (call : QC FA) (x y : Int32) (ls : List (Option PV)) (L : QH FA) (F : Nat) : rnG call 142 (F + 1) 8 ls [vI y, vI x] L = bif pcmp 2 x y then rnG call 142 F 11 ls [] L else rnG call 142 F 9 ls [] L := rfl
set_option maxRecDepth 100000 in
theorem bt1_142_7 (call : QC FA) (x1 : Int32) (z : Nat → Int32) (f : Nat → FA) (F : Nat) : rnG call 142 (F + 5) 11 [some (vR 5), some (vI x1)] [] (LT u z f) = rnG call 142 F 16 [some (vR 5), some (vI x1)] [vI x1, vI (z 5), vR 6] (LT u z f) := rfl
set_option maxRecDepth 100000 in
theorem bt1_142_8 (call : QC FA) (x y : Int32) (ls : List (Option PV)) (z : Nat → Int32) (f : Nat → FA) (F : Nat) : rnG call 142 (F + 1) 16 ls [vI y, vI x, vR 6] (LT u z f) = bif (Nat.beq 0 0 && pin x 16) then rnG call 142 F 17 ls [] (LT u z (uA f 6 (upd (f 6) (ix x) y))) else none := rfl
set_option maxRecDepth 100000 in
theorem bt1_142_9 (call : QC FA) (x1 : Int32) (z : Nat → Int32) (f : Nat → FA) (F : Nat) : rnG call 142 (F + 5) 17 [some (vR 5), some (vI x1)] [] (LT u z f) = rnG call 142 F 22 [some (vR 5), some (vI x1)] [vI ((z 5) + 1), vR 5] (LT u z f) := rfl
set_option maxRecDepth 100000 in
theorem bt1_142_10 (call : QC FA) (y : Int32) (ls : List (Option PV)) (z : Nat → Int32) (f : Nat → FA) (F : Nat) : rnG call 142 (F + 1) 22 ls [vI y, vR 5] (LT u z f) = rnG call 142 F 23 ls [] (LT u (uZ z 5 y) f) := rfl
set_option maxRecDepth 100000 in
theorem bt1_142_11 (call : QC FA) (x1 : Int32) (z : Nat → Int32) (f : Nat → FA) (F : Nat) : rnG call 142 (F + 2) 23 [some (vR 5), some (vI x1)] [] (LT u z f) = rnG call 142 F 25 [some (vR 5), some (vI x1)] [vI (z 5)] (LT u z f) := rfl
set_option maxRecDepth 100000 in
theorem bt1_142_12 (call : QC FA) (x : Int32) (ls : List (Option PV)) (L : QH FA) (F : Nat) : rnG call 142 (F + 1) 25 ls [vI x] L = some (some (vI x), L) := rfl
theorem vct1_142_0 (call : QC FA) (x1 : Int32) (z : Nat → Int32) (f : Nat → FA) (res : Option PV × QH FA) (H : ((I (z 5) < 0 → res = (some (vI ((-1))), LT u z f)) ∧ (0 ≤ I (z 5) → ((I (z 5) < I (nI 16) → (pin (z 5) 16 = true ∧ res = (some (vI ((z 5) + 1)), LT u (uZ z 5 ((z 5) + 1)) (uA f 6 (upd (f 6) (ix (z 5)) x1))))) ∧ (I (nI 16) ≤ I (z 5) → res = (some (vI ((-1))), LT u z f)))))) : RC call (mP 142) 0 [some (vR 5), some (vI x1)] [] (LT u z f) res := by
  refine rc_b (i' := 2) (ls' := [some (vR 5), some (vI x1)]) (st' := [vI (z 5)]) (L' := LT u z f) 2 (bt1_142_1 call x1 z f) ?_
  refine rc_if (it := 9) (ie := 3) (ls' := [some (vR 5), some (vI x1)]) (st' := []) (bt1_142_2 call (z 5) _ _) (fun q1 => ?_) (fun q1 => ?_)
  · have H := H.1 (cI2t q1 rfl rfl)
    refine rc_b (i' := 10) (ls' := [some (vR 5), some (vI x1)]) (st' := [vI ((-1))]) (L' := LT u z f) 1 (bt1_142_3 call x1 _) ?_
    subst H
    exact rc_ret (bt1_142_4 call _ _ _)
  · have H := H.2 (cI2f q1 rfl rfl)
    refine rc_b (i' := 8) (ls' := [some (vR 5), some (vI x1)]) (st' := [vI (nI 16), vI (z 5)]) (L' := LT u z f) 5 (bt1_142_5 call x1 z f) ?_
    refine rc_if (it := 11) (ie := 9) (ls' := [some (vR 5), some (vI x1)]) (st' := []) (bt1_142_6 call (z 5) (nI 16) _ _) (fun q2 => ?_) (fun q2 => ?_)
    · have H := H.1 (cI2t q2 rfl rfl)
      refine rc_b (i' := 16) (ls' := [some (vR 5), some (vI x1)]) (st' := [vI x1, vI (z 5), vR 6]) (L' := LT u z f) 5 (bt1_142_7 call x1 z f) ?_
      obtain ⟨g1, H⟩ := H
      refine rc_g (i' := 17) (ls' := [some (vR 5), some (vI x1)]) (st' := []) (L' := LT u z (uA f 6 (upd (f 6) (ix (z 5)) x1))) (bt1_142_8 call (z 5) x1 _ z f) (pinG g1) ?_
      refine rc_b (i' := 22) (ls' := [some (vR 5), some (vI x1)]) (st' := [vI ((z 5) + 1), vR 5]) (L' := LT u z (uA f 6 (upd (f 6) (ix (z 5)) x1))) 5 (bt1_142_9 call x1 z (uA f 6 (upd (f 6) (ix (z 5)) x1))) ?_
      refine rc_b (i' := 23) (ls' := [some (vR 5), some (vI x1)]) (st' := []) (L' := LT u (uZ z 5 ((z 5) + 1)) (uA f 6 (upd (f 6) (ix (z 5)) x1))) 1 (bt1_142_10 call ((z 5) + 1) _ z (uA f 6 (upd (f 6) (ix (z 5)) x1))) ?_
      refine rc_b (i' := 25) (ls' := [some (vR 5), some (vI x1)]) (st' := [vI ((z 5) + 1)]) (L' := LT u (uZ z 5 ((z 5) + 1)) (uA f 6 (upd (f 6) (ix (z 5)) x1))) 2 (bt1_142_11 call x1 (uZ z 5 ((z 5) + 1)) (uA f 6 (upd (f 6) (ix (z 5)) x1))) ?_
      subst H
      exact rc_ret (bt1_142_12 call _ _ _)
    · have H := H.2 (cI2f q2 rfl rfl)
      refine rc_b (i' := 10) (ls' := [some (vR 5), some (vI x1)]) (st' := [vI ((-1))]) (L' := LT u z f) 1 (bt1_142_3 call x1 _) ?_
      subst H
      exact rc_ret (bt1_142_4 call _ _ _)
set_option maxRecDepth 100000 in
theorem bt1_147_1 (call : QC FA) (x1 : Int32) (x2 : Int32) (x3 : Int32) (x4 : Int32) (L : QH FA) (F : Nat) : rnG call 147 (F + 1) 0 [some (vR 1), some (vI x1), some (vI x2), some (vI x3), some (vI x4)] [] L = rnG call 147 F 1 [some (vR 1), some (vI x1), some (vI x2), some (vI x3), some (vI x4)] [vI x1] L := rfl
set_option maxRecDepth 100000 in
theorem bt1_147_2 (call : QC FA) (x : Int32) (ls : List (Option PV)) (L : QH FA) (F : Nat) : rnG call 147 (F + 1) 1 ls [vI x] L = bif pcmp 2 x 0 then rnG call 147 F 5 ls [] L else rnG call 147 F 2 ls [] L := rfl
set_option maxRecDepth 100000 in
theorem bt1_147_3 (call : QC FA) (x1 : Int32) (x2 : Int32) (x3 : Int32) (x4 : Int32) (L : QH FA) (F : Nat) : rnG call 147 (F + 2) 2 [some (vR 1), some (vI x1), some (vI x2), some (vI x3), some (vI x4)] [] L = rnG call 147 F 4 [some (vR 1), some (vI x1), some (vI x2), some (vI x3), some (vI x4)] [vI 9, vI x1] L := rfl
set_option maxRecDepth 100000 in
theorem bt1_147_4 (call : QC FA) (x y : Int32) (ls : List (Option PV)) (L : QH FA) (F : Nat) : rnG call 147 (F + 1) 4 ls [vI y, vI x] L = bif pcmp 2 x y then rnG call 147 F 7 ls [] L else rnG call 147 F 5 ls [] L := rfl
set_option maxRecDepth 100000 in
theorem bt1_147_5 (call : QC FA) (x1 : Int32) (x2 : Int32) (x3 : Int32) (x4 : Int32) (L : QH FA) (F : Nat) : rnG call 147 (F + 1) 7 [some (vR 1), some (vI x1), some (vI x2), some (vI x3), some (vI x4)] [] L = rnG call 147 F 8 [some (vR 1), some (vI x1), some (vI x2), some (vI x3), some (vI x4)] [vI x2] L := rfl
set_option maxRecDepth 100000 in
theorem bt1_147_6 (call : QC FA) (x : Int32) (ls : List (Option PV)) (L : QH FA) (F : Nat) : rnG call 147 (F + 1) 8 ls [vI x] L = bif pcmp 0 x 0 then rnG call 147 F 17 ls [] L else rnG call 147 F 9 ls [] L := rfl
set_option maxRecDepth 100000 in
theorem bt1_147_7 (call : QC FA) (x1 : Int32) (x2 : Int32) (x3 : Int32) (x4 : Int32) (L : QH FA) (F : Nat) : rnG call 147 (F + 1) 17 [some (vR 1), some (vI x1), some (vI x2), some (vI x3), some (vI x4)] [] L = rnG call 147 F 18 [some (vR 1), some (vI x1), some (vI x2), some (vI x3), some (vI x4)] [vI x3] L := rfl
set_option maxRecDepth 100000 in
theorem bt1_147_8 (call : QC FA) (x : Int32) (ls : List (Option PV)) (L : QH FA) (F : Nat) : rnG call 147 (F + 1) 18 ls [vI x] L = bif pcmp 0 x 0 then rnG call 147 F 26 ls [] L else rnG call 147 F 19 ls [] L := rfl
set_option maxRecDepth 100000 in
theorem bt1_147_9 (call : QC FA) (x1 : Int32) (x2 : Int32) (x3 : Int32) (x4 : Int32) (L : QH FA) (F : Nat) : rnG call 147 (F + 1) 26 [some (vR 1), some (vI x1), some (vI x2), some (vI x3), some (vI x4)] [] L = rnG call 147 F 27 [some (vR 1), some (vI x1), some (vI x2), some (vI x3), some (vI x4)] [vI ((-1))] L := rfl
set_option maxRecDepth 100000 in
theorem bt1_147_10 (call : QC FA) (x : Int32) (ls : List (Option PV)) (L : QH FA) (F : Nat) : rnG call 147 (F + 1) 27 ls [vI x] L = some (some (vI x), L) := rfl
set_option maxRecDepth 100000 in
theorem bt1_147_11 (call : QC FA) (x1 : Int32) (x2 : Int32) (x3 : Int32) (x4 : Int32) (z : Nat → Int32) (f : Nat → FA) (F : Nat) : rnG call 147 (F + 3) 19 [some (vR 1), some (vI x1), some (vI x2), some (vI x3), some (vI x4)] [] (LT u z f) = rnG call 147 F 22 [some (vR 1), some (vI x1), some (vI x2), some (vI x3), some (vI x4)] [vI x1, vR 2] (LT u z f) := rfl
set_option maxRecDepth 100000 in
theorem bt1_147_12 (call : QC FA) (x : Int32) (ls : List (Option PV)) (z : Nat → Int32) (f : Nat → FA) (F : Nat) : rnG call 147 (F + 1) 22 ls [vI x, vR 2] (LT u z f) = bif ((Nat.beq 3 1 || (Nat.beq 3 2 || Nat.beq 3 3)) && pin x 9) then rnG call 147 F 23 ls [.inr (.inl (wT u (ix x)))] (LT u z f) else none := rfl
set_option maxRecDepth 100000 in
theorem bt1_147_13 (call : QC FA) (x1 : Int32) (x2 : Int32) (x3 : Int32) (x4 : Int32) (L : QH FA) (F : Nat) : rnG call 147 (F + 1) 23 [some (vR 1), some (vI x1), some (vI x2), some (vI x3), some (vI x4)] [vR 5] L = rnG call 147 F 24 [some (vR 1), some (vI x1), some (vI x2), some (vI x3), some (vI x4)] [vI x4, vR 5] L := rfl
set_option maxRecDepth 100000 in
theorem bt1_147_14 (call : QC FA) (a0 : Int32) (ls : List (Option PV)) (z : Nat → Int32) (f : Nat → FA) (F : Nat) : rnG call 147 (F + 1) 24 ls [vI a0, vR 5] (LT u z f) = cbd (call 142 [vR 5, vI a0] (LT u z f)) (fun r L' => rnG call 147 F 25 ls (r.toList ++ []) L') := pcY (ih := rnG call 147 F) (call := call) (a := 142) (b := 1) (v := 9) (t := 25) (x := 5) (ls := ls) (As := [vI a0]) (st' := []) (L := LT u z f) rfl rfl rfl
set_option maxRecDepth 100000 in
theorem bt1_147_15 (call : QC FA) (x1 : Int32) (x2 : Int32) (x3 : Int32) (x4 : Int32) (s0 : Int32) (L : QH FA) (F : Nat) : rnG call 147 (F + 1) 25 [some (vR 1), some (vI x1), some (vI x2), some (vI x3), some (vI x4)] [vI s0] L = rnG call 147 F 27 [some (vR 1), some (vI x1), some (vI x2), some (vI x3), some (vI x4)] [vI s0] L := rfl
set_option maxRecDepth 100000 in
theorem bt1_147_16 (call : QC FA) (x1 : Int32) (x2 : Int32) (x3 : Int32) (x4 : Int32) (z : Nat → Int32) (f : Nat → FA) (F : Nat) : rnG call 147 (F + 3) 9 [some (vR 1), some (vI x1), some (vI x2), some (vI x3), some (vI x4)] [] (LT u z f) = rnG call 147 F 12 [some (vR 1), some (vI x1), some (vI x2), some (vI x3), some (vI x4)] [vI x1, vR 2] (LT u z f) := rfl
set_option maxRecDepth 100000 in
theorem bt1_147_17 (call : QC FA) (x : Int32) (ls : List (Option PV)) (z : Nat → Int32) (f : Nat → FA) (F : Nat) : rnG call 147 (F + 1) 12 ls [vI x, vR 2] (LT u z f) = bif ((Nat.beq 3 1 || (Nat.beq 3 2 || Nat.beq 3 3)) && pin x 9) then rnG call 147 F 13 ls [.inr (.inl (wT u (ix x)))] (LT u z f) else none := rfl
set_option maxRecDepth 100000 in
theorem bt1_147_18 (call : QC FA) (x1 : Int32) (x2 : Int32) (x3 : Int32) (x4 : Int32) (L : QH FA) (F : Nat) : rnG call 147 (F + 1) 13 [some (vR 1), some (vI x1), some (vI x2), some (vI x3), some (vI x4)] [vR 5] L = rnG call 147 F 14 [some (vR 1), some (vI x1), some (vI x2), some (vI x3), some (vI x4)] [vI 0, vR 5] L := rfl
set_option maxRecDepth 100000 in
theorem bt1_147_19 (call : QC FA) (y : Int32) (ls : List (Option PV)) (z : Nat → Int32) (f : Nat → FA) (F : Nat) : rnG call 147 (F + 1) 14 ls [vI y, vR 5] (LT u z f) = rnG call 147 F 15 ls [] (LT u (uZ z 5 y) f) := rfl
set_option maxRecDepth 100000 in
theorem bt1_147_20 (call : QC FA) (x1 : Int32) (x2 : Int32) (x3 : Int32) (x4 : Int32) (L : QH FA) (F : Nat) : rnG call 147 (F + 1) 15 [some (vR 1), some (vI x1), some (vI x2), some (vI x3), some (vI x4)] [] L = rnG call 147 F 16 [some (vR 1), some (vI x1), some (vI x2), some (vI x3), some (vI x4)] [vI 0] L := rfl
set_option maxRecDepth 100000 in
theorem bt1_147_21 (call : QC FA) (x : Int32) (ls : List (Option PV)) (L : QH FA) (F : Nat) : rnG call 147 (F + 1) 16 ls [vI x] L = some (some (vI x), L) := rfl
theorem vct1_147_0 (call : QC FA) (x2 : Int32) (x3 : Int32) (x4 : Int32) (z : Nat → Int32) (f : Nat → FA) (res : Option PV × QH FA) (H : ((x2 = 0 → ((x3 = 0 → res = (some (vI ((-1))), LT u z f)) ∧ (¬ x3 = 0 → (∃ (r1 : Int32) (z1 : Nat → Int32) (f1 : Nat → FA), call 142 [vR 5, vI x4] (LT u z f) = some (some (vI r1), LT u z1 f1) ∧ res = (some (vI r1), LT u z1 f1))))) ∧ (¬ x2 = 0 → res = (some (vI 0), LT u (uZ z 5 0) f)))) : RC call (mP 147) 0 [some (vR 1), some (vI 1), some (vI x2), some (vI x3), some (vI x4)] [] (LT u z f) res := by
  refine rc_b (i' := 1) (ls' := [some (vR 1), some (vI 1), some (vI x2), some (vI x3), some (vI x4)]) (st' := [vI 1]) (L' := LT u z f) 1 (bt1_147_1 call 1 x2 x3 x4 _) ?_
  refine rc_f (it := 5) (ie := 2) (ls' := [some (vR 1), some (vI 1), some (vI x2), some (vI x3), some (vI x4)]) (st' := []) (bt1_147_2 call 1 _ _) (by decide) ?_
  refine rc_b (i' := 4) (ls' := [some (vR 1), some (vI 1), some (vI x2), some (vI x3), some (vI x4)]) (st' := [vI 9, vI 1]) (L' := LT u z f) 2 (bt1_147_3 call 1 x2 x3 x4 _) ?_
  refine rc_t (it := 7) (ie := 5) (ls' := [some (vR 1), some (vI 1), some (vI x2), some (vI x3), some (vI x4)]) (st' := []) (bt1_147_4 call 1 9 _ _) (by decide) ?_
  refine rc_b (i' := 8) (ls' := [some (vR 1), some (vI 1), some (vI x2), some (vI x3), some (vI x4)]) (st' := [vI x2]) (L' := LT u z f) 1 (bt1_147_5 call 1 x2 x3 x4 _) ?_
  refine rc_if (it := 17) (ie := 9) (ls' := [some (vR 1), some (vI 1), some (vI x2), some (vI x3), some (vI x4)]) (st' := []) (bt1_147_6 call x2 _ _) (fun q1 => ?_) (fun q1 => ?_)
  · have H := H.1 (cI0t q1)
    refine rc_b (i' := 18) (ls' := [some (vR 1), some (vI 1), some (vI x2), some (vI x3), some (vI x4)]) (st' := [vI x3]) (L' := LT u z f) 1 (bt1_147_7 call 1 x2 x3 x4 _) ?_
    refine rc_if (it := 26) (ie := 19) (ls' := [some (vR 1), some (vI 1), some (vI x2), some (vI x3), some (vI x4)]) (st' := []) (bt1_147_8 call x3 _ _) (fun q2 => ?_) (fun q2 => ?_)
    · have H := H.1 (cI0t q2)
      refine rc_b (i' := 27) (ls' := [some (vR 1), some (vI 1), some (vI x2), some (vI x3), some (vI x4)]) (st' := [vI ((-1))]) (L' := LT u z f) 1 (bt1_147_9 call 1 x2 x3 x4 _) ?_
      subst H
      exact rc_ret (bt1_147_10 call _ _ _)
    · have H := H.2 (cI0f q2)
      refine rc_b (i' := 22) (ls' := [some (vR 1), some (vI 1), some (vI x2), some (vI x3), some (vI x4)]) (st' := [vI 1, vR 2]) (L' := LT u z f) 3 (bt1_147_11 call 1 x2 x3 x4 z f) ?_
      refine rc_g (i' := 23) (ls' := [some (vR 1), some (vI 1), some (vI x2), some (vI x3), some (vI x4)]) (st' := [.inr (.inl (wT u (ix 1)))]) (L' := LT u z f) (bt1_147_12 call 1 _ z f) (by decide) ?_
      show RC call (mP 147) 23 [some (vR 1), some (vI 1), some (vI x2), some (vI x3), some (vI x4)] [vR 5] (LT u z f) res
      refine rc_b (i' := 24) (ls' := [some (vR 1), some (vI 1), some (vI x2), some (vI x3), some (vI x4)]) (st' := [vI x4, vR 5]) (L' := LT u z f) 1 (bt1_147_13 call 1 x2 x3 x4 _) ?_
      obtain ⟨r1, z1, f1, hc, H⟩ := H
      refine rc_call (t := 25) (ls' := [some (vR 1), some (vI 1), some (vI x2), some (vI x3), some (vI x4)]) (st' := []) (bt1_147_14 call x4 _ z f) hc ?_
      show RC call (mP 147) 25 [some (vR 1), some (vI 1), some (vI x2), some (vI x3), some (vI x4)] [vI r1] (LT u z1 f1) res
      refine rc_b (i' := 27) (ls' := [some (vR 1), some (vI 1), some (vI x2), some (vI x3), some (vI x4)]) (st' := [vI r1]) (L' := LT u z1 f1) 1 (bt1_147_15 call 1 x2 x3 x4 r1 _) ?_
      subst H
      exact rc_ret (bt1_147_10 call _ _ _)
  · have H := H.2 (cI0f q1)
    refine rc_b (i' := 12) (ls' := [some (vR 1), some (vI 1), some (vI x2), some (vI x3), some (vI x4)]) (st' := [vI 1, vR 2]) (L' := LT u z f) 3 (bt1_147_16 call 1 x2 x3 x4 z f) ?_
    refine rc_g (i' := 13) (ls' := [some (vR 1), some (vI 1), some (vI x2), some (vI x3), some (vI x4)]) (st' := [.inr (.inl (wT u (ix 1)))]) (L' := LT u z f) (bt1_147_17 call 1 _ z f) (by decide) ?_
    show RC call (mP 147) 13 [some (vR 1), some (vI 1), some (vI x2), some (vI x3), some (vI x4)] [vR 5] (LT u z f) res
    refine rc_b (i' := 14) (ls' := [some (vR 1), some (vI 1), some (vI x2), some (vI x3), some (vI x4)]) (st' := [vI 0, vR 5]) (L' := LT u z f) 1 (bt1_147_18 call 1 x2 x3 x4 _) ?_
    refine rc_b (i' := 15) (ls' := [some (vR 1), some (vI 1), some (vI x2), some (vI x3), some (vI x4)]) (st' := []) (L' := LT u (uZ z 5 0) f) 1 (bt1_147_19 call 0 _ z f) ?_
    refine rc_b (i' := 16) (ls' := [some (vR 1), some (vI 1), some (vI x2), some (vI x3), some (vI x4)]) (st' := [vI 0]) (L' := LT u (uZ z 5 0) f) 1 (bt1_147_20 call 1 x2 x3 x4 _) ?_
    subst H
    exact rc_ret (bt1_147_21 call _ _ _)
theorem c_ad1_p (d : Nat) (v : Int32) {z : Nat → Int32} {f : Nat → FA} {n : Nat} (hz : z 5 = nI n) (hn : n < 16) : mcall (d + 1) 142 [vR 5, vI v] (LT u z f) = some (some (vI (nI (n + 1))), LT u (uZ z 5 (nI (n + 1))) (uA f 6 (upd (f 6) n v))) := by
  have go : ∀ res, _ → mcall (d + 1) 142 [vR 5, vI v] (LT u z f) = some res := fun res H => mcall_i (mq142 (cu := [])).2.2 rfl (vct1_142_0 (mcall d) v z f res H)
  rw [hz, I_nI (n := n) (by omega), I_nI (n := 16) (by omega), show nI n + 1 = nI (n + 1) from nI_add n 1, ix_nI (j := n) (by omega)] at go
  exact go _ ⟨fun q => by omega, fun _ => ⟨fun _ => ⟨pin_nI (by omega) (by omega), rfl⟩, fun q => by omega⟩⟩
theorem c_ad1_f (d : Nat) (v : Int32) {z : Nat → Int32} {f : Nat → FA} (hz : z 5 = nI 16) : mcall (d + 1) 142 [vR 5, vI v] (LT u z f) = some (some (vI (-1)), LT u z f) := by
  have go : ∀ res, _ → mcall (d + 1) 142 [vR 5, vI v] (LT u z f) = some res := fun res H => mcall_i (mq142 (cu := [])).2.2 rfl (vct1_142_0 (mcall d) v z f res H)
  rw [hz, I_nI (n := 16) (by omega)] at go
  exact go _ ⟨fun q => by omega, fun _ => ⟨fun q => by omega, fun _ => rfl⟩⟩
theorem c_tl1_e (d : Nat) (x3 v : Int32) {z : Nat → Int32} {f : Nat → FA} : mcall (d + 2) 147 [vR 1, vI 1, vI 1, vI x3, vI v] (LT u z f) = some (some (vI 0), LT u (uZ z 5 0) f) := mcall_i (mq147 (cu := [])).2.2 rfl (vct1_147_0 (mcall (d + 1)) 1 x3 v z f _ ⟨fun q => absurd q (by decide), fun _ => rfl⟩)
theorem c_tl1_r (d : Nat) (v : Int32) {z : Nat → Int32} {f : Nat → FA} : mcall (d + 2) 147 [vR 1, vI 1, vI 0, vI 0, vI v] (LT u z f) = some (some (vI (-1)), LT u z f) := mcall_i (mq147 (cu := [])).2.2 rfl (vct1_147_0 (mcall (d + 1)) 0 0 v z f _ ⟨fun _ => ⟨fun _ => rfl, fun q => absurd rfl q⟩, fun q => absurd rfl q⟩)
theorem c_tl1_p (d : Nat) (v : Int32) {z : Nat → Int32} {f : Nat → FA} {n : Nat} (hz : z 5 = nI n) (hn : n < 16) : mcall (d + 2) 147 [vR 1, vI 1, vI 0, vI 1, vI v] (LT u z f) = some (some (vI (nI (n + 1))), LT u (uZ z 5 (nI (n + 1))) (uA f 6 (upd (f 6) n v))) := mcall_i (mq147 (cu := [])).2.2 rfl (vct1_147_0 (mcall (d + 1)) 0 1 v z f _ ⟨fun _ => ⟨fun q => absurd q (by decide), fun _ => ⟨_, _, _, c_ad1_p d v hz hn, rfl⟩⟩, fun q => absurd rfl q⟩)
theorem c_tl1_f (d : Nat) (v : Int32) {z : Nat → Int32} {f : Nat → FA} (hz : z 5 = nI 16) : mcall (d + 2) 147 [vR 1, vI 1, vI 0, vI 1, vI v] (LT u z f) = some (some (vI (-1)), LT u z f) := mcall_i (mq147 (cu := [])).2.2 rfl (vct1_147_0 (mcall (d + 1)) 0 1 v z f _ ⟨fun _ => ⟨fun q => absurd q (by decide), fun _ => ⟨_, _, _, c_ad1_f d v hz, rfl⟩⟩, fun q => absurd rfl q⟩)
set_option maxRecDepth 100000 in
theorem bt2_142_1 (call : QC FA) (x1 : Int32) (z : Nat → Int32) (f : Nat → FA) (F : Nat) : rnG call 142 (F + 2) 0 [some (vR 7), some (vI x1)] [] (LT u z f) = rnG call 142 F 2 [some (vR 7), some (vI x1)] [vI (z 7)] (LT u z f) := rfl
set_option maxRecDepth 100000 in
theorem bt2_142_2 (call : QC FA) (x : Int32) (ls : List (Option PV)) (L : QH FA) (F : Nat) : rnG call 142 (F + 1) 2 ls [vI x] L = bif pcmp 2 x 0 then rnG call 142 F 9 ls [] L else rnG call 142 F 3 ls [] L := rfl
set_option maxRecDepth 100000 in
theorem bt2_142_3 (call : QC FA) (x1 : Int32) (L : QH FA) (F : Nat) : rnG call 142 (F + 1) 9 [some (vR 7), some (vI x1)] [] L = rnG call 142 F 10 [some (vR 7), some (vI x1)] [vI ((-1))] L := rfl
set_option maxRecDepth 100000 in
theorem bt2_142_4 (call : QC FA) (x : Int32) (ls : List (Option PV)) (L : QH FA) (F : Nat) : rnG call 142 (F + 1) 10 ls [vI x] L = some (some (vI x), L) := rfl
set_option maxRecDepth 100000 in
theorem bt2_142_5 (call : QC FA) (x1 : Int32) (z : Nat → Int32) (f : Nat → FA) (F : Nat) : rnG call 142 (F + 5) 3 [some (vR 7), some (vI x1)] [] (LT u z f) = rnG call 142 F 8 [some (vR 7), some (vI x1)] [vI (nI 15), vI (z 7)] (LT u z f) := rfl
set_option maxRecDepth 100000 in
theorem bt2_142_6 (call : QC FA) (x y : Int32) (ls : List (Option PV)) (L : QH FA) (F : Nat) : rnG call 142 (F + 1) 8 ls [vI y, vI x] L = bif pcmp 2 x y then rnG call 142 F 11 ls [] L else rnG call 142 F 9 ls [] L := rfl
set_option maxRecDepth 100000 in
theorem bt2_142_7 (call : QC FA) (x1 : Int32) (z : Nat → Int32) (f : Nat → FA) (F : Nat) : rnG call 142 (F + 5) 11 [some (vR 7), some (vI x1)] [] (LT u z f) = rnG call 142 F 16 [some (vR 7), some (vI x1)] [vI x1, vI (z 7), vR 8] (LT u z f) := rfl
set_option maxRecDepth 100000 in
theorem bt2_142_8 (call : QC FA) (x y : Int32) (ls : List (Option PV)) (z : Nat → Int32) (f : Nat → FA) (F : Nat) : rnG call 142 (F + 1) 16 ls [vI y, vI x, vR 8] (LT u z f) = bif (Nat.beq 0 0 && pin x 15) then rnG call 142 F 17 ls [] (LT u z (uA f 8 (upd (f 8) (ix x) y))) else none := rfl
set_option maxRecDepth 100000 in
theorem bt2_142_9 (call : QC FA) (x1 : Int32) (z : Nat → Int32) (f : Nat → FA) (F : Nat) : rnG call 142 (F + 5) 17 [some (vR 7), some (vI x1)] [] (LT u z f) = rnG call 142 F 22 [some (vR 7), some (vI x1)] [vI ((z 7) + 1), vR 7] (LT u z f) := rfl
set_option maxRecDepth 100000 in
theorem bt2_142_10 (call : QC FA) (y : Int32) (ls : List (Option PV)) (z : Nat → Int32) (f : Nat → FA) (F : Nat) : rnG call 142 (F + 1) 22 ls [vI y, vR 7] (LT u z f) = rnG call 142 F 23 ls [] (LT u (uZ z 7 y) f) := rfl
set_option maxRecDepth 100000 in
theorem bt2_142_11 (call : QC FA) (x1 : Int32) (z : Nat → Int32) (f : Nat → FA) (F : Nat) : rnG call 142 (F + 2) 23 [some (vR 7), some (vI x1)] [] (LT u z f) = rnG call 142 F 25 [some (vR 7), some (vI x1)] [vI (z 7)] (LT u z f) := rfl
set_option maxRecDepth 100000 in
theorem bt2_142_12 (call : QC FA) (x : Int32) (ls : List (Option PV)) (L : QH FA) (F : Nat) : rnG call 142 (F + 1) 25 ls [vI x] L = some (some (vI x), L) := rfl
theorem vct2_142_0 (call : QC FA) (x1 : Int32) (z : Nat → Int32) (f : Nat → FA) (res : Option PV × QH FA) (H : ((I (z 7) < 0 → res = (some (vI ((-1))), LT u z f)) ∧ (0 ≤ I (z 7) → ((I (z 7) < I (nI 15) → (pin (z 7) 15 = true ∧ res = (some (vI ((z 7) + 1)), LT u (uZ z 7 ((z 7) + 1)) (uA f 8 (upd (f 8) (ix (z 7)) x1))))) ∧ (I (nI 15) ≤ I (z 7) → res = (some (vI ((-1))), LT u z f)))))) : RC call (mP 142) 0 [some (vR 7), some (vI x1)] [] (LT u z f) res := by
  refine rc_b (i' := 2) (ls' := [some (vR 7), some (vI x1)]) (st' := [vI (z 7)]) (L' := LT u z f) 2 (bt2_142_1 call x1 z f) ?_
  refine rc_if (it := 9) (ie := 3) (ls' := [some (vR 7), some (vI x1)]) (st' := []) (bt2_142_2 call (z 7) _ _) (fun q1 => ?_) (fun q1 => ?_)
  · have H := H.1 (cI2t q1 rfl rfl)
    refine rc_b (i' := 10) (ls' := [some (vR 7), some (vI x1)]) (st' := [vI ((-1))]) (L' := LT u z f) 1 (bt2_142_3 call x1 _) ?_
    subst H
    exact rc_ret (bt2_142_4 call _ _ _)
  · have H := H.2 (cI2f q1 rfl rfl)
    refine rc_b (i' := 8) (ls' := [some (vR 7), some (vI x1)]) (st' := [vI (nI 15), vI (z 7)]) (L' := LT u z f) 5 (bt2_142_5 call x1 z f) ?_
    refine rc_if (it := 11) (ie := 9) (ls' := [some (vR 7), some (vI x1)]) (st' := []) (bt2_142_6 call (z 7) (nI 15) _ _) (fun q2 => ?_) (fun q2 => ?_)
    · have H := H.1 (cI2t q2 rfl rfl)
      refine rc_b (i' := 16) (ls' := [some (vR 7), some (vI x1)]) (st' := [vI x1, vI (z 7), vR 8]) (L' := LT u z f) 5 (bt2_142_7 call x1 z f) ?_
      obtain ⟨g1, H⟩ := H
      refine rc_g (i' := 17) (ls' := [some (vR 7), some (vI x1)]) (st' := []) (L' := LT u z (uA f 8 (upd (f 8) (ix (z 7)) x1))) (bt2_142_8 call (z 7) x1 _ z f) (pinG g1) ?_
      refine rc_b (i' := 22) (ls' := [some (vR 7), some (vI x1)]) (st' := [vI ((z 7) + 1), vR 7]) (L' := LT u z (uA f 8 (upd (f 8) (ix (z 7)) x1))) 5 (bt2_142_9 call x1 z (uA f 8 (upd (f 8) (ix (z 7)) x1))) ?_
      refine rc_b (i' := 23) (ls' := [some (vR 7), some (vI x1)]) (st' := []) (L' := LT u (uZ z 7 ((z 7) + 1)) (uA f 8 (upd (f 8) (ix (z 7)) x1))) 1 (bt2_142_10 call ((z 7) + 1) _ z (uA f 8 (upd (f 8) (ix (z 7)) x1))) ?_
      refine rc_b (i' := 25) (ls' := [some (vR 7), some (vI x1)]) (st' := [vI ((z 7) + 1)]) (L' := LT u (uZ z 7 ((z 7) + 1)) (uA f 8 (upd (f 8) (ix (z 7)) x1))) 2 (bt2_142_11 call x1 (uZ z 7 ((z 7) + 1)) (uA f 8 (upd (f 8) (ix (z 7)) x1))) ?_
      subst H
      exact rc_ret (bt2_142_12 call _ _ _)
    · have H := H.2 (cI2f q2 rfl rfl)
      refine rc_b (i' := 10) (ls' := [some (vR 7), some (vI x1)]) (st' := [vI ((-1))]) (L' := LT u z f) 1 (bt2_142_3 call x1 _) ?_
      subst H
      exact rc_ret (bt2_142_4 call _ _ _)
set_option maxRecDepth 100000 in
theorem bt2_147_1 (call : QC FA) (x1 : Int32) (x2 : Int32) (x3 : Int32) (x4 : Int32) (L : QH FA) (F : Nat) : rnG call 147 (F + 1) 0 [some (vR 1), some (vI x1), some (vI x2), some (vI x3), some (vI x4)] [] L = rnG call 147 F 1 [some (vR 1), some (vI x1), some (vI x2), some (vI x3), some (vI x4)] [vI x1] L := rfl
set_option maxRecDepth 100000 in
theorem bt2_147_2 (call : QC FA) (x : Int32) (ls : List (Option PV)) (L : QH FA) (F : Nat) : rnG call 147 (F + 1) 1 ls [vI x] L = bif pcmp 2 x 0 then rnG call 147 F 5 ls [] L else rnG call 147 F 2 ls [] L := rfl
set_option maxRecDepth 100000 in
theorem bt2_147_3 (call : QC FA) (x1 : Int32) (x2 : Int32) (x3 : Int32) (x4 : Int32) (L : QH FA) (F : Nat) : rnG call 147 (F + 2) 2 [some (vR 1), some (vI x1), some (vI x2), some (vI x3), some (vI x4)] [] L = rnG call 147 F 4 [some (vR 1), some (vI x1), some (vI x2), some (vI x3), some (vI x4)] [vI 9, vI x1] L := rfl
set_option maxRecDepth 100000 in
theorem bt2_147_4 (call : QC FA) (x y : Int32) (ls : List (Option PV)) (L : QH FA) (F : Nat) : rnG call 147 (F + 1) 4 ls [vI y, vI x] L = bif pcmp 2 x y then rnG call 147 F 7 ls [] L else rnG call 147 F 5 ls [] L := rfl
set_option maxRecDepth 100000 in
theorem bt2_147_5 (call : QC FA) (x1 : Int32) (x2 : Int32) (x3 : Int32) (x4 : Int32) (L : QH FA) (F : Nat) : rnG call 147 (F + 1) 7 [some (vR 1), some (vI x1), some (vI x2), some (vI x3), some (vI x4)] [] L = rnG call 147 F 8 [some (vR 1), some (vI x1), some (vI x2), some (vI x3), some (vI x4)] [vI x2] L := rfl
set_option maxRecDepth 100000 in
theorem bt2_147_6 (call : QC FA) (x : Int32) (ls : List (Option PV)) (L : QH FA) (F : Nat) : rnG call 147 (F + 1) 8 ls [vI x] L = bif pcmp 0 x 0 then rnG call 147 F 17 ls [] L else rnG call 147 F 9 ls [] L := rfl
set_option maxRecDepth 100000 in
theorem bt2_147_7 (call : QC FA) (x1 : Int32) (x2 : Int32) (x3 : Int32) (x4 : Int32) (L : QH FA) (F : Nat) : rnG call 147 (F + 1) 17 [some (vR 1), some (vI x1), some (vI x2), some (vI x3), some (vI x4)] [] L = rnG call 147 F 18 [some (vR 1), some (vI x1), some (vI x2), some (vI x3), some (vI x4)] [vI x3] L := rfl
set_option maxRecDepth 100000 in
theorem bt2_147_8 (call : QC FA) (x : Int32) (ls : List (Option PV)) (L : QH FA) (F : Nat) : rnG call 147 (F + 1) 18 ls [vI x] L = bif pcmp 0 x 0 then rnG call 147 F 26 ls [] L else rnG call 147 F 19 ls [] L := rfl
set_option maxRecDepth 100000 in
theorem bt2_147_9 (call : QC FA) (x1 : Int32) (x2 : Int32) (x3 : Int32) (x4 : Int32) (L : QH FA) (F : Nat) : rnG call 147 (F + 1) 26 [some (vR 1), some (vI x1), some (vI x2), some (vI x3), some (vI x4)] [] L = rnG call 147 F 27 [some (vR 1), some (vI x1), some (vI x2), some (vI x3), some (vI x4)] [vI ((-1))] L := rfl
set_option maxRecDepth 100000 in
theorem bt2_147_10 (call : QC FA) (x : Int32) (ls : List (Option PV)) (L : QH FA) (F : Nat) : rnG call 147 (F + 1) 27 ls [vI x] L = some (some (vI x), L) := rfl
set_option maxRecDepth 100000 in
theorem bt2_147_11 (call : QC FA) (x1 : Int32) (x2 : Int32) (x3 : Int32) (x4 : Int32) (z : Nat → Int32) (f : Nat → FA) (F : Nat) : rnG call 147 (F + 3) 19 [some (vR 1), some (vI x1), some (vI x2), some (vI x3), some (vI x4)] [] (LT u z f) = rnG call 147 F 22 [some (vR 1), some (vI x1), some (vI x2), some (vI x3), some (vI x4)] [vI x1, vR 2] (LT u z f) := rfl
set_option maxRecDepth 100000 in
theorem bt2_147_12 (call : QC FA) (x : Int32) (ls : List (Option PV)) (z : Nat → Int32) (f : Nat → FA) (F : Nat) : rnG call 147 (F + 1) 22 ls [vI x, vR 2] (LT u z f) = bif ((Nat.beq 3 1 || (Nat.beq 3 2 || Nat.beq 3 3)) && pin x 9) then rnG call 147 F 23 ls [.inr (.inl (wT u (ix x)))] (LT u z f) else none := rfl
set_option maxRecDepth 100000 in
theorem bt2_147_13 (call : QC FA) (x1 : Int32) (x2 : Int32) (x3 : Int32) (x4 : Int32) (L : QH FA) (F : Nat) : rnG call 147 (F + 1) 23 [some (vR 1), some (vI x1), some (vI x2), some (vI x3), some (vI x4)] [vR 7] L = rnG call 147 F 24 [some (vR 1), some (vI x1), some (vI x2), some (vI x3), some (vI x4)] [vI x4, vR 7] L := rfl
set_option maxRecDepth 100000 in
theorem bt2_147_14 (call : QC FA) (a0 : Int32) (ls : List (Option PV)) (z : Nat → Int32) (f : Nat → FA) (F : Nat) : rnG call 147 (F + 1) 24 ls [vI a0, vR 7] (LT u z f) = cbd (call 142 [vR 7, vI a0] (LT u z f)) (fun r L' => rnG call 147 F 25 ls (r.toList ++ []) L') := pcY (ih := rnG call 147 F) (call := call) (a := 142) (b := 1) (v := 9) (t := 25) (x := 7) (ls := ls) (As := [vI a0]) (st' := []) (L := LT u z f) rfl rfl rfl
set_option maxRecDepth 100000 in
theorem bt2_147_15 (call : QC FA) (x1 : Int32) (x2 : Int32) (x3 : Int32) (x4 : Int32) (s0 : Int32) (L : QH FA) (F : Nat) : rnG call 147 (F + 1) 25 [some (vR 1), some (vI x1), some (vI x2), some (vI x3), some (vI x4)] [vI s0] L = rnG call 147 F 27 [some (vR 1), some (vI x1), some (vI x2), some (vI x3), some (vI x4)] [vI s0] L := rfl
set_option maxRecDepth 100000 in
theorem bt2_147_16 (call : QC FA) (x1 : Int32) (x2 : Int32) (x3 : Int32) (x4 : Int32) (z : Nat → Int32) (f : Nat → FA) (F : Nat) : rnG call 147 (F + 3) 9 [some (vR 1), some (vI x1), some (vI x2), some (vI x3), some (vI x4)] [] (LT u z f) = rnG call 147 F 12 [some (vR 1), some (vI x1), some (vI x2), some (vI x3), some (vI x4)] [vI x1, vR 2] (LT u z f) := rfl
set_option maxRecDepth 100000 in
theorem bt2_147_17 (call : QC FA) (x : Int32) (ls : List (Option PV)) (z : Nat → Int32) (f : Nat → FA) (F : Nat) : rnG call 147 (F + 1) 12 ls [vI x, vR 2] (LT u z f) = bif ((Nat.beq 3 1 || (Nat.beq 3 2 || Nat.beq 3 3)) && pin x 9) then rnG call 147 F 13 ls [.inr (.inl (wT u (ix x)))] (LT u z f) else none := rfl
set_option maxRecDepth 100000 in
theorem bt2_147_18 (call : QC FA) (x1 : Int32) (x2 : Int32) (x3 : Int32) (x4 : Int32) (L : QH FA) (F : Nat) : rnG call 147 (F + 1) 13 [some (vR 1), some (vI x1), some (vI x2), some (vI x3), some (vI x4)] [vR 7] L = rnG call 147 F 14 [some (vR 1), some (vI x1), some (vI x2), some (vI x3), some (vI x4)] [vI 0, vR 7] L := rfl
set_option maxRecDepth 100000 in
theorem bt2_147_19 (call : QC FA) (y : Int32) (ls : List (Option PV)) (z : Nat → Int32) (f : Nat → FA) (F : Nat) : rnG call 147 (F + 1) 14 ls [vI y, vR 7] (LT u z f) = rnG call 147 F 15 ls [] (LT u (uZ z 7 y) f) := rfl
set_option maxRecDepth 100000 in
theorem bt2_147_20 (call : QC FA) (x1 : Int32) (x2 : Int32) (x3 : Int32) (x4 : Int32) (L : QH FA) (F : Nat) : rnG call 147 (F + 1) 15 [some (vR 1), some (vI x1), some (vI x2), some (vI x3), some (vI x4)] [] L = rnG call 147 F 16 [some (vR 1), some (vI x1), some (vI x2), some (vI x3), some (vI x4)] [vI 0] L := rfl
set_option maxRecDepth 100000 in
theorem bt2_147_21 (call : QC FA) (x : Int32) (ls : List (Option PV)) (L : QH FA) (F : Nat) : rnG call 147 (F + 1) 16 ls [vI x] L = some (some (vI x), L) := rfl
theorem vct2_147_0 (call : QC FA) (x2 : Int32) (x3 : Int32) (x4 : Int32) (z : Nat → Int32) (f : Nat → FA) (res : Option PV × QH FA) (H : ((x2 = 0 → ((x3 = 0 → res = (some (vI ((-1))), LT u z f)) ∧ (¬ x3 = 0 → (∃ (r1 : Int32) (z1 : Nat → Int32) (f1 : Nat → FA), call 142 [vR 7, vI x4] (LT u z f) = some (some (vI r1), LT u z1 f1) ∧ res = (some (vI r1), LT u z1 f1))))) ∧ (¬ x2 = 0 → res = (some (vI 0), LT u (uZ z 7 0) f)))) : RC call (mP 147) 0 [some (vR 1), some (vI 2), some (vI x2), some (vI x3), some (vI x4)] [] (LT u z f) res := by
  refine rc_b (i' := 1) (ls' := [some (vR 1), some (vI 2), some (vI x2), some (vI x3), some (vI x4)]) (st' := [vI 2]) (L' := LT u z f) 1 (bt2_147_1 call 2 x2 x3 x4 _) ?_
  refine rc_f (it := 5) (ie := 2) (ls' := [some (vR 1), some (vI 2), some (vI x2), some (vI x3), some (vI x4)]) (st' := []) (bt2_147_2 call 2 _ _) (by decide) ?_
  refine rc_b (i' := 4) (ls' := [some (vR 1), some (vI 2), some (vI x2), some (vI x3), some (vI x4)]) (st' := [vI 9, vI 2]) (L' := LT u z f) 2 (bt2_147_3 call 2 x2 x3 x4 _) ?_
  refine rc_t (it := 7) (ie := 5) (ls' := [some (vR 1), some (vI 2), some (vI x2), some (vI x3), some (vI x4)]) (st' := []) (bt2_147_4 call 2 9 _ _) (by decide) ?_
  refine rc_b (i' := 8) (ls' := [some (vR 1), some (vI 2), some (vI x2), some (vI x3), some (vI x4)]) (st' := [vI x2]) (L' := LT u z f) 1 (bt2_147_5 call 2 x2 x3 x4 _) ?_
  refine rc_if (it := 17) (ie := 9) (ls' := [some (vR 1), some (vI 2), some (vI x2), some (vI x3), some (vI x4)]) (st' := []) (bt2_147_6 call x2 _ _) (fun q1 => ?_) (fun q1 => ?_)
  · have H := H.1 (cI0t q1)
    refine rc_b (i' := 18) (ls' := [some (vR 1), some (vI 2), some (vI x2), some (vI x3), some (vI x4)]) (st' := [vI x3]) (L' := LT u z f) 1 (bt2_147_7 call 2 x2 x3 x4 _) ?_
    refine rc_if (it := 26) (ie := 19) (ls' := [some (vR 1), some (vI 2), some (vI x2), some (vI x3), some (vI x4)]) (st' := []) (bt2_147_8 call x3 _ _) (fun q2 => ?_) (fun q2 => ?_)
    · have H := H.1 (cI0t q2)
      refine rc_b (i' := 27) (ls' := [some (vR 1), some (vI 2), some (vI x2), some (vI x3), some (vI x4)]) (st' := [vI ((-1))]) (L' := LT u z f) 1 (bt2_147_9 call 2 x2 x3 x4 _) ?_
      subst H
      exact rc_ret (bt2_147_10 call _ _ _)
    · have H := H.2 (cI0f q2)
      refine rc_b (i' := 22) (ls' := [some (vR 1), some (vI 2), some (vI x2), some (vI x3), some (vI x4)]) (st' := [vI 2, vR 2]) (L' := LT u z f) 3 (bt2_147_11 call 2 x2 x3 x4 z f) ?_
      refine rc_g (i' := 23) (ls' := [some (vR 1), some (vI 2), some (vI x2), some (vI x3), some (vI x4)]) (st' := [.inr (.inl (wT u (ix 2)))]) (L' := LT u z f) (bt2_147_12 call 2 _ z f) (by decide) ?_
      show RC call (mP 147) 23 [some (vR 1), some (vI 2), some (vI x2), some (vI x3), some (vI x4)] [vR 7] (LT u z f) res
      refine rc_b (i' := 24) (ls' := [some (vR 1), some (vI 2), some (vI x2), some (vI x3), some (vI x4)]) (st' := [vI x4, vR 7]) (L' := LT u z f) 1 (bt2_147_13 call 2 x2 x3 x4 _) ?_
      obtain ⟨r1, z1, f1, hc, H⟩ := H
      refine rc_call (t := 25) (ls' := [some (vR 1), some (vI 2), some (vI x2), some (vI x3), some (vI x4)]) (st' := []) (bt2_147_14 call x4 _ z f) hc ?_
      show RC call (mP 147) 25 [some (vR 1), some (vI 2), some (vI x2), some (vI x3), some (vI x4)] [vI r1] (LT u z1 f1) res
      refine rc_b (i' := 27) (ls' := [some (vR 1), some (vI 2), some (vI x2), some (vI x3), some (vI x4)]) (st' := [vI r1]) (L' := LT u z1 f1) 1 (bt2_147_15 call 2 x2 x3 x4 r1 _) ?_
      subst H
      exact rc_ret (bt2_147_10 call _ _ _)
  · have H := H.2 (cI0f q1)
    refine rc_b (i' := 12) (ls' := [some (vR 1), some (vI 2), some (vI x2), some (vI x3), some (vI x4)]) (st' := [vI 2, vR 2]) (L' := LT u z f) 3 (bt2_147_16 call 2 x2 x3 x4 z f) ?_
    refine rc_g (i' := 13) (ls' := [some (vR 1), some (vI 2), some (vI x2), some (vI x3), some (vI x4)]) (st' := [.inr (.inl (wT u (ix 2)))]) (L' := LT u z f) (bt2_147_17 call 2 _ z f) (by decide) ?_
    show RC call (mP 147) 13 [some (vR 1), some (vI 2), some (vI x2), some (vI x3), some (vI x4)] [vR 7] (LT u z f) res
    refine rc_b (i' := 14) (ls' := [some (vR 1), some (vI 2), some (vI x2), some (vI x3), some (vI x4)]) (st' := [vI 0, vR 7]) (L' := LT u z f) 1 (bt2_147_18 call 2 x2 x3 x4 _) ?_
    refine rc_b (i' := 15) (ls' := [some (vR 1), some (vI 2), some (vI x2), some (vI x3), some (vI x4)]) (st' := []) (L' := LT u (uZ z 7 0) f) 1 (bt2_147_19 call 0 _ z f) ?_
    refine rc_b (i' := 16) (ls' := [some (vR 1), some (vI 2), some (vI x2), some (vI x3), some (vI x4)]) (st' := [vI 0]) (L' := LT u (uZ z 7 0) f) 1 (bt2_147_20 call 2 x2 x3 x4 _) ?_
    subst H
    exact rc_ret (bt2_147_21 call _ _ _)
theorem c_ad2_p (d : Nat) (v : Int32) {z : Nat → Int32} {f : Nat → FA} {n : Nat} (hz : z 7 = nI n) (hn : n < 15) : mcall (d + 1) 142 [vR 7, vI v] (LT u z f) = some (some (vI (nI (n + 1))), LT u (uZ z 7 (nI (n + 1))) (uA f 8 (upd (f 8) n v))) := by
  have go : ∀ res, _ → mcall (d + 1) 142 [vR 7, vI v] (LT u z f) = some res := fun res H => mcall_i (mq142 (cu := [])).2.2 rfl (vct2_142_0 (mcall d) v z f res H)
  rw [hz, I_nI (n := n) (by omega), I_nI (n := 15) (by omega), show nI n + 1 = nI (n + 1) from nI_add n 1, ix_nI (j := n) (by omega)] at go
  exact go _ ⟨fun q => by omega, fun _ => ⟨fun _ => ⟨pin_nI (by omega) (by omega), rfl⟩, fun q => by omega⟩⟩
theorem c_ad2_f (d : Nat) (v : Int32) {z : Nat → Int32} {f : Nat → FA} (hz : z 7 = nI 15) : mcall (d + 1) 142 [vR 7, vI v] (LT u z f) = some (some (vI (-1)), LT u z f) := by
  have go : ∀ res, _ → mcall (d + 1) 142 [vR 7, vI v] (LT u z f) = some res := fun res H => mcall_i (mq142 (cu := [])).2.2 rfl (vct2_142_0 (mcall d) v z f res H)
  rw [hz, I_nI (n := 15) (by omega)] at go
  exact go _ ⟨fun q => by omega, fun _ => ⟨fun q => by omega, fun _ => rfl⟩⟩
theorem c_tl2_e (d : Nat) (x3 v : Int32) {z : Nat → Int32} {f : Nat → FA} : mcall (d + 2) 147 [vR 1, vI 2, vI 1, vI x3, vI v] (LT u z f) = some (some (vI 0), LT u (uZ z 7 0) f) := mcall_i (mq147 (cu := [])).2.2 rfl (vct2_147_0 (mcall (d + 1)) 1 x3 v z f _ ⟨fun q => absurd q (by decide), fun _ => rfl⟩)
theorem c_tl2_r (d : Nat) (v : Int32) {z : Nat → Int32} {f : Nat → FA} : mcall (d + 2) 147 [vR 1, vI 2, vI 0, vI 0, vI v] (LT u z f) = some (some (vI (-1)), LT u z f) := mcall_i (mq147 (cu := [])).2.2 rfl (vct2_147_0 (mcall (d + 1)) 0 0 v z f _ ⟨fun _ => ⟨fun _ => rfl, fun q => absurd rfl q⟩, fun q => absurd rfl q⟩)
theorem c_tl2_p (d : Nat) (v : Int32) {z : Nat → Int32} {f : Nat → FA} {n : Nat} (hz : z 7 = nI n) (hn : n < 15) : mcall (d + 2) 147 [vR 1, vI 2, vI 0, vI 1, vI v] (LT u z f) = some (some (vI (nI (n + 1))), LT u (uZ z 7 (nI (n + 1))) (uA f 8 (upd (f 8) n v))) := mcall_i (mq147 (cu := [])).2.2 rfl (vct2_147_0 (mcall (d + 1)) 0 1 v z f _ ⟨fun _ => ⟨fun q => absurd q (by decide), fun _ => ⟨_, _, _, c_ad2_p d v hz hn, rfl⟩⟩, fun q => absurd rfl q⟩)
theorem c_tl2_f (d : Nat) (v : Int32) {z : Nat → Int32} {f : Nat → FA} (hz : z 7 = nI 15) : mcall (d + 2) 147 [vR 1, vI 2, vI 0, vI 1, vI v] (LT u z f) = some (some (vI (-1)), LT u z f) := mcall_i (mq147 (cu := [])).2.2 rfl (vct2_147_0 (mcall (d + 1)) 0 1 v z f _ ⟨fun _ => ⟨fun q => absurd q (by decide), fun _ => ⟨_, _, _, c_ad2_f d v hz, rfl⟩⟩, fun q => absurd rfl q⟩)
set_option maxRecDepth 100000 in
theorem bt3_142_1 (call : QC FA) (x1 : Int32) (z : Nat → Int32) (f : Nat → FA) (F : Nat) : rnG call 142 (F + 2) 0 [some (vR 9), some (vI x1)] [] (LT u z f) = rnG call 142 F 2 [some (vR 9), some (vI x1)] [vI (z 9)] (LT u z f) := rfl
set_option maxRecDepth 100000 in
theorem bt3_142_2 (call : QC FA) (x : Int32) (ls : List (Option PV)) (L : QH FA) (F : Nat) : rnG call 142 (F + 1) 2 ls [vI x] L = bif pcmp 2 x 0 then rnG call 142 F 9 ls [] L else rnG call 142 F 3 ls [] L := rfl
set_option maxRecDepth 100000 in
theorem bt3_142_3 (call : QC FA) (x1 : Int32) (L : QH FA) (F : Nat) : rnG call 142 (F + 1) 9 [some (vR 9), some (vI x1)] [] L = rnG call 142 F 10 [some (vR 9), some (vI x1)] [vI ((-1))] L := rfl
set_option maxRecDepth 100000 in
theorem bt3_142_4 (call : QC FA) (x : Int32) (ls : List (Option PV)) (L : QH FA) (F : Nat) : rnG call 142 (F + 1) 10 ls [vI x] L = some (some (vI x), L) := rfl
set_option maxRecDepth 100000 in
theorem bt3_142_5 (call : QC FA) (x1 : Int32) (z : Nat → Int32) (f : Nat → FA) (F : Nat) : rnG call 142 (F + 5) 3 [some (vR 9), some (vI x1)] [] (LT u z f) = rnG call 142 F 8 [some (vR 9), some (vI x1)] [vI (nI 15), vI (z 9)] (LT u z f) := rfl
set_option maxRecDepth 100000 in
theorem bt3_142_6 (call : QC FA) (x y : Int32) (ls : List (Option PV)) (L : QH FA) (F : Nat) : rnG call 142 (F + 1) 8 ls [vI y, vI x] L = bif pcmp 2 x y then rnG call 142 F 11 ls [] L else rnG call 142 F 9 ls [] L := rfl
set_option maxRecDepth 100000 in
theorem bt3_142_7 (call : QC FA) (x1 : Int32) (z : Nat → Int32) (f : Nat → FA) (F : Nat) : rnG call 142 (F + 5) 11 [some (vR 9), some (vI x1)] [] (LT u z f) = rnG call 142 F 16 [some (vR 9), some (vI x1)] [vI x1, vI (z 9), vR 10] (LT u z f) := rfl
set_option maxRecDepth 100000 in
theorem bt3_142_8 (call : QC FA) (x y : Int32) (ls : List (Option PV)) (z : Nat → Int32) (f : Nat → FA) (F : Nat) : rnG call 142 (F + 1) 16 ls [vI y, vI x, vR 10] (LT u z f) = bif (Nat.beq 0 0 && pin x 15) then rnG call 142 F 17 ls [] (LT u z (uA f 10 (upd (f 10) (ix x) y))) else none := rfl
set_option maxRecDepth 100000 in
theorem bt3_142_9 (call : QC FA) (x1 : Int32) (z : Nat → Int32) (f : Nat → FA) (F : Nat) : rnG call 142 (F + 5) 17 [some (vR 9), some (vI x1)] [] (LT u z f) = rnG call 142 F 22 [some (vR 9), some (vI x1)] [vI ((z 9) + 1), vR 9] (LT u z f) := rfl
set_option maxRecDepth 100000 in
theorem bt3_142_10 (call : QC FA) (y : Int32) (ls : List (Option PV)) (z : Nat → Int32) (f : Nat → FA) (F : Nat) : rnG call 142 (F + 1) 22 ls [vI y, vR 9] (LT u z f) = rnG call 142 F 23 ls [] (LT u (uZ z 9 y) f) := rfl
set_option maxRecDepth 100000 in
theorem bt3_142_11 (call : QC FA) (x1 : Int32) (z : Nat → Int32) (f : Nat → FA) (F : Nat) : rnG call 142 (F + 2) 23 [some (vR 9), some (vI x1)] [] (LT u z f) = rnG call 142 F 25 [some (vR 9), some (vI x1)] [vI (z 9)] (LT u z f) := rfl
set_option maxRecDepth 100000 in
theorem bt3_142_12 (call : QC FA) (x : Int32) (ls : List (Option PV)) (L : QH FA) (F : Nat) : rnG call 142 (F + 1) 25 ls [vI x] L = some (some (vI x), L) := rfl
theorem vct3_142_0 (call : QC FA) (x1 : Int32) (z : Nat → Int32) (f : Nat → FA) (res : Option PV × QH FA) (H : ((I (z 9) < 0 → res = (some (vI ((-1))), LT u z f)) ∧ (0 ≤ I (z 9) → ((I (z 9) < I (nI 15) → (pin (z 9) 15 = true ∧ res = (some (vI ((z 9) + 1)), LT u (uZ z 9 ((z 9) + 1)) (uA f 10 (upd (f 10) (ix (z 9)) x1))))) ∧ (I (nI 15) ≤ I (z 9) → res = (some (vI ((-1))), LT u z f)))))) : RC call (mP 142) 0 [some (vR 9), some (vI x1)] [] (LT u z f) res := by
  refine rc_b (i' := 2) (ls' := [some (vR 9), some (vI x1)]) (st' := [vI (z 9)]) (L' := LT u z f) 2 (bt3_142_1 call x1 z f) ?_
  refine rc_if (it := 9) (ie := 3) (ls' := [some (vR 9), some (vI x1)]) (st' := []) (bt3_142_2 call (z 9) _ _) (fun q1 => ?_) (fun q1 => ?_)
  · have H := H.1 (cI2t q1 rfl rfl)
    refine rc_b (i' := 10) (ls' := [some (vR 9), some (vI x1)]) (st' := [vI ((-1))]) (L' := LT u z f) 1 (bt3_142_3 call x1 _) ?_
    subst H
    exact rc_ret (bt3_142_4 call _ _ _)
  · have H := H.2 (cI2f q1 rfl rfl)
    refine rc_b (i' := 8) (ls' := [some (vR 9), some (vI x1)]) (st' := [vI (nI 15), vI (z 9)]) (L' := LT u z f) 5 (bt3_142_5 call x1 z f) ?_
    refine rc_if (it := 11) (ie := 9) (ls' := [some (vR 9), some (vI x1)]) (st' := []) (bt3_142_6 call (z 9) (nI 15) _ _) (fun q2 => ?_) (fun q2 => ?_)
    · have H := H.1 (cI2t q2 rfl rfl)
      refine rc_b (i' := 16) (ls' := [some (vR 9), some (vI x1)]) (st' := [vI x1, vI (z 9), vR 10]) (L' := LT u z f) 5 (bt3_142_7 call x1 z f) ?_
      obtain ⟨g1, H⟩ := H
      refine rc_g (i' := 17) (ls' := [some (vR 9), some (vI x1)]) (st' := []) (L' := LT u z (uA f 10 (upd (f 10) (ix (z 9)) x1))) (bt3_142_8 call (z 9) x1 _ z f) (pinG g1) ?_
      refine rc_b (i' := 22) (ls' := [some (vR 9), some (vI x1)]) (st' := [vI ((z 9) + 1), vR 9]) (L' := LT u z (uA f 10 (upd (f 10) (ix (z 9)) x1))) 5 (bt3_142_9 call x1 z (uA f 10 (upd (f 10) (ix (z 9)) x1))) ?_
      refine rc_b (i' := 23) (ls' := [some (vR 9), some (vI x1)]) (st' := []) (L' := LT u (uZ z 9 ((z 9) + 1)) (uA f 10 (upd (f 10) (ix (z 9)) x1))) 1 (bt3_142_10 call ((z 9) + 1) _ z (uA f 10 (upd (f 10) (ix (z 9)) x1))) ?_
      refine rc_b (i' := 25) (ls' := [some (vR 9), some (vI x1)]) (st' := [vI ((z 9) + 1)]) (L' := LT u (uZ z 9 ((z 9) + 1)) (uA f 10 (upd (f 10) (ix (z 9)) x1))) 2 (bt3_142_11 call x1 (uZ z 9 ((z 9) + 1)) (uA f 10 (upd (f 10) (ix (z 9)) x1))) ?_
      subst H
      exact rc_ret (bt3_142_12 call _ _ _)
    · have H := H.2 (cI2f q2 rfl rfl)
      refine rc_b (i' := 10) (ls' := [some (vR 9), some (vI x1)]) (st' := [vI ((-1))]) (L' := LT u z f) 1 (bt3_142_3 call x1 _) ?_
      subst H
      exact rc_ret (bt3_142_4 call _ _ _)
set_option maxRecDepth 100000 in
theorem bt3_147_1 (call : QC FA) (x1 : Int32) (x2 : Int32) (x3 : Int32) (x4 : Int32) (L : QH FA) (F : Nat) : rnG call 147 (F + 1) 0 [some (vR 1), some (vI x1), some (vI x2), some (vI x3), some (vI x4)] [] L = rnG call 147 F 1 [some (vR 1), some (vI x1), some (vI x2), some (vI x3), some (vI x4)] [vI x1] L := rfl
set_option maxRecDepth 100000 in
theorem bt3_147_2 (call : QC FA) (x : Int32) (ls : List (Option PV)) (L : QH FA) (F : Nat) : rnG call 147 (F + 1) 1 ls [vI x] L = bif pcmp 2 x 0 then rnG call 147 F 5 ls [] L else rnG call 147 F 2 ls [] L := rfl
set_option maxRecDepth 100000 in
theorem bt3_147_3 (call : QC FA) (x1 : Int32) (x2 : Int32) (x3 : Int32) (x4 : Int32) (L : QH FA) (F : Nat) : rnG call 147 (F + 2) 2 [some (vR 1), some (vI x1), some (vI x2), some (vI x3), some (vI x4)] [] L = rnG call 147 F 4 [some (vR 1), some (vI x1), some (vI x2), some (vI x3), some (vI x4)] [vI 9, vI x1] L := rfl
set_option maxRecDepth 100000 in
theorem bt3_147_4 (call : QC FA) (x y : Int32) (ls : List (Option PV)) (L : QH FA) (F : Nat) : rnG call 147 (F + 1) 4 ls [vI y, vI x] L = bif pcmp 2 x y then rnG call 147 F 7 ls [] L else rnG call 147 F 5 ls [] L := rfl
set_option maxRecDepth 100000 in
theorem bt3_147_5 (call : QC FA) (x1 : Int32) (x2 : Int32) (x3 : Int32) (x4 : Int32) (L : QH FA) (F : Nat) : rnG call 147 (F + 1) 7 [some (vR 1), some (vI x1), some (vI x2), some (vI x3), some (vI x4)] [] L = rnG call 147 F 8 [some (vR 1), some (vI x1), some (vI x2), some (vI x3), some (vI x4)] [vI x2] L := rfl
set_option maxRecDepth 100000 in
theorem bt3_147_6 (call : QC FA) (x : Int32) (ls : List (Option PV)) (L : QH FA) (F : Nat) : rnG call 147 (F + 1) 8 ls [vI x] L = bif pcmp 0 x 0 then rnG call 147 F 17 ls [] L else rnG call 147 F 9 ls [] L := rfl
set_option maxRecDepth 100000 in
theorem bt3_147_7 (call : QC FA) (x1 : Int32) (x2 : Int32) (x3 : Int32) (x4 : Int32) (L : QH FA) (F : Nat) : rnG call 147 (F + 1) 17 [some (vR 1), some (vI x1), some (vI x2), some (vI x3), some (vI x4)] [] L = rnG call 147 F 18 [some (vR 1), some (vI x1), some (vI x2), some (vI x3), some (vI x4)] [vI x3] L := rfl
set_option maxRecDepth 100000 in
theorem bt3_147_8 (call : QC FA) (x : Int32) (ls : List (Option PV)) (L : QH FA) (F : Nat) : rnG call 147 (F + 1) 18 ls [vI x] L = bif pcmp 0 x 0 then rnG call 147 F 26 ls [] L else rnG call 147 F 19 ls [] L := rfl
set_option maxRecDepth 100000 in
theorem bt3_147_9 (call : QC FA) (x1 : Int32) (x2 : Int32) (x3 : Int32) (x4 : Int32) (L : QH FA) (F : Nat) : rnG call 147 (F + 1) 26 [some (vR 1), some (vI x1), some (vI x2), some (vI x3), some (vI x4)] [] L = rnG call 147 F 27 [some (vR 1), some (vI x1), some (vI x2), some (vI x3), some (vI x4)] [vI ((-1))] L := rfl
set_option maxRecDepth 100000 in
theorem bt3_147_10 (call : QC FA) (x : Int32) (ls : List (Option PV)) (L : QH FA) (F : Nat) : rnG call 147 (F + 1) 27 ls [vI x] L = some (some (vI x), L) := rfl
set_option maxRecDepth 100000 in
theorem bt3_147_11 (call : QC FA) (x1 : Int32) (x2 : Int32) (x3 : Int32) (x4 : Int32) (z : Nat → Int32) (f : Nat → FA) (F : Nat) : rnG call 147 (F + 3) 19 [some (vR 1), some (vI x1), some (vI x2), some (vI x3), some (vI x4)] [] (LT u z f) = rnG call 147 F 22 [some (vR 1), some (vI x1), some (vI x2), some (vI x3), some (vI x4)] [vI x1, vR 2] (LT u z f) := rfl
set_option maxRecDepth 100000 in
theorem bt3_147_12 (call : QC FA) (x : Int32) (ls : List (Option PV)) (z : Nat → Int32) (f : Nat → FA) (F : Nat) : rnG call 147 (F + 1) 22 ls [vI x, vR 2] (LT u z f) = bif ((Nat.beq 3 1 || (Nat.beq 3 2 || Nat.beq 3 3)) && pin x 9) then rnG call 147 F 23 ls [.inr (.inl (wT u (ix x)))] (LT u z f) else none := rfl
set_option maxRecDepth 100000 in
theorem bt3_147_13 (call : QC FA) (x1 : Int32) (x2 : Int32) (x3 : Int32) (x4 : Int32) (L : QH FA) (F : Nat) : rnG call 147 (F + 1) 23 [some (vR 1), some (vI x1), some (vI x2), some (vI x3), some (vI x4)] [vR 9] L = rnG call 147 F 24 [some (vR 1), some (vI x1), some (vI x2), some (vI x3), some (vI x4)] [vI x4, vR 9] L := rfl
set_option maxRecDepth 100000 in
theorem bt3_147_14 (call : QC FA) (a0 : Int32) (ls : List (Option PV)) (z : Nat → Int32) (f : Nat → FA) (F : Nat) : rnG call 147 (F + 1) 24 ls [vI a0, vR 9] (LT u z f) = cbd (call 142 [vR 9, vI a0] (LT u z f)) (fun r L' => rnG call 147 F 25 ls (r.toList ++ []) L') := pcY (ih := rnG call 147 F) (call := call) (a := 142) (b := 1) (v := 9) (t := 25) (x := 9) (ls := ls) (As := [vI a0]) (st' := []) (L := LT u z f) rfl rfl rfl
set_option maxRecDepth 100000 in
theorem bt3_147_15 (call : QC FA) (x1 : Int32) (x2 : Int32) (x3 : Int32) (x4 : Int32) (s0 : Int32) (L : QH FA) (F : Nat) : rnG call 147 (F + 1) 25 [some (vR 1), some (vI x1), some (vI x2), some (vI x3), some (vI x4)] [vI s0] L = rnG call 147 F 27 [some (vR 1), some (vI x1), some (vI x2), some (vI x3), some (vI x4)] [vI s0] L := rfl
set_option maxRecDepth 100000 in
theorem bt3_147_16 (call : QC FA) (x1 : Int32) (x2 : Int32) (x3 : Int32) (x4 : Int32) (z : Nat → Int32) (f : Nat → FA) (F : Nat) : rnG call 147 (F + 3) 9 [some (vR 1), some (vI x1), some (vI x2), some (vI x3), some (vI x4)] [] (LT u z f) = rnG call 147 F 12 [some (vR 1), some (vI x1), some (vI x2), some (vI x3), some (vI x4)] [vI x1, vR 2] (LT u z f) := rfl
set_option maxRecDepth 100000 in
theorem bt3_147_17 (call : QC FA) (x : Int32) (ls : List (Option PV)) (z : Nat → Int32) (f : Nat → FA) (F : Nat) : rnG call 147 (F + 1) 12 ls [vI x, vR 2] (LT u z f) = bif ((Nat.beq 3 1 || (Nat.beq 3 2 || Nat.beq 3 3)) && pin x 9) then rnG call 147 F 13 ls [.inr (.inl (wT u (ix x)))] (LT u z f) else none := rfl
set_option maxRecDepth 100000 in
theorem bt3_147_18 (call : QC FA) (x1 : Int32) (x2 : Int32) (x3 : Int32) (x4 : Int32) (L : QH FA) (F : Nat) : rnG call 147 (F + 1) 13 [some (vR 1), some (vI x1), some (vI x2), some (vI x3), some (vI x4)] [vR 9] L = rnG call 147 F 14 [some (vR 1), some (vI x1), some (vI x2), some (vI x3), some (vI x4)] [vI 0, vR 9] L := rfl
set_option maxRecDepth 100000 in
theorem bt3_147_19 (call : QC FA) (y : Int32) (ls : List (Option PV)) (z : Nat → Int32) (f : Nat → FA) (F : Nat) : rnG call 147 (F + 1) 14 ls [vI y, vR 9] (LT u z f) = rnG call 147 F 15 ls [] (LT u (uZ z 9 y) f) := rfl
set_option maxRecDepth 100000 in
theorem bt3_147_20 (call : QC FA) (x1 : Int32) (x2 : Int32) (x3 : Int32) (x4 : Int32) (L : QH FA) (F : Nat) : rnG call 147 (F + 1) 15 [some (vR 1), some (vI x1), some (vI x2), some (vI x3), some (vI x4)] [] L = rnG call 147 F 16 [some (vR 1), some (vI x1), some (vI x2), some (vI x3), some (vI x4)] [vI 0] L := rfl
set_option maxRecDepth 100000 in
theorem bt3_147_21 (call : QC FA) (x : Int32) (ls : List (Option PV)) (L : QH FA) (F : Nat) : rnG call 147 (F + 1) 16 ls [vI x] L = some (some (vI x), L) := rfl
theorem vct3_147_0 (call : QC FA) (x2 : Int32) (x3 : Int32) (x4 : Int32) (z : Nat → Int32) (f : Nat → FA) (res : Option PV × QH FA) (H : ((x2 = 0 → ((x3 = 0 → res = (some (vI ((-1))), LT u z f)) ∧ (¬ x3 = 0 → (∃ (r1 : Int32) (z1 : Nat → Int32) (f1 : Nat → FA), call 142 [vR 9, vI x4] (LT u z f) = some (some (vI r1), LT u z1 f1) ∧ res = (some (vI r1), LT u z1 f1))))) ∧ (¬ x2 = 0 → res = (some (vI 0), LT u (uZ z 9 0) f)))) : RC call (mP 147) 0 [some (vR 1), some (vI 3), some (vI x2), some (vI x3), some (vI x4)] [] (LT u z f) res := by
  refine rc_b (i' := 1) (ls' := [some (vR 1), some (vI 3), some (vI x2), some (vI x3), some (vI x4)]) (st' := [vI 3]) (L' := LT u z f) 1 (bt3_147_1 call 3 x2 x3 x4 _) ?_
  refine rc_f (it := 5) (ie := 2) (ls' := [some (vR 1), some (vI 3), some (vI x2), some (vI x3), some (vI x4)]) (st' := []) (bt3_147_2 call 3 _ _) (by decide) ?_
  refine rc_b (i' := 4) (ls' := [some (vR 1), some (vI 3), some (vI x2), some (vI x3), some (vI x4)]) (st' := [vI 9, vI 3]) (L' := LT u z f) 2 (bt3_147_3 call 3 x2 x3 x4 _) ?_
  refine rc_t (it := 7) (ie := 5) (ls' := [some (vR 1), some (vI 3), some (vI x2), some (vI x3), some (vI x4)]) (st' := []) (bt3_147_4 call 3 9 _ _) (by decide) ?_
  refine rc_b (i' := 8) (ls' := [some (vR 1), some (vI 3), some (vI x2), some (vI x3), some (vI x4)]) (st' := [vI x2]) (L' := LT u z f) 1 (bt3_147_5 call 3 x2 x3 x4 _) ?_
  refine rc_if (it := 17) (ie := 9) (ls' := [some (vR 1), some (vI 3), some (vI x2), some (vI x3), some (vI x4)]) (st' := []) (bt3_147_6 call x2 _ _) (fun q1 => ?_) (fun q1 => ?_)
  · have H := H.1 (cI0t q1)
    refine rc_b (i' := 18) (ls' := [some (vR 1), some (vI 3), some (vI x2), some (vI x3), some (vI x4)]) (st' := [vI x3]) (L' := LT u z f) 1 (bt3_147_7 call 3 x2 x3 x4 _) ?_
    refine rc_if (it := 26) (ie := 19) (ls' := [some (vR 1), some (vI 3), some (vI x2), some (vI x3), some (vI x4)]) (st' := []) (bt3_147_8 call x3 _ _) (fun q2 => ?_) (fun q2 => ?_)
    · have H := H.1 (cI0t q2)
      refine rc_b (i' := 27) (ls' := [some (vR 1), some (vI 3), some (vI x2), some (vI x3), some (vI x4)]) (st' := [vI ((-1))]) (L' := LT u z f) 1 (bt3_147_9 call 3 x2 x3 x4 _) ?_
      subst H
      exact rc_ret (bt3_147_10 call _ _ _)
    · have H := H.2 (cI0f q2)
      refine rc_b (i' := 22) (ls' := [some (vR 1), some (vI 3), some (vI x2), some (vI x3), some (vI x4)]) (st' := [vI 3, vR 2]) (L' := LT u z f) 3 (bt3_147_11 call 3 x2 x3 x4 z f) ?_
      refine rc_g (i' := 23) (ls' := [some (vR 1), some (vI 3), some (vI x2), some (vI x3), some (vI x4)]) (st' := [.inr (.inl (wT u (ix 3)))]) (L' := LT u z f) (bt3_147_12 call 3 _ z f) (by decide) ?_
      show RC call (mP 147) 23 [some (vR 1), some (vI 3), some (vI x2), some (vI x3), some (vI x4)] [vR 9] (LT u z f) res
      refine rc_b (i' := 24) (ls' := [some (vR 1), some (vI 3), some (vI x2), some (vI x3), some (vI x4)]) (st' := [vI x4, vR 9]) (L' := LT u z f) 1 (bt3_147_13 call 3 x2 x3 x4 _) ?_
      obtain ⟨r1, z1, f1, hc, H⟩ := H
      refine rc_call (t := 25) (ls' := [some (vR 1), some (vI 3), some (vI x2), some (vI x3), some (vI x4)]) (st' := []) (bt3_147_14 call x4 _ z f) hc ?_
      show RC call (mP 147) 25 [some (vR 1), some (vI 3), some (vI x2), some (vI x3), some (vI x4)] [vI r1] (LT u z1 f1) res
      refine rc_b (i' := 27) (ls' := [some (vR 1), some (vI 3), some (vI x2), some (vI x3), some (vI x4)]) (st' := [vI r1]) (L' := LT u z1 f1) 1 (bt3_147_15 call 3 x2 x3 x4 r1 _) ?_
      subst H
      exact rc_ret (bt3_147_10 call _ _ _)
  · have H := H.2 (cI0f q1)
    refine rc_b (i' := 12) (ls' := [some (vR 1), some (vI 3), some (vI x2), some (vI x3), some (vI x4)]) (st' := [vI 3, vR 2]) (L' := LT u z f) 3 (bt3_147_16 call 3 x2 x3 x4 z f) ?_
    refine rc_g (i' := 13) (ls' := [some (vR 1), some (vI 3), some (vI x2), some (vI x3), some (vI x4)]) (st' := [.inr (.inl (wT u (ix 3)))]) (L' := LT u z f) (bt3_147_17 call 3 _ z f) (by decide) ?_
    show RC call (mP 147) 13 [some (vR 1), some (vI 3), some (vI x2), some (vI x3), some (vI x4)] [vR 9] (LT u z f) res
    refine rc_b (i' := 14) (ls' := [some (vR 1), some (vI 3), some (vI x2), some (vI x3), some (vI x4)]) (st' := [vI 0, vR 9]) (L' := LT u z f) 1 (bt3_147_18 call 3 x2 x3 x4 _) ?_
    refine rc_b (i' := 15) (ls' := [some (vR 1), some (vI 3), some (vI x2), some (vI x3), some (vI x4)]) (st' := []) (L' := LT u (uZ z 9 0) f) 1 (bt3_147_19 call 0 _ z f) ?_
    refine rc_b (i' := 16) (ls' := [some (vR 1), some (vI 3), some (vI x2), some (vI x3), some (vI x4)]) (st' := [vI 0]) (L' := LT u (uZ z 9 0) f) 1 (bt3_147_20 call 3 x2 x3 x4 _) ?_
    subst H
    exact rc_ret (bt3_147_21 call _ _ _)
theorem c_ad3_p (d : Nat) (v : Int32) {z : Nat → Int32} {f : Nat → FA} {n : Nat} (hz : z 9 = nI n) (hn : n < 15) : mcall (d + 1) 142 [vR 9, vI v] (LT u z f) = some (some (vI (nI (n + 1))), LT u (uZ z 9 (nI (n + 1))) (uA f 10 (upd (f 10) n v))) := by
  have go : ∀ res, _ → mcall (d + 1) 142 [vR 9, vI v] (LT u z f) = some res := fun res H => mcall_i (mq142 (cu := [])).2.2 rfl (vct3_142_0 (mcall d) v z f res H)
  rw [hz, I_nI (n := n) (by omega), I_nI (n := 15) (by omega), show nI n + 1 = nI (n + 1) from nI_add n 1, ix_nI (j := n) (by omega)] at go
  exact go _ ⟨fun q => by omega, fun _ => ⟨fun _ => ⟨pin_nI (by omega) (by omega), rfl⟩, fun q => by omega⟩⟩
theorem c_ad3_f (d : Nat) (v : Int32) {z : Nat → Int32} {f : Nat → FA} (hz : z 9 = nI 15) : mcall (d + 1) 142 [vR 9, vI v] (LT u z f) = some (some (vI (-1)), LT u z f) := by
  have go : ∀ res, _ → mcall (d + 1) 142 [vR 9, vI v] (LT u z f) = some res := fun res H => mcall_i (mq142 (cu := [])).2.2 rfl (vct3_142_0 (mcall d) v z f res H)
  rw [hz, I_nI (n := 15) (by omega)] at go
  exact go _ ⟨fun q => by omega, fun _ => ⟨fun q => by omega, fun _ => rfl⟩⟩
theorem c_tl3_e (d : Nat) (x3 v : Int32) {z : Nat → Int32} {f : Nat → FA} : mcall (d + 2) 147 [vR 1, vI 3, vI 1, vI x3, vI v] (LT u z f) = some (some (vI 0), LT u (uZ z 9 0) f) := mcall_i (mq147 (cu := [])).2.2 rfl (vct3_147_0 (mcall (d + 1)) 1 x3 v z f _ ⟨fun q => absurd q (by decide), fun _ => rfl⟩)
theorem c_tl3_r (d : Nat) (v : Int32) {z : Nat → Int32} {f : Nat → FA} : mcall (d + 2) 147 [vR 1, vI 3, vI 0, vI 0, vI v] (LT u z f) = some (some (vI (-1)), LT u z f) := mcall_i (mq147 (cu := [])).2.2 rfl (vct3_147_0 (mcall (d + 1)) 0 0 v z f _ ⟨fun _ => ⟨fun _ => rfl, fun q => absurd rfl q⟩, fun q => absurd rfl q⟩)
theorem c_tl3_p (d : Nat) (v : Int32) {z : Nat → Int32} {f : Nat → FA} {n : Nat} (hz : z 9 = nI n) (hn : n < 15) : mcall (d + 2) 147 [vR 1, vI 3, vI 0, vI 1, vI v] (LT u z f) = some (some (vI (nI (n + 1))), LT u (uZ z 9 (nI (n + 1))) (uA f 10 (upd (f 10) n v))) := mcall_i (mq147 (cu := [])).2.2 rfl (vct3_147_0 (mcall (d + 1)) 0 1 v z f _ ⟨fun _ => ⟨fun q => absurd q (by decide), fun _ => ⟨_, _, _, c_ad3_p d v hz hn, rfl⟩⟩, fun q => absurd rfl q⟩)
theorem c_tl3_f (d : Nat) (v : Int32) {z : Nat → Int32} {f : Nat → FA} (hz : z 9 = nI 15) : mcall (d + 2) 147 [vR 1, vI 3, vI 0, vI 1, vI v] (LT u z f) = some (some (vI (-1)), LT u z f) := mcall_i (mq147 (cu := [])).2.2 rfl (vct3_147_0 (mcall (d + 1)) 0 1 v z f _ ⟨fun _ => ⟨fun q => absurd q (by decide), fun _ => ⟨_, _, _, c_ad3_f d v hz, rfl⟩⟩, fun q => absurd rfl q⟩)
set_option maxRecDepth 100000 in
theorem bt4_142_1 (call : QC FA) (x1 : Int32) (z : Nat → Int32) (f : Nat → FA) (F : Nat) : rnG call 142 (F + 2) 0 [some (vR 11), some (vI x1)] [] (LT u z f) = rnG call 142 F 2 [some (vR 11), some (vI x1)] [vI (z 11)] (LT u z f) := rfl
set_option maxRecDepth 100000 in
theorem bt4_142_2 (call : QC FA) (x : Int32) (ls : List (Option PV)) (L : QH FA) (F : Nat) : rnG call 142 (F + 1) 2 ls [vI x] L = bif pcmp 2 x 0 then rnG call 142 F 9 ls [] L else rnG call 142 F 3 ls [] L := rfl
set_option maxRecDepth 100000 in
theorem bt4_142_3 (call : QC FA) (x1 : Int32) (L : QH FA) (F : Nat) : rnG call 142 (F + 1) 9 [some (vR 11), some (vI x1)] [] L = rnG call 142 F 10 [some (vR 11), some (vI x1)] [vI ((-1))] L := rfl
set_option maxRecDepth 100000 in
theorem bt4_142_4 (call : QC FA) (x : Int32) (ls : List (Option PV)) (L : QH FA) (F : Nat) : rnG call 142 (F + 1) 10 ls [vI x] L = some (some (vI x), L) := rfl
set_option maxRecDepth 100000 in
theorem bt4_142_5 (call : QC FA) (x1 : Int32) (z : Nat → Int32) (f : Nat → FA) (F : Nat) : rnG call 142 (F + 5) 3 [some (vR 11), some (vI x1)] [] (LT u z f) = rnG call 142 F 8 [some (vR 11), some (vI x1)] [vI (nI 8), vI (z 11)] (LT u z f) := rfl
set_option maxRecDepth 100000 in
theorem bt4_142_6 (call : QC FA) (x y : Int32) (ls : List (Option PV)) (L : QH FA) (F : Nat) : rnG call 142 (F + 1) 8 ls [vI y, vI x] L = bif pcmp 2 x y then rnG call 142 F 11 ls [] L else rnG call 142 F 9 ls [] L := rfl
set_option maxRecDepth 100000 in
theorem bt4_142_7 (call : QC FA) (x1 : Int32) (z : Nat → Int32) (f : Nat → FA) (F : Nat) : rnG call 142 (F + 5) 11 [some (vR 11), some (vI x1)] [] (LT u z f) = rnG call 142 F 16 [some (vR 11), some (vI x1)] [vI x1, vI (z 11), vR 12] (LT u z f) := rfl
set_option maxRecDepth 100000 in
theorem bt4_142_8 (call : QC FA) (x y : Int32) (ls : List (Option PV)) (z : Nat → Int32) (f : Nat → FA) (F : Nat) : rnG call 142 (F + 1) 16 ls [vI y, vI x, vR 12] (LT u z f) = bif (Nat.beq 0 0 && pin x 8) then rnG call 142 F 17 ls [] (LT u z (uA f 12 (upd (f 12) (ix x) y))) else none := rfl
set_option maxRecDepth 100000 in
theorem bt4_142_9 (call : QC FA) (x1 : Int32) (z : Nat → Int32) (f : Nat → FA) (F : Nat) : rnG call 142 (F + 5) 17 [some (vR 11), some (vI x1)] [] (LT u z f) = rnG call 142 F 22 [some (vR 11), some (vI x1)] [vI ((z 11) + 1), vR 11] (LT u z f) := rfl
set_option maxRecDepth 100000 in
theorem bt4_142_10 (call : QC FA) (y : Int32) (ls : List (Option PV)) (z : Nat → Int32) (f : Nat → FA) (F : Nat) : rnG call 142 (F + 1) 22 ls [vI y, vR 11] (LT u z f) = rnG call 142 F 23 ls [] (LT u (uZ z 11 y) f) := rfl
set_option maxRecDepth 100000 in
theorem bt4_142_11 (call : QC FA) (x1 : Int32) (z : Nat → Int32) (f : Nat → FA) (F : Nat) : rnG call 142 (F + 2) 23 [some (vR 11), some (vI x1)] [] (LT u z f) = rnG call 142 F 25 [some (vR 11), some (vI x1)] [vI (z 11)] (LT u z f) := rfl
set_option maxRecDepth 100000 in
theorem bt4_142_12 (call : QC FA) (x : Int32) (ls : List (Option PV)) (L : QH FA) (F : Nat) : rnG call 142 (F + 1) 25 ls [vI x] L = some (some (vI x), L) := rfl
theorem vct4_142_0 (call : QC FA) (x1 : Int32) (z : Nat → Int32) (f : Nat → FA) (res : Option PV × QH FA) (H : ((I (z 11) < 0 → res = (some (vI ((-1))), LT u z f)) ∧ (0 ≤ I (z 11) → ((I (z 11) < I (nI 8) → (pin (z 11) 8 = true ∧ res = (some (vI ((z 11) + 1)), LT u (uZ z 11 ((z 11) + 1)) (uA f 12 (upd (f 12) (ix (z 11)) x1))))) ∧ (I (nI 8) ≤ I (z 11) → res = (some (vI ((-1))), LT u z f)))))) : RC call (mP 142) 0 [some (vR 11), some (vI x1)] [] (LT u z f) res := by
  refine rc_b (i' := 2) (ls' := [some (vR 11), some (vI x1)]) (st' := [vI (z 11)]) (L' := LT u z f) 2 (bt4_142_1 call x1 z f) ?_
  refine rc_if (it := 9) (ie := 3) (ls' := [some (vR 11), some (vI x1)]) (st' := []) (bt4_142_2 call (z 11) _ _) (fun q1 => ?_) (fun q1 => ?_)
  · have H := H.1 (cI2t q1 rfl rfl)
    refine rc_b (i' := 10) (ls' := [some (vR 11), some (vI x1)]) (st' := [vI ((-1))]) (L' := LT u z f) 1 (bt4_142_3 call x1 _) ?_
    subst H
    exact rc_ret (bt4_142_4 call _ _ _)
  · have H := H.2 (cI2f q1 rfl rfl)
    refine rc_b (i' := 8) (ls' := [some (vR 11), some (vI x1)]) (st' := [vI (nI 8), vI (z 11)]) (L' := LT u z f) 5 (bt4_142_5 call x1 z f) ?_
    refine rc_if (it := 11) (ie := 9) (ls' := [some (vR 11), some (vI x1)]) (st' := []) (bt4_142_6 call (z 11) (nI 8) _ _) (fun q2 => ?_) (fun q2 => ?_)
    · have H := H.1 (cI2t q2 rfl rfl)
      refine rc_b (i' := 16) (ls' := [some (vR 11), some (vI x1)]) (st' := [vI x1, vI (z 11), vR 12]) (L' := LT u z f) 5 (bt4_142_7 call x1 z f) ?_
      obtain ⟨g1, H⟩ := H
      refine rc_g (i' := 17) (ls' := [some (vR 11), some (vI x1)]) (st' := []) (L' := LT u z (uA f 12 (upd (f 12) (ix (z 11)) x1))) (bt4_142_8 call (z 11) x1 _ z f) (pinG g1) ?_
      refine rc_b (i' := 22) (ls' := [some (vR 11), some (vI x1)]) (st' := [vI ((z 11) + 1), vR 11]) (L' := LT u z (uA f 12 (upd (f 12) (ix (z 11)) x1))) 5 (bt4_142_9 call x1 z (uA f 12 (upd (f 12) (ix (z 11)) x1))) ?_
      refine rc_b (i' := 23) (ls' := [some (vR 11), some (vI x1)]) (st' := []) (L' := LT u (uZ z 11 ((z 11) + 1)) (uA f 12 (upd (f 12) (ix (z 11)) x1))) 1 (bt4_142_10 call ((z 11) + 1) _ z (uA f 12 (upd (f 12) (ix (z 11)) x1))) ?_
      refine rc_b (i' := 25) (ls' := [some (vR 11), some (vI x1)]) (st' := [vI ((z 11) + 1)]) (L' := LT u (uZ z 11 ((z 11) + 1)) (uA f 12 (upd (f 12) (ix (z 11)) x1))) 2 (bt4_142_11 call x1 (uZ z 11 ((z 11) + 1)) (uA f 12 (upd (f 12) (ix (z 11)) x1))) ?_
      subst H
      exact rc_ret (bt4_142_12 call _ _ _)
    · have H := H.2 (cI2f q2 rfl rfl)
      refine rc_b (i' := 10) (ls' := [some (vR 11), some (vI x1)]) (st' := [vI ((-1))]) (L' := LT u z f) 1 (bt4_142_3 call x1 _) ?_
      subst H
      exact rc_ret (bt4_142_4 call _ _ _)
set_option maxRecDepth 100000 in
theorem bt4_147_1 (call : QC FA) (x1 : Int32) (x2 : Int32) (x3 : Int32) (x4 : Int32) (L : QH FA) (F : Nat) : rnG call 147 (F + 1) 0 [some (vR 1), some (vI x1), some (vI x2), some (vI x3), some (vI x4)] [] L = rnG call 147 F 1 [some (vR 1), some (vI x1), some (vI x2), some (vI x3), some (vI x4)] [vI x1] L := rfl
set_option maxRecDepth 100000 in
theorem bt4_147_2 (call : QC FA) (x : Int32) (ls : List (Option PV)) (L : QH FA) (F : Nat) : rnG call 147 (F + 1) 1 ls [vI x] L = bif pcmp 2 x 0 then rnG call 147 F 5 ls [] L else rnG call 147 F 2 ls [] L := rfl
set_option maxRecDepth 100000 in
theorem bt4_147_3 (call : QC FA) (x1 : Int32) (x2 : Int32) (x3 : Int32) (x4 : Int32) (L : QH FA) (F : Nat) : rnG call 147 (F + 2) 2 [some (vR 1), some (vI x1), some (vI x2), some (vI x3), some (vI x4)] [] L = rnG call 147 F 4 [some (vR 1), some (vI x1), some (vI x2), some (vI x3), some (vI x4)] [vI 9, vI x1] L := rfl
set_option maxRecDepth 100000 in
theorem bt4_147_4 (call : QC FA) (x y : Int32) (ls : List (Option PV)) (L : QH FA) (F : Nat) : rnG call 147 (F + 1) 4 ls [vI y, vI x] L = bif pcmp 2 x y then rnG call 147 F 7 ls [] L else rnG call 147 F 5 ls [] L := rfl
set_option maxRecDepth 100000 in
theorem bt4_147_5 (call : QC FA) (x1 : Int32) (x2 : Int32) (x3 : Int32) (x4 : Int32) (L : QH FA) (F : Nat) : rnG call 147 (F + 1) 7 [some (vR 1), some (vI x1), some (vI x2), some (vI x3), some (vI x4)] [] L = rnG call 147 F 8 [some (vR 1), some (vI x1), some (vI x2), some (vI x3), some (vI x4)] [vI x2] L := rfl
set_option maxRecDepth 100000 in
theorem bt4_147_6 (call : QC FA) (x : Int32) (ls : List (Option PV)) (L : QH FA) (F : Nat) : rnG call 147 (F + 1) 8 ls [vI x] L = bif pcmp 0 x 0 then rnG call 147 F 17 ls [] L else rnG call 147 F 9 ls [] L := rfl
set_option maxRecDepth 100000 in
theorem bt4_147_7 (call : QC FA) (x1 : Int32) (x2 : Int32) (x3 : Int32) (x4 : Int32) (L : QH FA) (F : Nat) : rnG call 147 (F + 1) 17 [some (vR 1), some (vI x1), some (vI x2), some (vI x3), some (vI x4)] [] L = rnG call 147 F 18 [some (vR 1), some (vI x1), some (vI x2), some (vI x3), some (vI x4)] [vI x3] L := rfl
set_option maxRecDepth 100000 in
theorem bt4_147_8 (call : QC FA) (x : Int32) (ls : List (Option PV)) (L : QH FA) (F : Nat) : rnG call 147 (F + 1) 18 ls [vI x] L = bif pcmp 0 x 0 then rnG call 147 F 26 ls [] L else rnG call 147 F 19 ls [] L := rfl
set_option maxRecDepth 100000 in
theorem bt4_147_9 (call : QC FA) (x1 : Int32) (x2 : Int32) (x3 : Int32) (x4 : Int32) (L : QH FA) (F : Nat) : rnG call 147 (F + 1) 26 [some (vR 1), some (vI x1), some (vI x2), some (vI x3), some (vI x4)] [] L = rnG call 147 F 27 [some (vR 1), some (vI x1), some (vI x2), some (vI x3), some (vI x4)] [vI ((-1))] L := rfl
set_option maxRecDepth 100000 in
theorem bt4_147_10 (call : QC FA) (x : Int32) (ls : List (Option PV)) (L : QH FA) (F : Nat) : rnG call 147 (F + 1) 27 ls [vI x] L = some (some (vI x), L) := rfl
set_option maxRecDepth 100000 in
theorem bt4_147_11 (call : QC FA) (x1 : Int32) (x2 : Int32) (x3 : Int32) (x4 : Int32) (z : Nat → Int32) (f : Nat → FA) (F : Nat) : rnG call 147 (F + 3) 19 [some (vR 1), some (vI x1), some (vI x2), some (vI x3), some (vI x4)] [] (LT u z f) = rnG call 147 F 22 [some (vR 1), some (vI x1), some (vI x2), some (vI x3), some (vI x4)] [vI x1, vR 2] (LT u z f) := rfl
set_option maxRecDepth 100000 in
theorem bt4_147_12 (call : QC FA) (x : Int32) (ls : List (Option PV)) (z : Nat → Int32) (f : Nat → FA) (F : Nat) : rnG call 147 (F + 1) 22 ls [vI x, vR 2] (LT u z f) = bif ((Nat.beq 3 1 || (Nat.beq 3 2 || Nat.beq 3 3)) && pin x 9) then rnG call 147 F 23 ls [.inr (.inl (wT u (ix x)))] (LT u z f) else none := rfl
set_option maxRecDepth 100000 in
theorem bt4_147_13 (call : QC FA) (x1 : Int32) (x2 : Int32) (x3 : Int32) (x4 : Int32) (L : QH FA) (F : Nat) : rnG call 147 (F + 1) 23 [some (vR 1), some (vI x1), some (vI x2), some (vI x3), some (vI x4)] [vR 11] L = rnG call 147 F 24 [some (vR 1), some (vI x1), some (vI x2), some (vI x3), some (vI x4)] [vI x4, vR 11] L := rfl
set_option maxRecDepth 100000 in
theorem bt4_147_14 (call : QC FA) (a0 : Int32) (ls : List (Option PV)) (z : Nat → Int32) (f : Nat → FA) (F : Nat) : rnG call 147 (F + 1) 24 ls [vI a0, vR 11] (LT u z f) = cbd (call 142 [vR 11, vI a0] (LT u z f)) (fun r L' => rnG call 147 F 25 ls (r.toList ++ []) L') := pcY (ih := rnG call 147 F) (call := call) (a := 142) (b := 1) (v := 9) (t := 25) (x := 11) (ls := ls) (As := [vI a0]) (st' := []) (L := LT u z f) rfl rfl rfl
set_option maxRecDepth 100000 in
theorem bt4_147_15 (call : QC FA) (x1 : Int32) (x2 : Int32) (x3 : Int32) (x4 : Int32) (s0 : Int32) (L : QH FA) (F : Nat) : rnG call 147 (F + 1) 25 [some (vR 1), some (vI x1), some (vI x2), some (vI x3), some (vI x4)] [vI s0] L = rnG call 147 F 27 [some (vR 1), some (vI x1), some (vI x2), some (vI x3), some (vI x4)] [vI s0] L := rfl
set_option maxRecDepth 100000 in
theorem bt4_147_16 (call : QC FA) (x1 : Int32) (x2 : Int32) (x3 : Int32) (x4 : Int32) (z : Nat → Int32) (f : Nat → FA) (F : Nat) : rnG call 147 (F + 3) 9 [some (vR 1), some (vI x1), some (vI x2), some (vI x3), some (vI x4)] [] (LT u z f) = rnG call 147 F 12 [some (vR 1), some (vI x1), some (vI x2), some (vI x3), some (vI x4)] [vI x1, vR 2] (LT u z f) := rfl
set_option maxRecDepth 100000 in
theorem bt4_147_17 (call : QC FA) (x : Int32) (ls : List (Option PV)) (z : Nat → Int32) (f : Nat → FA) (F : Nat) : rnG call 147 (F + 1) 12 ls [vI x, vR 2] (LT u z f) = bif ((Nat.beq 3 1 || (Nat.beq 3 2 || Nat.beq 3 3)) && pin x 9) then rnG call 147 F 13 ls [.inr (.inl (wT u (ix x)))] (LT u z f) else none := rfl
set_option maxRecDepth 100000 in
theorem bt4_147_18 (call : QC FA) (x1 : Int32) (x2 : Int32) (x3 : Int32) (x4 : Int32) (L : QH FA) (F : Nat) : rnG call 147 (F + 1) 13 [some (vR 1), some (vI x1), some (vI x2), some (vI x3), some (vI x4)] [vR 11] L = rnG call 147 F 14 [some (vR 1), some (vI x1), some (vI x2), some (vI x3), some (vI x4)] [vI 0, vR 11] L := rfl
set_option maxRecDepth 100000 in
theorem bt4_147_19 (call : QC FA) (y : Int32) (ls : List (Option PV)) (z : Nat → Int32) (f : Nat → FA) (F : Nat) : rnG call 147 (F + 1) 14 ls [vI y, vR 11] (LT u z f) = rnG call 147 F 15 ls [] (LT u (uZ z 11 y) f) := rfl
set_option maxRecDepth 100000 in
theorem bt4_147_20 (call : QC FA) (x1 : Int32) (x2 : Int32) (x3 : Int32) (x4 : Int32) (L : QH FA) (F : Nat) : rnG call 147 (F + 1) 15 [some (vR 1), some (vI x1), some (vI x2), some (vI x3), some (vI x4)] [] L = rnG call 147 F 16 [some (vR 1), some (vI x1), some (vI x2), some (vI x3), some (vI x4)] [vI 0] L := rfl
set_option maxRecDepth 100000 in
theorem bt4_147_21 (call : QC FA) (x : Int32) (ls : List (Option PV)) (L : QH FA) (F : Nat) : rnG call 147 (F + 1) 16 ls [vI x] L = some (some (vI x), L) := rfl
theorem vct4_147_0 (call : QC FA) (x2 : Int32) (x3 : Int32) (x4 : Int32) (z : Nat → Int32) (f : Nat → FA) (res : Option PV × QH FA) (H : ((x2 = 0 → ((x3 = 0 → res = (some (vI ((-1))), LT u z f)) ∧ (¬ x3 = 0 → (∃ (r1 : Int32) (z1 : Nat → Int32) (f1 : Nat → FA), call 142 [vR 11, vI x4] (LT u z f) = some (some (vI r1), LT u z1 f1) ∧ res = (some (vI r1), LT u z1 f1))))) ∧ (¬ x2 = 0 → res = (some (vI 0), LT u (uZ z 11 0) f)))) : RC call (mP 147) 0 [some (vR 1), some (vI 4), some (vI x2), some (vI x3), some (vI x4)] [] (LT u z f) res := by
  refine rc_b (i' := 1) (ls' := [some (vR 1), some (vI 4), some (vI x2), some (vI x3), some (vI x4)]) (st' := [vI 4]) (L' := LT u z f) 1 (bt4_147_1 call 4 x2 x3 x4 _) ?_
  refine rc_f (it := 5) (ie := 2) (ls' := [some (vR 1), some (vI 4), some (vI x2), some (vI x3), some (vI x4)]) (st' := []) (bt4_147_2 call 4 _ _) (by decide) ?_
  refine rc_b (i' := 4) (ls' := [some (vR 1), some (vI 4), some (vI x2), some (vI x3), some (vI x4)]) (st' := [vI 9, vI 4]) (L' := LT u z f) 2 (bt4_147_3 call 4 x2 x3 x4 _) ?_
  refine rc_t (it := 7) (ie := 5) (ls' := [some (vR 1), some (vI 4), some (vI x2), some (vI x3), some (vI x4)]) (st' := []) (bt4_147_4 call 4 9 _ _) (by decide) ?_
  refine rc_b (i' := 8) (ls' := [some (vR 1), some (vI 4), some (vI x2), some (vI x3), some (vI x4)]) (st' := [vI x2]) (L' := LT u z f) 1 (bt4_147_5 call 4 x2 x3 x4 _) ?_
  refine rc_if (it := 17) (ie := 9) (ls' := [some (vR 1), some (vI 4), some (vI x2), some (vI x3), some (vI x4)]) (st' := []) (bt4_147_6 call x2 _ _) (fun q1 => ?_) (fun q1 => ?_)
  · have H := H.1 (cI0t q1)
    refine rc_b (i' := 18) (ls' := [some (vR 1), some (vI 4), some (vI x2), some (vI x3), some (vI x4)]) (st' := [vI x3]) (L' := LT u z f) 1 (bt4_147_7 call 4 x2 x3 x4 _) ?_
    refine rc_if (it := 26) (ie := 19) (ls' := [some (vR 1), some (vI 4), some (vI x2), some (vI x3), some (vI x4)]) (st' := []) (bt4_147_8 call x3 _ _) (fun q2 => ?_) (fun q2 => ?_)
    · have H := H.1 (cI0t q2)
      refine rc_b (i' := 27) (ls' := [some (vR 1), some (vI 4), some (vI x2), some (vI x3), some (vI x4)]) (st' := [vI ((-1))]) (L' := LT u z f) 1 (bt4_147_9 call 4 x2 x3 x4 _) ?_
      subst H
      exact rc_ret (bt4_147_10 call _ _ _)
    · have H := H.2 (cI0f q2)
      refine rc_b (i' := 22) (ls' := [some (vR 1), some (vI 4), some (vI x2), some (vI x3), some (vI x4)]) (st' := [vI 4, vR 2]) (L' := LT u z f) 3 (bt4_147_11 call 4 x2 x3 x4 z f) ?_
      refine rc_g (i' := 23) (ls' := [some (vR 1), some (vI 4), some (vI x2), some (vI x3), some (vI x4)]) (st' := [.inr (.inl (wT u (ix 4)))]) (L' := LT u z f) (bt4_147_12 call 4 _ z f) (by decide) ?_
      show RC call (mP 147) 23 [some (vR 1), some (vI 4), some (vI x2), some (vI x3), some (vI x4)] [vR 11] (LT u z f) res
      refine rc_b (i' := 24) (ls' := [some (vR 1), some (vI 4), some (vI x2), some (vI x3), some (vI x4)]) (st' := [vI x4, vR 11]) (L' := LT u z f) 1 (bt4_147_13 call 4 x2 x3 x4 _) ?_
      obtain ⟨r1, z1, f1, hc, H⟩ := H
      refine rc_call (t := 25) (ls' := [some (vR 1), some (vI 4), some (vI x2), some (vI x3), some (vI x4)]) (st' := []) (bt4_147_14 call x4 _ z f) hc ?_
      show RC call (mP 147) 25 [some (vR 1), some (vI 4), some (vI x2), some (vI x3), some (vI x4)] [vI r1] (LT u z1 f1) res
      refine rc_b (i' := 27) (ls' := [some (vR 1), some (vI 4), some (vI x2), some (vI x3), some (vI x4)]) (st' := [vI r1]) (L' := LT u z1 f1) 1 (bt4_147_15 call 4 x2 x3 x4 r1 _) ?_
      subst H
      exact rc_ret (bt4_147_10 call _ _ _)
  · have H := H.2 (cI0f q1)
    refine rc_b (i' := 12) (ls' := [some (vR 1), some (vI 4), some (vI x2), some (vI x3), some (vI x4)]) (st' := [vI 4, vR 2]) (L' := LT u z f) 3 (bt4_147_16 call 4 x2 x3 x4 z f) ?_
    refine rc_g (i' := 13) (ls' := [some (vR 1), some (vI 4), some (vI x2), some (vI x3), some (vI x4)]) (st' := [.inr (.inl (wT u (ix 4)))]) (L' := LT u z f) (bt4_147_17 call 4 _ z f) (by decide) ?_
    show RC call (mP 147) 13 [some (vR 1), some (vI 4), some (vI x2), some (vI x3), some (vI x4)] [vR 11] (LT u z f) res
    refine rc_b (i' := 14) (ls' := [some (vR 1), some (vI 4), some (vI x2), some (vI x3), some (vI x4)]) (st' := [vI 0, vR 11]) (L' := LT u z f) 1 (bt4_147_18 call 4 x2 x3 x4 _) ?_
    refine rc_b (i' := 15) (ls' := [some (vR 1), some (vI 4), some (vI x2), some (vI x3), some (vI x4)]) (st' := []) (L' := LT u (uZ z 11 0) f) 1 (bt4_147_19 call 0 _ z f) ?_
    refine rc_b (i' := 16) (ls' := [some (vR 1), some (vI 4), some (vI x2), some (vI x3), some (vI x4)]) (st' := [vI 0]) (L' := LT u (uZ z 11 0) f) 1 (bt4_147_20 call 4 x2 x3 x4 _) ?_
    subst H
    exact rc_ret (bt4_147_21 call _ _ _)
theorem c_ad4_p (d : Nat) (v : Int32) {z : Nat → Int32} {f : Nat → FA} {n : Nat} (hz : z 11 = nI n) (hn : n < 8) : mcall (d + 1) 142 [vR 11, vI v] (LT u z f) = some (some (vI (nI (n + 1))), LT u (uZ z 11 (nI (n + 1))) (uA f 12 (upd (f 12) n v))) := by
  have go : ∀ res, _ → mcall (d + 1) 142 [vR 11, vI v] (LT u z f) = some res := fun res H => mcall_i (mq142 (cu := [])).2.2 rfl (vct4_142_0 (mcall d) v z f res H)
  rw [hz, I_nI (n := n) (by omega), I_nI (n := 8) (by omega), show nI n + 1 = nI (n + 1) from nI_add n 1, ix_nI (j := n) (by omega)] at go
  exact go _ ⟨fun q => by omega, fun _ => ⟨fun _ => ⟨pin_nI (by omega) (by omega), rfl⟩, fun q => by omega⟩⟩
theorem c_ad4_f (d : Nat) (v : Int32) {z : Nat → Int32} {f : Nat → FA} (hz : z 11 = nI 8) : mcall (d + 1) 142 [vR 11, vI v] (LT u z f) = some (some (vI (-1)), LT u z f) := by
  have go : ∀ res, _ → mcall (d + 1) 142 [vR 11, vI v] (LT u z f) = some res := fun res H => mcall_i (mq142 (cu := [])).2.2 rfl (vct4_142_0 (mcall d) v z f res H)
  rw [hz, I_nI (n := 8) (by omega)] at go
  exact go _ ⟨fun q => by omega, fun _ => ⟨fun q => by omega, fun _ => rfl⟩⟩
theorem c_tl4_e (d : Nat) (x3 v : Int32) {z : Nat → Int32} {f : Nat → FA} : mcall (d + 2) 147 [vR 1, vI 4, vI 1, vI x3, vI v] (LT u z f) = some (some (vI 0), LT u (uZ z 11 0) f) := mcall_i (mq147 (cu := [])).2.2 rfl (vct4_147_0 (mcall (d + 1)) 1 x3 v z f _ ⟨fun q => absurd q (by decide), fun _ => rfl⟩)
theorem c_tl4_r (d : Nat) (v : Int32) {z : Nat → Int32} {f : Nat → FA} : mcall (d + 2) 147 [vR 1, vI 4, vI 0, vI 0, vI v] (LT u z f) = some (some (vI (-1)), LT u z f) := mcall_i (mq147 (cu := [])).2.2 rfl (vct4_147_0 (mcall (d + 1)) 0 0 v z f _ ⟨fun _ => ⟨fun _ => rfl, fun q => absurd rfl q⟩, fun q => absurd rfl q⟩)
theorem c_tl4_p (d : Nat) (v : Int32) {z : Nat → Int32} {f : Nat → FA} {n : Nat} (hz : z 11 = nI n) (hn : n < 8) : mcall (d + 2) 147 [vR 1, vI 4, vI 0, vI 1, vI v] (LT u z f) = some (some (vI (nI (n + 1))), LT u (uZ z 11 (nI (n + 1))) (uA f 12 (upd (f 12) n v))) := mcall_i (mq147 (cu := [])).2.2 rfl (vct4_147_0 (mcall (d + 1)) 0 1 v z f _ ⟨fun _ => ⟨fun q => absurd q (by decide), fun _ => ⟨_, _, _, c_ad4_p d v hz hn, rfl⟩⟩, fun q => absurd rfl q⟩)
theorem c_tl4_f (d : Nat) (v : Int32) {z : Nat → Int32} {f : Nat → FA} (hz : z 11 = nI 8) : mcall (d + 2) 147 [vR 1, vI 4, vI 0, vI 1, vI v] (LT u z f) = some (some (vI (-1)), LT u z f) := mcall_i (mq147 (cu := [])).2.2 rfl (vct4_147_0 (mcall (d + 1)) 0 1 v z f _ ⟨fun _ => ⟨fun q => absurd q (by decide), fun _ => ⟨_, _, _, c_ad4_f d v hz, rfl⟩⟩, fun q => absurd rfl q⟩)
set_option maxRecDepth 100000 in
theorem bt5_142_1 (call : QC FA) (x1 : Int32) (z : Nat → Int32) (f : Nat → FA) (F : Nat) : rnG call 142 (F + 2) 0 [some (vR 13), some (vI x1)] [] (LT u z f) = rnG call 142 F 2 [some (vR 13), some (vI x1)] [vI (z 13)] (LT u z f) := rfl
set_option maxRecDepth 100000 in
theorem bt5_142_2 (call : QC FA) (x : Int32) (ls : List (Option PV)) (L : QH FA) (F : Nat) : rnG call 142 (F + 1) 2 ls [vI x] L = bif pcmp 2 x 0 then rnG call 142 F 9 ls [] L else rnG call 142 F 3 ls [] L := rfl
set_option maxRecDepth 100000 in
theorem bt5_142_3 (call : QC FA) (x1 : Int32) (L : QH FA) (F : Nat) : rnG call 142 (F + 1) 9 [some (vR 13), some (vI x1)] [] L = rnG call 142 F 10 [some (vR 13), some (vI x1)] [vI ((-1))] L := rfl
set_option maxRecDepth 100000 in
theorem bt5_142_4 (call : QC FA) (x : Int32) (ls : List (Option PV)) (L : QH FA) (F : Nat) : rnG call 142 (F + 1) 10 ls [vI x] L = some (some (vI x), L) := rfl
set_option maxRecDepth 100000 in
theorem bt5_142_5 (call : QC FA) (x1 : Int32) (z : Nat → Int32) (f : Nat → FA) (F : Nat) : rnG call 142 (F + 5) 3 [some (vR 13), some (vI x1)] [] (LT u z f) = rnG call 142 F 8 [some (vR 13), some (vI x1)] [vI (nI 8), vI (z 13)] (LT u z f) := rfl
set_option maxRecDepth 100000 in
theorem bt5_142_6 (call : QC FA) (x y : Int32) (ls : List (Option PV)) (L : QH FA) (F : Nat) : rnG call 142 (F + 1) 8 ls [vI y, vI x] L = bif pcmp 2 x y then rnG call 142 F 11 ls [] L else rnG call 142 F 9 ls [] L := rfl
set_option maxRecDepth 100000 in
theorem bt5_142_7 (call : QC FA) (x1 : Int32) (z : Nat → Int32) (f : Nat → FA) (F : Nat) : rnG call 142 (F + 5) 11 [some (vR 13), some (vI x1)] [] (LT u z f) = rnG call 142 F 16 [some (vR 13), some (vI x1)] [vI x1, vI (z 13), vR 14] (LT u z f) := rfl
set_option maxRecDepth 100000 in
theorem bt5_142_8 (call : QC FA) (x y : Int32) (ls : List (Option PV)) (z : Nat → Int32) (f : Nat → FA) (F : Nat) : rnG call 142 (F + 1) 16 ls [vI y, vI x, vR 14] (LT u z f) = bif (Nat.beq 0 0 && pin x 8) then rnG call 142 F 17 ls [] (LT u z (uA f 14 (upd (f 14) (ix x) y))) else none := rfl
set_option maxRecDepth 100000 in
theorem bt5_142_9 (call : QC FA) (x1 : Int32) (z : Nat → Int32) (f : Nat → FA) (F : Nat) : rnG call 142 (F + 5) 17 [some (vR 13), some (vI x1)] [] (LT u z f) = rnG call 142 F 22 [some (vR 13), some (vI x1)] [vI ((z 13) + 1), vR 13] (LT u z f) := rfl
set_option maxRecDepth 100000 in
theorem bt5_142_10 (call : QC FA) (y : Int32) (ls : List (Option PV)) (z : Nat → Int32) (f : Nat → FA) (F : Nat) : rnG call 142 (F + 1) 22 ls [vI y, vR 13] (LT u z f) = rnG call 142 F 23 ls [] (LT u (uZ z 13 y) f) := rfl
set_option maxRecDepth 100000 in
theorem bt5_142_11 (call : QC FA) (x1 : Int32) (z : Nat → Int32) (f : Nat → FA) (F : Nat) : rnG call 142 (F + 2) 23 [some (vR 13), some (vI x1)] [] (LT u z f) = rnG call 142 F 25 [some (vR 13), some (vI x1)] [vI (z 13)] (LT u z f) := rfl
set_option maxRecDepth 100000 in
theorem bt5_142_12 (call : QC FA) (x : Int32) (ls : List (Option PV)) (L : QH FA) (F : Nat) : rnG call 142 (F + 1) 25 ls [vI x] L = some (some (vI x), L) := rfl
theorem vct5_142_0 (call : QC FA) (x1 : Int32) (z : Nat → Int32) (f : Nat → FA) (res : Option PV × QH FA) (H : ((I (z 13) < 0 → res = (some (vI ((-1))), LT u z f)) ∧ (0 ≤ I (z 13) → ((I (z 13) < I (nI 8) → (pin (z 13) 8 = true ∧ res = (some (vI ((z 13) + 1)), LT u (uZ z 13 ((z 13) + 1)) (uA f 14 (upd (f 14) (ix (z 13)) x1))))) ∧ (I (nI 8) ≤ I (z 13) → res = (some (vI ((-1))), LT u z f)))))) : RC call (mP 142) 0 [some (vR 13), some (vI x1)] [] (LT u z f) res := by
  refine rc_b (i' := 2) (ls' := [some (vR 13), some (vI x1)]) (st' := [vI (z 13)]) (L' := LT u z f) 2 (bt5_142_1 call x1 z f) ?_
  refine rc_if (it := 9) (ie := 3) (ls' := [some (vR 13), some (vI x1)]) (st' := []) (bt5_142_2 call (z 13) _ _) (fun q1 => ?_) (fun q1 => ?_)
  · have H := H.1 (cI2t q1 rfl rfl)
    refine rc_b (i' := 10) (ls' := [some (vR 13), some (vI x1)]) (st' := [vI ((-1))]) (L' := LT u z f) 1 (bt5_142_3 call x1 _) ?_
    subst H
    exact rc_ret (bt5_142_4 call _ _ _)
  · have H := H.2 (cI2f q1 rfl rfl)
    refine rc_b (i' := 8) (ls' := [some (vR 13), some (vI x1)]) (st' := [vI (nI 8), vI (z 13)]) (L' := LT u z f) 5 (bt5_142_5 call x1 z f) ?_
    refine rc_if (it := 11) (ie := 9) (ls' := [some (vR 13), some (vI x1)]) (st' := []) (bt5_142_6 call (z 13) (nI 8) _ _) (fun q2 => ?_) (fun q2 => ?_)
    · have H := H.1 (cI2t q2 rfl rfl)
      refine rc_b (i' := 16) (ls' := [some (vR 13), some (vI x1)]) (st' := [vI x1, vI (z 13), vR 14]) (L' := LT u z f) 5 (bt5_142_7 call x1 z f) ?_
      obtain ⟨g1, H⟩ := H
      refine rc_g (i' := 17) (ls' := [some (vR 13), some (vI x1)]) (st' := []) (L' := LT u z (uA f 14 (upd (f 14) (ix (z 13)) x1))) (bt5_142_8 call (z 13) x1 _ z f) (pinG g1) ?_
      refine rc_b (i' := 22) (ls' := [some (vR 13), some (vI x1)]) (st' := [vI ((z 13) + 1), vR 13]) (L' := LT u z (uA f 14 (upd (f 14) (ix (z 13)) x1))) 5 (bt5_142_9 call x1 z (uA f 14 (upd (f 14) (ix (z 13)) x1))) ?_
      refine rc_b (i' := 23) (ls' := [some (vR 13), some (vI x1)]) (st' := []) (L' := LT u (uZ z 13 ((z 13) + 1)) (uA f 14 (upd (f 14) (ix (z 13)) x1))) 1 (bt5_142_10 call ((z 13) + 1) _ z (uA f 14 (upd (f 14) (ix (z 13)) x1))) ?_
      refine rc_b (i' := 25) (ls' := [some (vR 13), some (vI x1)]) (st' := [vI ((z 13) + 1)]) (L' := LT u (uZ z 13 ((z 13) + 1)) (uA f 14 (upd (f 14) (ix (z 13)) x1))) 2 (bt5_142_11 call x1 (uZ z 13 ((z 13) + 1)) (uA f 14 (upd (f 14) (ix (z 13)) x1))) ?_
      subst H
      exact rc_ret (bt5_142_12 call _ _ _)
    · have H := H.2 (cI2f q2 rfl rfl)
      refine rc_b (i' := 10) (ls' := [some (vR 13), some (vI x1)]) (st' := [vI ((-1))]) (L' := LT u z f) 1 (bt5_142_3 call x1 _) ?_
      subst H
      exact rc_ret (bt5_142_4 call _ _ _)
set_option maxRecDepth 100000 in
theorem bt5_147_1 (call : QC FA) (x1 : Int32) (x2 : Int32) (x3 : Int32) (x4 : Int32) (L : QH FA) (F : Nat) : rnG call 147 (F + 1) 0 [some (vR 1), some (vI x1), some (vI x2), some (vI x3), some (vI x4)] [] L = rnG call 147 F 1 [some (vR 1), some (vI x1), some (vI x2), some (vI x3), some (vI x4)] [vI x1] L := rfl
set_option maxRecDepth 100000 in
theorem bt5_147_2 (call : QC FA) (x : Int32) (ls : List (Option PV)) (L : QH FA) (F : Nat) : rnG call 147 (F + 1) 1 ls [vI x] L = bif pcmp 2 x 0 then rnG call 147 F 5 ls [] L else rnG call 147 F 2 ls [] L := rfl
set_option maxRecDepth 100000 in
theorem bt5_147_3 (call : QC FA) (x1 : Int32) (x2 : Int32) (x3 : Int32) (x4 : Int32) (L : QH FA) (F : Nat) : rnG call 147 (F + 2) 2 [some (vR 1), some (vI x1), some (vI x2), some (vI x3), some (vI x4)] [] L = rnG call 147 F 4 [some (vR 1), some (vI x1), some (vI x2), some (vI x3), some (vI x4)] [vI 9, vI x1] L := rfl
set_option maxRecDepth 100000 in
theorem bt5_147_4 (call : QC FA) (x y : Int32) (ls : List (Option PV)) (L : QH FA) (F : Nat) : rnG call 147 (F + 1) 4 ls [vI y, vI x] L = bif pcmp 2 x y then rnG call 147 F 7 ls [] L else rnG call 147 F 5 ls [] L := rfl
set_option maxRecDepth 100000 in
theorem bt5_147_5 (call : QC FA) (x1 : Int32) (x2 : Int32) (x3 : Int32) (x4 : Int32) (L : QH FA) (F : Nat) : rnG call 147 (F + 1) 7 [some (vR 1), some (vI x1), some (vI x2), some (vI x3), some (vI x4)] [] L = rnG call 147 F 8 [some (vR 1), some (vI x1), some (vI x2), some (vI x3), some (vI x4)] [vI x2] L := rfl
set_option maxRecDepth 100000 in
theorem bt5_147_6 (call : QC FA) (x : Int32) (ls : List (Option PV)) (L : QH FA) (F : Nat) : rnG call 147 (F + 1) 8 ls [vI x] L = bif pcmp 0 x 0 then rnG call 147 F 17 ls [] L else rnG call 147 F 9 ls [] L := rfl
set_option maxRecDepth 100000 in
theorem bt5_147_7 (call : QC FA) (x1 : Int32) (x2 : Int32) (x3 : Int32) (x4 : Int32) (L : QH FA) (F : Nat) : rnG call 147 (F + 1) 17 [some (vR 1), some (vI x1), some (vI x2), some (vI x3), some (vI x4)] [] L = rnG call 147 F 18 [some (vR 1), some (vI x1), some (vI x2), some (vI x3), some (vI x4)] [vI x3] L := rfl
set_option maxRecDepth 100000 in
theorem bt5_147_8 (call : QC FA) (x : Int32) (ls : List (Option PV)) (L : QH FA) (F : Nat) : rnG call 147 (F + 1) 18 ls [vI x] L = bif pcmp 0 x 0 then rnG call 147 F 26 ls [] L else rnG call 147 F 19 ls [] L := rfl
set_option maxRecDepth 100000 in
theorem bt5_147_9 (call : QC FA) (x1 : Int32) (x2 : Int32) (x3 : Int32) (x4 : Int32) (L : QH FA) (F : Nat) : rnG call 147 (F + 1) 26 [some (vR 1), some (vI x1), some (vI x2), some (vI x3), some (vI x4)] [] L = rnG call 147 F 27 [some (vR 1), some (vI x1), some (vI x2), some (vI x3), some (vI x4)] [vI ((-1))] L := rfl
set_option maxRecDepth 100000 in
theorem bt5_147_10 (call : QC FA) (x : Int32) (ls : List (Option PV)) (L : QH FA) (F : Nat) : rnG call 147 (F + 1) 27 ls [vI x] L = some (some (vI x), L) := rfl
set_option maxRecDepth 100000 in
theorem bt5_147_11 (call : QC FA) (x1 : Int32) (x2 : Int32) (x3 : Int32) (x4 : Int32) (z : Nat → Int32) (f : Nat → FA) (F : Nat) : rnG call 147 (F + 3) 19 [some (vR 1), some (vI x1), some (vI x2), some (vI x3), some (vI x4)] [] (LT u z f) = rnG call 147 F 22 [some (vR 1), some (vI x1), some (vI x2), some (vI x3), some (vI x4)] [vI x1, vR 2] (LT u z f) := rfl
set_option maxRecDepth 100000 in
theorem bt5_147_12 (call : QC FA) (x : Int32) (ls : List (Option PV)) (z : Nat → Int32) (f : Nat → FA) (F : Nat) : rnG call 147 (F + 1) 22 ls [vI x, vR 2] (LT u z f) = bif ((Nat.beq 3 1 || (Nat.beq 3 2 || Nat.beq 3 3)) && pin x 9) then rnG call 147 F 23 ls [.inr (.inl (wT u (ix x)))] (LT u z f) else none := rfl
set_option maxRecDepth 100000 in
theorem bt5_147_13 (call : QC FA) (x1 : Int32) (x2 : Int32) (x3 : Int32) (x4 : Int32) (L : QH FA) (F : Nat) : rnG call 147 (F + 1) 23 [some (vR 1), some (vI x1), some (vI x2), some (vI x3), some (vI x4)] [vR 13] L = rnG call 147 F 24 [some (vR 1), some (vI x1), some (vI x2), some (vI x3), some (vI x4)] [vI x4, vR 13] L := rfl
set_option maxRecDepth 100000 in
theorem bt5_147_14 (call : QC FA) (a0 : Int32) (ls : List (Option PV)) (z : Nat → Int32) (f : Nat → FA) (F : Nat) : rnG call 147 (F + 1) 24 ls [vI a0, vR 13] (LT u z f) = cbd (call 142 [vR 13, vI a0] (LT u z f)) (fun r L' => rnG call 147 F 25 ls (r.toList ++ []) L') := pcY (ih := rnG call 147 F) (call := call) (a := 142) (b := 1) (v := 9) (t := 25) (x := 13) (ls := ls) (As := [vI a0]) (st' := []) (L := LT u z f) rfl rfl rfl
set_option maxRecDepth 100000 in
theorem bt5_147_15 (call : QC FA) (x1 : Int32) (x2 : Int32) (x3 : Int32) (x4 : Int32) (s0 : Int32) (L : QH FA) (F : Nat) : rnG call 147 (F + 1) 25 [some (vR 1), some (vI x1), some (vI x2), some (vI x3), some (vI x4)] [vI s0] L = rnG call 147 F 27 [some (vR 1), some (vI x1), some (vI x2), some (vI x3), some (vI x4)] [vI s0] L := rfl
set_option maxRecDepth 100000 in
theorem bt5_147_16 (call : QC FA) (x1 : Int32) (x2 : Int32) (x3 : Int32) (x4 : Int32) (z : Nat → Int32) (f : Nat → FA) (F : Nat) : rnG call 147 (F + 3) 9 [some (vR 1), some (vI x1), some (vI x2), some (vI x3), some (vI x4)] [] (LT u z f) = rnG call 147 F 12 [some (vR 1), some (vI x1), some (vI x2), some (vI x3), some (vI x4)] [vI x1, vR 2] (LT u z f) := rfl
set_option maxRecDepth 100000 in
theorem bt5_147_17 (call : QC FA) (x : Int32) (ls : List (Option PV)) (z : Nat → Int32) (f : Nat → FA) (F : Nat) : rnG call 147 (F + 1) 12 ls [vI x, vR 2] (LT u z f) = bif ((Nat.beq 3 1 || (Nat.beq 3 2 || Nat.beq 3 3)) && pin x 9) then rnG call 147 F 13 ls [.inr (.inl (wT u (ix x)))] (LT u z f) else none := rfl
set_option maxRecDepth 100000 in
theorem bt5_147_18 (call : QC FA) (x1 : Int32) (x2 : Int32) (x3 : Int32) (x4 : Int32) (L : QH FA) (F : Nat) : rnG call 147 (F + 1) 13 [some (vR 1), some (vI x1), some (vI x2), some (vI x3), some (vI x4)] [vR 13] L = rnG call 147 F 14 [some (vR 1), some (vI x1), some (vI x2), some (vI x3), some (vI x4)] [vI 0, vR 13] L := rfl
set_option maxRecDepth 100000 in
theorem bt5_147_19 (call : QC FA) (y : Int32) (ls : List (Option PV)) (z : Nat → Int32) (f : Nat → FA) (F : Nat) : rnG call 147 (F + 1) 14 ls [vI y, vR 13] (LT u z f) = rnG call 147 F 15 ls [] (LT u (uZ z 13 y) f) := rfl
set_option maxRecDepth 100000 in
theorem bt5_147_20 (call : QC FA) (x1 : Int32) (x2 : Int32) (x3 : Int32) (x4 : Int32) (L : QH FA) (F : Nat) : rnG call 147 (F + 1) 15 [some (vR 1), some (vI x1), some (vI x2), some (vI x3), some (vI x4)] [] L = rnG call 147 F 16 [some (vR 1), some (vI x1), some (vI x2), some (vI x3), some (vI x4)] [vI 0] L := rfl
set_option maxRecDepth 100000 in
theorem bt5_147_21 (call : QC FA) (x : Int32) (ls : List (Option PV)) (L : QH FA) (F : Nat) : rnG call 147 (F + 1) 16 ls [vI x] L = some (some (vI x), L) := rfl
theorem vct5_147_0 (call : QC FA) (x2 : Int32) (x3 : Int32) (x4 : Int32) (z : Nat → Int32) (f : Nat → FA) (res : Option PV × QH FA) (H : ((x2 = 0 → ((x3 = 0 → res = (some (vI ((-1))), LT u z f)) ∧ (¬ x3 = 0 → (∃ (r1 : Int32) (z1 : Nat → Int32) (f1 : Nat → FA), call 142 [vR 13, vI x4] (LT u z f) = some (some (vI r1), LT u z1 f1) ∧ res = (some (vI r1), LT u z1 f1))))) ∧ (¬ x2 = 0 → res = (some (vI 0), LT u (uZ z 13 0) f)))) : RC call (mP 147) 0 [some (vR 1), some (vI 5), some (vI x2), some (vI x3), some (vI x4)] [] (LT u z f) res := by
  refine rc_b (i' := 1) (ls' := [some (vR 1), some (vI 5), some (vI x2), some (vI x3), some (vI x4)]) (st' := [vI 5]) (L' := LT u z f) 1 (bt5_147_1 call 5 x2 x3 x4 _) ?_
  refine rc_f (it := 5) (ie := 2) (ls' := [some (vR 1), some (vI 5), some (vI x2), some (vI x3), some (vI x4)]) (st' := []) (bt5_147_2 call 5 _ _) (by decide) ?_
  refine rc_b (i' := 4) (ls' := [some (vR 1), some (vI 5), some (vI x2), some (vI x3), some (vI x4)]) (st' := [vI 9, vI 5]) (L' := LT u z f) 2 (bt5_147_3 call 5 x2 x3 x4 _) ?_
  refine rc_t (it := 7) (ie := 5) (ls' := [some (vR 1), some (vI 5), some (vI x2), some (vI x3), some (vI x4)]) (st' := []) (bt5_147_4 call 5 9 _ _) (by decide) ?_
  refine rc_b (i' := 8) (ls' := [some (vR 1), some (vI 5), some (vI x2), some (vI x3), some (vI x4)]) (st' := [vI x2]) (L' := LT u z f) 1 (bt5_147_5 call 5 x2 x3 x4 _) ?_
  refine rc_if (it := 17) (ie := 9) (ls' := [some (vR 1), some (vI 5), some (vI x2), some (vI x3), some (vI x4)]) (st' := []) (bt5_147_6 call x2 _ _) (fun q1 => ?_) (fun q1 => ?_)
  · have H := H.1 (cI0t q1)
    refine rc_b (i' := 18) (ls' := [some (vR 1), some (vI 5), some (vI x2), some (vI x3), some (vI x4)]) (st' := [vI x3]) (L' := LT u z f) 1 (bt5_147_7 call 5 x2 x3 x4 _) ?_
    refine rc_if (it := 26) (ie := 19) (ls' := [some (vR 1), some (vI 5), some (vI x2), some (vI x3), some (vI x4)]) (st' := []) (bt5_147_8 call x3 _ _) (fun q2 => ?_) (fun q2 => ?_)
    · have H := H.1 (cI0t q2)
      refine rc_b (i' := 27) (ls' := [some (vR 1), some (vI 5), some (vI x2), some (vI x3), some (vI x4)]) (st' := [vI ((-1))]) (L' := LT u z f) 1 (bt5_147_9 call 5 x2 x3 x4 _) ?_
      subst H
      exact rc_ret (bt5_147_10 call _ _ _)
    · have H := H.2 (cI0f q2)
      refine rc_b (i' := 22) (ls' := [some (vR 1), some (vI 5), some (vI x2), some (vI x3), some (vI x4)]) (st' := [vI 5, vR 2]) (L' := LT u z f) 3 (bt5_147_11 call 5 x2 x3 x4 z f) ?_
      refine rc_g (i' := 23) (ls' := [some (vR 1), some (vI 5), some (vI x2), some (vI x3), some (vI x4)]) (st' := [.inr (.inl (wT u (ix 5)))]) (L' := LT u z f) (bt5_147_12 call 5 _ z f) (by decide) ?_
      show RC call (mP 147) 23 [some (vR 1), some (vI 5), some (vI x2), some (vI x3), some (vI x4)] [vR 13] (LT u z f) res
      refine rc_b (i' := 24) (ls' := [some (vR 1), some (vI 5), some (vI x2), some (vI x3), some (vI x4)]) (st' := [vI x4, vR 13]) (L' := LT u z f) 1 (bt5_147_13 call 5 x2 x3 x4 _) ?_
      obtain ⟨r1, z1, f1, hc, H⟩ := H
      refine rc_call (t := 25) (ls' := [some (vR 1), some (vI 5), some (vI x2), some (vI x3), some (vI x4)]) (st' := []) (bt5_147_14 call x4 _ z f) hc ?_
      show RC call (mP 147) 25 [some (vR 1), some (vI 5), some (vI x2), some (vI x3), some (vI x4)] [vI r1] (LT u z1 f1) res
      refine rc_b (i' := 27) (ls' := [some (vR 1), some (vI 5), some (vI x2), some (vI x3), some (vI x4)]) (st' := [vI r1]) (L' := LT u z1 f1) 1 (bt5_147_15 call 5 x2 x3 x4 r1 _) ?_
      subst H
      exact rc_ret (bt5_147_10 call _ _ _)
  · have H := H.2 (cI0f q1)
    refine rc_b (i' := 12) (ls' := [some (vR 1), some (vI 5), some (vI x2), some (vI x3), some (vI x4)]) (st' := [vI 5, vR 2]) (L' := LT u z f) 3 (bt5_147_16 call 5 x2 x3 x4 z f) ?_
    refine rc_g (i' := 13) (ls' := [some (vR 1), some (vI 5), some (vI x2), some (vI x3), some (vI x4)]) (st' := [.inr (.inl (wT u (ix 5)))]) (L' := LT u z f) (bt5_147_17 call 5 _ z f) (by decide) ?_
    show RC call (mP 147) 13 [some (vR 1), some (vI 5), some (vI x2), some (vI x3), some (vI x4)] [vR 13] (LT u z f) res
    refine rc_b (i' := 14) (ls' := [some (vR 1), some (vI 5), some (vI x2), some (vI x3), some (vI x4)]) (st' := [vI 0, vR 13]) (L' := LT u z f) 1 (bt5_147_18 call 5 x2 x3 x4 _) ?_
    refine rc_b (i' := 15) (ls' := [some (vR 1), some (vI 5), some (vI x2), some (vI x3), some (vI x4)]) (st' := []) (L' := LT u (uZ z 13 0) f) 1 (bt5_147_19 call 0 _ z f) ?_
    refine rc_b (i' := 16) (ls' := [some (vR 1), some (vI 5), some (vI x2), some (vI x3), some (vI x4)]) (st' := [vI 0]) (L' := LT u (uZ z 13 0) f) 1 (bt5_147_20 call 5 x2 x3 x4 _) ?_
    subst H
    exact rc_ret (bt5_147_21 call _ _ _)
theorem c_ad5_p (d : Nat) (v : Int32) {z : Nat → Int32} {f : Nat → FA} {n : Nat} (hz : z 13 = nI n) (hn : n < 8) : mcall (d + 1) 142 [vR 13, vI v] (LT u z f) = some (some (vI (nI (n + 1))), LT u (uZ z 13 (nI (n + 1))) (uA f 14 (upd (f 14) n v))) := by
  have go : ∀ res, _ → mcall (d + 1) 142 [vR 13, vI v] (LT u z f) = some res := fun res H => mcall_i (mq142 (cu := [])).2.2 rfl (vct5_142_0 (mcall d) v z f res H)
  rw [hz, I_nI (n := n) (by omega), I_nI (n := 8) (by omega), show nI n + 1 = nI (n + 1) from nI_add n 1, ix_nI (j := n) (by omega)] at go
  exact go _ ⟨fun q => by omega, fun _ => ⟨fun _ => ⟨pin_nI (by omega) (by omega), rfl⟩, fun q => by omega⟩⟩
theorem c_ad5_f (d : Nat) (v : Int32) {z : Nat → Int32} {f : Nat → FA} (hz : z 13 = nI 8) : mcall (d + 1) 142 [vR 13, vI v] (LT u z f) = some (some (vI (-1)), LT u z f) := by
  have go : ∀ res, _ → mcall (d + 1) 142 [vR 13, vI v] (LT u z f) = some res := fun res H => mcall_i (mq142 (cu := [])).2.2 rfl (vct5_142_0 (mcall d) v z f res H)
  rw [hz, I_nI (n := 8) (by omega)] at go
  exact go _ ⟨fun q => by omega, fun _ => ⟨fun q => by omega, fun _ => rfl⟩⟩
theorem c_tl5_e (d : Nat) (x3 v : Int32) {z : Nat → Int32} {f : Nat → FA} : mcall (d + 2) 147 [vR 1, vI 5, vI 1, vI x3, vI v] (LT u z f) = some (some (vI 0), LT u (uZ z 13 0) f) := mcall_i (mq147 (cu := [])).2.2 rfl (vct5_147_0 (mcall (d + 1)) 1 x3 v z f _ ⟨fun q => absurd q (by decide), fun _ => rfl⟩)
theorem c_tl5_r (d : Nat) (v : Int32) {z : Nat → Int32} {f : Nat → FA} : mcall (d + 2) 147 [vR 1, vI 5, vI 0, vI 0, vI v] (LT u z f) = some (some (vI (-1)), LT u z f) := mcall_i (mq147 (cu := [])).2.2 rfl (vct5_147_0 (mcall (d + 1)) 0 0 v z f _ ⟨fun _ => ⟨fun _ => rfl, fun q => absurd rfl q⟩, fun q => absurd rfl q⟩)
theorem c_tl5_p (d : Nat) (v : Int32) {z : Nat → Int32} {f : Nat → FA} {n : Nat} (hz : z 13 = nI n) (hn : n < 8) : mcall (d + 2) 147 [vR 1, vI 5, vI 0, vI 1, vI v] (LT u z f) = some (some (vI (nI (n + 1))), LT u (uZ z 13 (nI (n + 1))) (uA f 14 (upd (f 14) n v))) := mcall_i (mq147 (cu := [])).2.2 rfl (vct5_147_0 (mcall (d + 1)) 0 1 v z f _ ⟨fun _ => ⟨fun q => absurd q (by decide), fun _ => ⟨_, _, _, c_ad5_p d v hz hn, rfl⟩⟩, fun q => absurd rfl q⟩)
theorem c_tl5_f (d : Nat) (v : Int32) {z : Nat → Int32} {f : Nat → FA} (hz : z 13 = nI 8) : mcall (d + 2) 147 [vR 1, vI 5, vI 0, vI 1, vI v] (LT u z f) = some (some (vI (-1)), LT u z f) := mcall_i (mq147 (cu := [])).2.2 rfl (vct5_147_0 (mcall (d + 1)) 0 1 v z f _ ⟨fun _ => ⟨fun q => absurd q (by decide), fun _ => ⟨_, _, _, c_ad5_f d v hz, rfl⟩⟩, fun q => absurd rfl q⟩)
set_option maxRecDepth 100000 in
theorem bt6_142_1 (call : QC FA) (x1 : Int32) (z : Nat → Int32) (f : Nat → FA) (F : Nat) : rnG call 142 (F + 2) 0 [some (vR 15), some (vI x1)] [] (LT u z f) = rnG call 142 F 2 [some (vR 15), some (vI x1)] [vI (z 15)] (LT u z f) := rfl
set_option maxRecDepth 100000 in
theorem bt6_142_2 (call : QC FA) (x : Int32) (ls : List (Option PV)) (L : QH FA) (F : Nat) : rnG call 142 (F + 1) 2 ls [vI x] L = bif pcmp 2 x 0 then rnG call 142 F 9 ls [] L else rnG call 142 F 3 ls [] L := rfl
set_option maxRecDepth 100000 in
theorem bt6_142_3 (call : QC FA) (x1 : Int32) (L : QH FA) (F : Nat) : rnG call 142 (F + 1) 9 [some (vR 15), some (vI x1)] [] L = rnG call 142 F 10 [some (vR 15), some (vI x1)] [vI ((-1))] L := rfl
set_option maxRecDepth 100000 in
theorem bt6_142_4 (call : QC FA) (x : Int32) (ls : List (Option PV)) (L : QH FA) (F : Nat) : rnG call 142 (F + 1) 10 ls [vI x] L = some (some (vI x), L) := rfl
set_option maxRecDepth 100000 in
theorem bt6_142_5 (call : QC FA) (x1 : Int32) (z : Nat → Int32) (f : Nat → FA) (F : Nat) : rnG call 142 (F + 5) 3 [some (vR 15), some (vI x1)] [] (LT u z f) = rnG call 142 F 8 [some (vR 15), some (vI x1)] [vI (nI 12), vI (z 15)] (LT u z f) := rfl
set_option maxRecDepth 100000 in
theorem bt6_142_6 (call : QC FA) (x y : Int32) (ls : List (Option PV)) (L : QH FA) (F : Nat) : rnG call 142 (F + 1) 8 ls [vI y, vI x] L = bif pcmp 2 x y then rnG call 142 F 11 ls [] L else rnG call 142 F 9 ls [] L := rfl
set_option maxRecDepth 100000 in
theorem bt6_142_7 (call : QC FA) (x1 : Int32) (z : Nat → Int32) (f : Nat → FA) (F : Nat) : rnG call 142 (F + 5) 11 [some (vR 15), some (vI x1)] [] (LT u z f) = rnG call 142 F 16 [some (vR 15), some (vI x1)] [vI x1, vI (z 15), vR 16] (LT u z f) := rfl
set_option maxRecDepth 100000 in
theorem bt6_142_8 (call : QC FA) (x y : Int32) (ls : List (Option PV)) (z : Nat → Int32) (f : Nat → FA) (F : Nat) : rnG call 142 (F + 1) 16 ls [vI y, vI x, vR 16] (LT u z f) = bif (Nat.beq 0 0 && pin x 12) then rnG call 142 F 17 ls [] (LT u z (uA f 16 (upd (f 16) (ix x) y))) else none := rfl
set_option maxRecDepth 100000 in
theorem bt6_142_9 (call : QC FA) (x1 : Int32) (z : Nat → Int32) (f : Nat → FA) (F : Nat) : rnG call 142 (F + 5) 17 [some (vR 15), some (vI x1)] [] (LT u z f) = rnG call 142 F 22 [some (vR 15), some (vI x1)] [vI ((z 15) + 1), vR 15] (LT u z f) := rfl
set_option maxRecDepth 100000 in
theorem bt6_142_10 (call : QC FA) (y : Int32) (ls : List (Option PV)) (z : Nat → Int32) (f : Nat → FA) (F : Nat) : rnG call 142 (F + 1) 22 ls [vI y, vR 15] (LT u z f) = rnG call 142 F 23 ls [] (LT u (uZ z 15 y) f) := rfl
set_option maxRecDepth 100000 in
theorem bt6_142_11 (call : QC FA) (x1 : Int32) (z : Nat → Int32) (f : Nat → FA) (F : Nat) : rnG call 142 (F + 2) 23 [some (vR 15), some (vI x1)] [] (LT u z f) = rnG call 142 F 25 [some (vR 15), some (vI x1)] [vI (z 15)] (LT u z f) := rfl
set_option maxRecDepth 100000 in
theorem bt6_142_12 (call : QC FA) (x : Int32) (ls : List (Option PV)) (L : QH FA) (F : Nat) : rnG call 142 (F + 1) 25 ls [vI x] L = some (some (vI x), L) := rfl
theorem vct6_142_0 (call : QC FA) (x1 : Int32) (z : Nat → Int32) (f : Nat → FA) (res : Option PV × QH FA) (H : ((I (z 15) < 0 → res = (some (vI ((-1))), LT u z f)) ∧ (0 ≤ I (z 15) → ((I (z 15) < I (nI 12) → (pin (z 15) 12 = true ∧ res = (some (vI ((z 15) + 1)), LT u (uZ z 15 ((z 15) + 1)) (uA f 16 (upd (f 16) (ix (z 15)) x1))))) ∧ (I (nI 12) ≤ I (z 15) → res = (some (vI ((-1))), LT u z f)))))) : RC call (mP 142) 0 [some (vR 15), some (vI x1)] [] (LT u z f) res := by
  refine rc_b (i' := 2) (ls' := [some (vR 15), some (vI x1)]) (st' := [vI (z 15)]) (L' := LT u z f) 2 (bt6_142_1 call x1 z f) ?_
  refine rc_if (it := 9) (ie := 3) (ls' := [some (vR 15), some (vI x1)]) (st' := []) (bt6_142_2 call (z 15) _ _) (fun q1 => ?_) (fun q1 => ?_)
  · have H := H.1 (cI2t q1 rfl rfl)
    refine rc_b (i' := 10) (ls' := [some (vR 15), some (vI x1)]) (st' := [vI ((-1))]) (L' := LT u z f) 1 (bt6_142_3 call x1 _) ?_
    subst H
    exact rc_ret (bt6_142_4 call _ _ _)
  · have H := H.2 (cI2f q1 rfl rfl)
    refine rc_b (i' := 8) (ls' := [some (vR 15), some (vI x1)]) (st' := [vI (nI 12), vI (z 15)]) (L' := LT u z f) 5 (bt6_142_5 call x1 z f) ?_
    refine rc_if (it := 11) (ie := 9) (ls' := [some (vR 15), some (vI x1)]) (st' := []) (bt6_142_6 call (z 15) (nI 12) _ _) (fun q2 => ?_) (fun q2 => ?_)
    · have H := H.1 (cI2t q2 rfl rfl)
      refine rc_b (i' := 16) (ls' := [some (vR 15), some (vI x1)]) (st' := [vI x1, vI (z 15), vR 16]) (L' := LT u z f) 5 (bt6_142_7 call x1 z f) ?_
      obtain ⟨g1, H⟩ := H
      refine rc_g (i' := 17) (ls' := [some (vR 15), some (vI x1)]) (st' := []) (L' := LT u z (uA f 16 (upd (f 16) (ix (z 15)) x1))) (bt6_142_8 call (z 15) x1 _ z f) (pinG g1) ?_
      refine rc_b (i' := 22) (ls' := [some (vR 15), some (vI x1)]) (st' := [vI ((z 15) + 1), vR 15]) (L' := LT u z (uA f 16 (upd (f 16) (ix (z 15)) x1))) 5 (bt6_142_9 call x1 z (uA f 16 (upd (f 16) (ix (z 15)) x1))) ?_
      refine rc_b (i' := 23) (ls' := [some (vR 15), some (vI x1)]) (st' := []) (L' := LT u (uZ z 15 ((z 15) + 1)) (uA f 16 (upd (f 16) (ix (z 15)) x1))) 1 (bt6_142_10 call ((z 15) + 1) _ z (uA f 16 (upd (f 16) (ix (z 15)) x1))) ?_
      refine rc_b (i' := 25) (ls' := [some (vR 15), some (vI x1)]) (st' := [vI ((z 15) + 1)]) (L' := LT u (uZ z 15 ((z 15) + 1)) (uA f 16 (upd (f 16) (ix (z 15)) x1))) 2 (bt6_142_11 call x1 (uZ z 15 ((z 15) + 1)) (uA f 16 (upd (f 16) (ix (z 15)) x1))) ?_
      subst H
      exact rc_ret (bt6_142_12 call _ _ _)
    · have H := H.2 (cI2f q2 rfl rfl)
      refine rc_b (i' := 10) (ls' := [some (vR 15), some (vI x1)]) (st' := [vI ((-1))]) (L' := LT u z f) 1 (bt6_142_3 call x1 _) ?_
      subst H
      exact rc_ret (bt6_142_4 call _ _ _)
set_option maxRecDepth 100000 in
theorem bt6_147_1 (call : QC FA) (x1 : Int32) (x2 : Int32) (x3 : Int32) (x4 : Int32) (L : QH FA) (F : Nat) : rnG call 147 (F + 1) 0 [some (vR 1), some (vI x1), some (vI x2), some (vI x3), some (vI x4)] [] L = rnG call 147 F 1 [some (vR 1), some (vI x1), some (vI x2), some (vI x3), some (vI x4)] [vI x1] L := rfl
set_option maxRecDepth 100000 in
theorem bt6_147_2 (call : QC FA) (x : Int32) (ls : List (Option PV)) (L : QH FA) (F : Nat) : rnG call 147 (F + 1) 1 ls [vI x] L = bif pcmp 2 x 0 then rnG call 147 F 5 ls [] L else rnG call 147 F 2 ls [] L := rfl
set_option maxRecDepth 100000 in
theorem bt6_147_3 (call : QC FA) (x1 : Int32) (x2 : Int32) (x3 : Int32) (x4 : Int32) (L : QH FA) (F : Nat) : rnG call 147 (F + 2) 2 [some (vR 1), some (vI x1), some (vI x2), some (vI x3), some (vI x4)] [] L = rnG call 147 F 4 [some (vR 1), some (vI x1), some (vI x2), some (vI x3), some (vI x4)] [vI 9, vI x1] L := rfl
set_option maxRecDepth 100000 in
theorem bt6_147_4 (call : QC FA) (x y : Int32) (ls : List (Option PV)) (L : QH FA) (F : Nat) : rnG call 147 (F + 1) 4 ls [vI y, vI x] L = bif pcmp 2 x y then rnG call 147 F 7 ls [] L else rnG call 147 F 5 ls [] L := rfl
set_option maxRecDepth 100000 in
theorem bt6_147_5 (call : QC FA) (x1 : Int32) (x2 : Int32) (x3 : Int32) (x4 : Int32) (L : QH FA) (F : Nat) : rnG call 147 (F + 1) 7 [some (vR 1), some (vI x1), some (vI x2), some (vI x3), some (vI x4)] [] L = rnG call 147 F 8 [some (vR 1), some (vI x1), some (vI x2), some (vI x3), some (vI x4)] [vI x2] L := rfl
set_option maxRecDepth 100000 in
theorem bt6_147_6 (call : QC FA) (x : Int32) (ls : List (Option PV)) (L : QH FA) (F : Nat) : rnG call 147 (F + 1) 8 ls [vI x] L = bif pcmp 0 x 0 then rnG call 147 F 17 ls [] L else rnG call 147 F 9 ls [] L := rfl
set_option maxRecDepth 100000 in
theorem bt6_147_7 (call : QC FA) (x1 : Int32) (x2 : Int32) (x3 : Int32) (x4 : Int32) (L : QH FA) (F : Nat) : rnG call 147 (F + 1) 17 [some (vR 1), some (vI x1), some (vI x2), some (vI x3), some (vI x4)] [] L = rnG call 147 F 18 [some (vR 1), some (vI x1), some (vI x2), some (vI x3), some (vI x4)] [vI x3] L := rfl
set_option maxRecDepth 100000 in
theorem bt6_147_8 (call : QC FA) (x : Int32) (ls : List (Option PV)) (L : QH FA) (F : Nat) : rnG call 147 (F + 1) 18 ls [vI x] L = bif pcmp 0 x 0 then rnG call 147 F 26 ls [] L else rnG call 147 F 19 ls [] L := rfl
set_option maxRecDepth 100000 in
theorem bt6_147_9 (call : QC FA) (x1 : Int32) (x2 : Int32) (x3 : Int32) (x4 : Int32) (L : QH FA) (F : Nat) : rnG call 147 (F + 1) 26 [some (vR 1), some (vI x1), some (vI x2), some (vI x3), some (vI x4)] [] L = rnG call 147 F 27 [some (vR 1), some (vI x1), some (vI x2), some (vI x3), some (vI x4)] [vI ((-1))] L := rfl
set_option maxRecDepth 100000 in
theorem bt6_147_10 (call : QC FA) (x : Int32) (ls : List (Option PV)) (L : QH FA) (F : Nat) : rnG call 147 (F + 1) 27 ls [vI x] L = some (some (vI x), L) := rfl
set_option maxRecDepth 100000 in
theorem bt6_147_11 (call : QC FA) (x1 : Int32) (x2 : Int32) (x3 : Int32) (x4 : Int32) (z : Nat → Int32) (f : Nat → FA) (F : Nat) : rnG call 147 (F + 3) 19 [some (vR 1), some (vI x1), some (vI x2), some (vI x3), some (vI x4)] [] (LT u z f) = rnG call 147 F 22 [some (vR 1), some (vI x1), some (vI x2), some (vI x3), some (vI x4)] [vI x1, vR 2] (LT u z f) := rfl
set_option maxRecDepth 100000 in
theorem bt6_147_12 (call : QC FA) (x : Int32) (ls : List (Option PV)) (z : Nat → Int32) (f : Nat → FA) (F : Nat) : rnG call 147 (F + 1) 22 ls [vI x, vR 2] (LT u z f) = bif ((Nat.beq 3 1 || (Nat.beq 3 2 || Nat.beq 3 3)) && pin x 9) then rnG call 147 F 23 ls [.inr (.inl (wT u (ix x)))] (LT u z f) else none := rfl
set_option maxRecDepth 100000 in
theorem bt6_147_13 (call : QC FA) (x1 : Int32) (x2 : Int32) (x3 : Int32) (x4 : Int32) (L : QH FA) (F : Nat) : rnG call 147 (F + 1) 23 [some (vR 1), some (vI x1), some (vI x2), some (vI x3), some (vI x4)] [vR 15] L = rnG call 147 F 24 [some (vR 1), some (vI x1), some (vI x2), some (vI x3), some (vI x4)] [vI x4, vR 15] L := rfl
set_option maxRecDepth 100000 in
theorem bt6_147_14 (call : QC FA) (a0 : Int32) (ls : List (Option PV)) (z : Nat → Int32) (f : Nat → FA) (F : Nat) : rnG call 147 (F + 1) 24 ls [vI a0, vR 15] (LT u z f) = cbd (call 142 [vR 15, vI a0] (LT u z f)) (fun r L' => rnG call 147 F 25 ls (r.toList ++ []) L') := pcY (ih := rnG call 147 F) (call := call) (a := 142) (b := 1) (v := 9) (t := 25) (x := 15) (ls := ls) (As := [vI a0]) (st' := []) (L := LT u z f) rfl rfl rfl
set_option maxRecDepth 100000 in
theorem bt6_147_15 (call : QC FA) (x1 : Int32) (x2 : Int32) (x3 : Int32) (x4 : Int32) (s0 : Int32) (L : QH FA) (F : Nat) : rnG call 147 (F + 1) 25 [some (vR 1), some (vI x1), some (vI x2), some (vI x3), some (vI x4)] [vI s0] L = rnG call 147 F 27 [some (vR 1), some (vI x1), some (vI x2), some (vI x3), some (vI x4)] [vI s0] L := rfl
set_option maxRecDepth 100000 in
theorem bt6_147_16 (call : QC FA) (x1 : Int32) (x2 : Int32) (x3 : Int32) (x4 : Int32) (z : Nat → Int32) (f : Nat → FA) (F : Nat) : rnG call 147 (F + 3) 9 [some (vR 1), some (vI x1), some (vI x2), some (vI x3), some (vI x4)] [] (LT u z f) = rnG call 147 F 12 [some (vR 1), some (vI x1), some (vI x2), some (vI x3), some (vI x4)] [vI x1, vR 2] (LT u z f) := rfl
set_option maxRecDepth 100000 in
theorem bt6_147_17 (call : QC FA) (x : Int32) (ls : List (Option PV)) (z : Nat → Int32) (f : Nat → FA) (F : Nat) : rnG call 147 (F + 1) 12 ls [vI x, vR 2] (LT u z f) = bif ((Nat.beq 3 1 || (Nat.beq 3 2 || Nat.beq 3 3)) && pin x 9) then rnG call 147 F 13 ls [.inr (.inl (wT u (ix x)))] (LT u z f) else none := rfl
set_option maxRecDepth 100000 in
theorem bt6_147_18 (call : QC FA) (x1 : Int32) (x2 : Int32) (x3 : Int32) (x4 : Int32) (L : QH FA) (F : Nat) : rnG call 147 (F + 1) 13 [some (vR 1), some (vI x1), some (vI x2), some (vI x3), some (vI x4)] [vR 15] L = rnG call 147 F 14 [some (vR 1), some (vI x1), some (vI x2), some (vI x3), some (vI x4)] [vI 0, vR 15] L := rfl
set_option maxRecDepth 100000 in
theorem bt6_147_19 (call : QC FA) (y : Int32) (ls : List (Option PV)) (z : Nat → Int32) (f : Nat → FA) (F : Nat) : rnG call 147 (F + 1) 14 ls [vI y, vR 15] (LT u z f) = rnG call 147 F 15 ls [] (LT u (uZ z 15 y) f) := rfl
set_option maxRecDepth 100000 in
theorem bt6_147_20 (call : QC FA) (x1 : Int32) (x2 : Int32) (x3 : Int32) (x4 : Int32) (L : QH FA) (F : Nat) : rnG call 147 (F + 1) 15 [some (vR 1), some (vI x1), some (vI x2), some (vI x3), some (vI x4)] [] L = rnG call 147 F 16 [some (vR 1), some (vI x1), some (vI x2), some (vI x3), some (vI x4)] [vI 0] L := rfl
set_option maxRecDepth 100000 in
theorem bt6_147_21 (call : QC FA) (x : Int32) (ls : List (Option PV)) (L : QH FA) (F : Nat) : rnG call 147 (F + 1) 16 ls [vI x] L = some (some (vI x), L) := rfl
theorem vct6_147_0 (call : QC FA) (x2 : Int32) (x3 : Int32) (x4 : Int32) (z : Nat → Int32) (f : Nat → FA) (res : Option PV × QH FA) (H : ((x2 = 0 → ((x3 = 0 → res = (some (vI ((-1))), LT u z f)) ∧ (¬ x3 = 0 → (∃ (r1 : Int32) (z1 : Nat → Int32) (f1 : Nat → FA), call 142 [vR 15, vI x4] (LT u z f) = some (some (vI r1), LT u z1 f1) ∧ res = (some (vI r1), LT u z1 f1))))) ∧ (¬ x2 = 0 → res = (some (vI 0), LT u (uZ z 15 0) f)))) : RC call (mP 147) 0 [some (vR 1), some (vI 6), some (vI x2), some (vI x3), some (vI x4)] [] (LT u z f) res := by
  refine rc_b (i' := 1) (ls' := [some (vR 1), some (vI 6), some (vI x2), some (vI x3), some (vI x4)]) (st' := [vI 6]) (L' := LT u z f) 1 (bt6_147_1 call 6 x2 x3 x4 _) ?_
  refine rc_f (it := 5) (ie := 2) (ls' := [some (vR 1), some (vI 6), some (vI x2), some (vI x3), some (vI x4)]) (st' := []) (bt6_147_2 call 6 _ _) (by decide) ?_
  refine rc_b (i' := 4) (ls' := [some (vR 1), some (vI 6), some (vI x2), some (vI x3), some (vI x4)]) (st' := [vI 9, vI 6]) (L' := LT u z f) 2 (bt6_147_3 call 6 x2 x3 x4 _) ?_
  refine rc_t (it := 7) (ie := 5) (ls' := [some (vR 1), some (vI 6), some (vI x2), some (vI x3), some (vI x4)]) (st' := []) (bt6_147_4 call 6 9 _ _) (by decide) ?_
  refine rc_b (i' := 8) (ls' := [some (vR 1), some (vI 6), some (vI x2), some (vI x3), some (vI x4)]) (st' := [vI x2]) (L' := LT u z f) 1 (bt6_147_5 call 6 x2 x3 x4 _) ?_
  refine rc_if (it := 17) (ie := 9) (ls' := [some (vR 1), some (vI 6), some (vI x2), some (vI x3), some (vI x4)]) (st' := []) (bt6_147_6 call x2 _ _) (fun q1 => ?_) (fun q1 => ?_)
  · have H := H.1 (cI0t q1)
    refine rc_b (i' := 18) (ls' := [some (vR 1), some (vI 6), some (vI x2), some (vI x3), some (vI x4)]) (st' := [vI x3]) (L' := LT u z f) 1 (bt6_147_7 call 6 x2 x3 x4 _) ?_
    refine rc_if (it := 26) (ie := 19) (ls' := [some (vR 1), some (vI 6), some (vI x2), some (vI x3), some (vI x4)]) (st' := []) (bt6_147_8 call x3 _ _) (fun q2 => ?_) (fun q2 => ?_)
    · have H := H.1 (cI0t q2)
      refine rc_b (i' := 27) (ls' := [some (vR 1), some (vI 6), some (vI x2), some (vI x3), some (vI x4)]) (st' := [vI ((-1))]) (L' := LT u z f) 1 (bt6_147_9 call 6 x2 x3 x4 _) ?_
      subst H
      exact rc_ret (bt6_147_10 call _ _ _)
    · have H := H.2 (cI0f q2)
      refine rc_b (i' := 22) (ls' := [some (vR 1), some (vI 6), some (vI x2), some (vI x3), some (vI x4)]) (st' := [vI 6, vR 2]) (L' := LT u z f) 3 (bt6_147_11 call 6 x2 x3 x4 z f) ?_
      refine rc_g (i' := 23) (ls' := [some (vR 1), some (vI 6), some (vI x2), some (vI x3), some (vI x4)]) (st' := [.inr (.inl (wT u (ix 6)))]) (L' := LT u z f) (bt6_147_12 call 6 _ z f) (by decide) ?_
      show RC call (mP 147) 23 [some (vR 1), some (vI 6), some (vI x2), some (vI x3), some (vI x4)] [vR 15] (LT u z f) res
      refine rc_b (i' := 24) (ls' := [some (vR 1), some (vI 6), some (vI x2), some (vI x3), some (vI x4)]) (st' := [vI x4, vR 15]) (L' := LT u z f) 1 (bt6_147_13 call 6 x2 x3 x4 _) ?_
      obtain ⟨r1, z1, f1, hc, H⟩ := H
      refine rc_call (t := 25) (ls' := [some (vR 1), some (vI 6), some (vI x2), some (vI x3), some (vI x4)]) (st' := []) (bt6_147_14 call x4 _ z f) hc ?_
      show RC call (mP 147) 25 [some (vR 1), some (vI 6), some (vI x2), some (vI x3), some (vI x4)] [vI r1] (LT u z1 f1) res
      refine rc_b (i' := 27) (ls' := [some (vR 1), some (vI 6), some (vI x2), some (vI x3), some (vI x4)]) (st' := [vI r1]) (L' := LT u z1 f1) 1 (bt6_147_15 call 6 x2 x3 x4 r1 _) ?_
      subst H
      exact rc_ret (bt6_147_10 call _ _ _)
  · have H := H.2 (cI0f q1)
    refine rc_b (i' := 12) (ls' := [some (vR 1), some (vI 6), some (vI x2), some (vI x3), some (vI x4)]) (st' := [vI 6, vR 2]) (L' := LT u z f) 3 (bt6_147_16 call 6 x2 x3 x4 z f) ?_
    refine rc_g (i' := 13) (ls' := [some (vR 1), some (vI 6), some (vI x2), some (vI x3), some (vI x4)]) (st' := [.inr (.inl (wT u (ix 6)))]) (L' := LT u z f) (bt6_147_17 call 6 _ z f) (by decide) ?_
    show RC call (mP 147) 13 [some (vR 1), some (vI 6), some (vI x2), some (vI x3), some (vI x4)] [vR 15] (LT u z f) res
    refine rc_b (i' := 14) (ls' := [some (vR 1), some (vI 6), some (vI x2), some (vI x3), some (vI x4)]) (st' := [vI 0, vR 15]) (L' := LT u z f) 1 (bt6_147_18 call 6 x2 x3 x4 _) ?_
    refine rc_b (i' := 15) (ls' := [some (vR 1), some (vI 6), some (vI x2), some (vI x3), some (vI x4)]) (st' := []) (L' := LT u (uZ z 15 0) f) 1 (bt6_147_19 call 0 _ z f) ?_
    refine rc_b (i' := 16) (ls' := [some (vR 1), some (vI 6), some (vI x2), some (vI x3), some (vI x4)]) (st' := [vI 0]) (L' := LT u (uZ z 15 0) f) 1 (bt6_147_20 call 6 x2 x3 x4 _) ?_
    subst H
    exact rc_ret (bt6_147_21 call _ _ _)
theorem c_ad6_p (d : Nat) (v : Int32) {z : Nat → Int32} {f : Nat → FA} {n : Nat} (hz : z 15 = nI n) (hn : n < 12) : mcall (d + 1) 142 [vR 15, vI v] (LT u z f) = some (some (vI (nI (n + 1))), LT u (uZ z 15 (nI (n + 1))) (uA f 16 (upd (f 16) n v))) := by
  have go : ∀ res, _ → mcall (d + 1) 142 [vR 15, vI v] (LT u z f) = some res := fun res H => mcall_i (mq142 (cu := [])).2.2 rfl (vct6_142_0 (mcall d) v z f res H)
  rw [hz, I_nI (n := n) (by omega), I_nI (n := 12) (by omega), show nI n + 1 = nI (n + 1) from nI_add n 1, ix_nI (j := n) (by omega)] at go
  exact go _ ⟨fun q => by omega, fun _ => ⟨fun _ => ⟨pin_nI (by omega) (by omega), rfl⟩, fun q => by omega⟩⟩
theorem c_ad6_f (d : Nat) (v : Int32) {z : Nat → Int32} {f : Nat → FA} (hz : z 15 = nI 12) : mcall (d + 1) 142 [vR 15, vI v] (LT u z f) = some (some (vI (-1)), LT u z f) := by
  have go : ∀ res, _ → mcall (d + 1) 142 [vR 15, vI v] (LT u z f) = some res := fun res H => mcall_i (mq142 (cu := [])).2.2 rfl (vct6_142_0 (mcall d) v z f res H)
  rw [hz, I_nI (n := 12) (by omega)] at go
  exact go _ ⟨fun q => by omega, fun _ => ⟨fun q => by omega, fun _ => rfl⟩⟩
theorem c_tl6_e (d : Nat) (x3 v : Int32) {z : Nat → Int32} {f : Nat → FA} : mcall (d + 2) 147 [vR 1, vI 6, vI 1, vI x3, vI v] (LT u z f) = some (some (vI 0), LT u (uZ z 15 0) f) := mcall_i (mq147 (cu := [])).2.2 rfl (vct6_147_0 (mcall (d + 1)) 1 x3 v z f _ ⟨fun q => absurd q (by decide), fun _ => rfl⟩)
theorem c_tl6_r (d : Nat) (v : Int32) {z : Nat → Int32} {f : Nat → FA} : mcall (d + 2) 147 [vR 1, vI 6, vI 0, vI 0, vI v] (LT u z f) = some (some (vI (-1)), LT u z f) := mcall_i (mq147 (cu := [])).2.2 rfl (vct6_147_0 (mcall (d + 1)) 0 0 v z f _ ⟨fun _ => ⟨fun _ => rfl, fun q => absurd rfl q⟩, fun q => absurd rfl q⟩)
theorem c_tl6_p (d : Nat) (v : Int32) {z : Nat → Int32} {f : Nat → FA} {n : Nat} (hz : z 15 = nI n) (hn : n < 12) : mcall (d + 2) 147 [vR 1, vI 6, vI 0, vI 1, vI v] (LT u z f) = some (some (vI (nI (n + 1))), LT u (uZ z 15 (nI (n + 1))) (uA f 16 (upd (f 16) n v))) := mcall_i (mq147 (cu := [])).2.2 rfl (vct6_147_0 (mcall (d + 1)) 0 1 v z f _ ⟨fun _ => ⟨fun q => absurd q (by decide), fun _ => ⟨_, _, _, c_ad6_p d v hz hn, rfl⟩⟩, fun q => absurd rfl q⟩)
theorem c_tl6_f (d : Nat) (v : Int32) {z : Nat → Int32} {f : Nat → FA} (hz : z 15 = nI 12) : mcall (d + 2) 147 [vR 1, vI 6, vI 0, vI 1, vI v] (LT u z f) = some (some (vI (-1)), LT u z f) := mcall_i (mq147 (cu := [])).2.2 rfl (vct6_147_0 (mcall (d + 1)) 0 1 v z f _ ⟨fun _ => ⟨fun q => absurd q (by decide), fun _ => ⟨_, _, _, c_ad6_f d v hz, rfl⟩⟩, fun q => absurd rfl q⟩)
set_option maxRecDepth 100000 in
theorem bt7_142_1 (call : QC FA) (x1 : Int32) (z : Nat → Int32) (f : Nat → FA) (F : Nat) : rnG call 142 (F + 2) 0 [some (vR 17), some (vI x1)] [] (LT u z f) = rnG call 142 F 2 [some (vR 17), some (vI x1)] [vI (z 17)] (LT u z f) := rfl
set_option maxRecDepth 100000 in
theorem bt7_142_2 (call : QC FA) (x : Int32) (ls : List (Option PV)) (L : QH FA) (F : Nat) : rnG call 142 (F + 1) 2 ls [vI x] L = bif pcmp 2 x 0 then rnG call 142 F 9 ls [] L else rnG call 142 F 3 ls [] L := rfl
set_option maxRecDepth 100000 in
theorem bt7_142_3 (call : QC FA) (x1 : Int32) (L : QH FA) (F : Nat) : rnG call 142 (F + 1) 9 [some (vR 17), some (vI x1)] [] L = rnG call 142 F 10 [some (vR 17), some (vI x1)] [vI ((-1))] L := rfl
set_option maxRecDepth 100000 in
theorem bt7_142_4 (call : QC FA) (x : Int32) (ls : List (Option PV)) (L : QH FA) (F : Nat) : rnG call 142 (F + 1) 10 ls [vI x] L = some (some (vI x), L) := rfl
set_option maxRecDepth 100000 in
theorem bt7_142_5 (call : QC FA) (x1 : Int32) (z : Nat → Int32) (f : Nat → FA) (F : Nat) : rnG call 142 (F + 5) 3 [some (vR 17), some (vI x1)] [] (LT u z f) = rnG call 142 F 8 [some (vR 17), some (vI x1)] [vI (nI 12), vI (z 17)] (LT u z f) := rfl
set_option maxRecDepth 100000 in
theorem bt7_142_6 (call : QC FA) (x y : Int32) (ls : List (Option PV)) (L : QH FA) (F : Nat) : rnG call 142 (F + 1) 8 ls [vI y, vI x] L = bif pcmp 2 x y then rnG call 142 F 11 ls [] L else rnG call 142 F 9 ls [] L := rfl
set_option maxRecDepth 100000 in
theorem bt7_142_7 (call : QC FA) (x1 : Int32) (z : Nat → Int32) (f : Nat → FA) (F : Nat) : rnG call 142 (F + 5) 11 [some (vR 17), some (vI x1)] [] (LT u z f) = rnG call 142 F 16 [some (vR 17), some (vI x1)] [vI x1, vI (z 17), vR 18] (LT u z f) := rfl
set_option maxRecDepth 100000 in
theorem bt7_142_8 (call : QC FA) (x y : Int32) (ls : List (Option PV)) (z : Nat → Int32) (f : Nat → FA) (F : Nat) : rnG call 142 (F + 1) 16 ls [vI y, vI x, vR 18] (LT u z f) = bif (Nat.beq 0 0 && pin x 12) then rnG call 142 F 17 ls [] (LT u z (uA f 18 (upd (f 18) (ix x) y))) else none := rfl
set_option maxRecDepth 100000 in
theorem bt7_142_9 (call : QC FA) (x1 : Int32) (z : Nat → Int32) (f : Nat → FA) (F : Nat) : rnG call 142 (F + 5) 17 [some (vR 17), some (vI x1)] [] (LT u z f) = rnG call 142 F 22 [some (vR 17), some (vI x1)] [vI ((z 17) + 1), vR 17] (LT u z f) := rfl
set_option maxRecDepth 100000 in
theorem bt7_142_10 (call : QC FA) (y : Int32) (ls : List (Option PV)) (z : Nat → Int32) (f : Nat → FA) (F : Nat) : rnG call 142 (F + 1) 22 ls [vI y, vR 17] (LT u z f) = rnG call 142 F 23 ls [] (LT u (uZ z 17 y) f) := rfl
set_option maxRecDepth 100000 in
theorem bt7_142_11 (call : QC FA) (x1 : Int32) (z : Nat → Int32) (f : Nat → FA) (F : Nat) : rnG call 142 (F + 2) 23 [some (vR 17), some (vI x1)] [] (LT u z f) = rnG call 142 F 25 [some (vR 17), some (vI x1)] [vI (z 17)] (LT u z f) := rfl
set_option maxRecDepth 100000 in
theorem bt7_142_12 (call : QC FA) (x : Int32) (ls : List (Option PV)) (L : QH FA) (F : Nat) : rnG call 142 (F + 1) 25 ls [vI x] L = some (some (vI x), L) := rfl
theorem vct7_142_0 (call : QC FA) (x1 : Int32) (z : Nat → Int32) (f : Nat → FA) (res : Option PV × QH FA) (H : ((I (z 17) < 0 → res = (some (vI ((-1))), LT u z f)) ∧ (0 ≤ I (z 17) → ((I (z 17) < I (nI 12) → (pin (z 17) 12 = true ∧ res = (some (vI ((z 17) + 1)), LT u (uZ z 17 ((z 17) + 1)) (uA f 18 (upd (f 18) (ix (z 17)) x1))))) ∧ (I (nI 12) ≤ I (z 17) → res = (some (vI ((-1))), LT u z f)))))) : RC call (mP 142) 0 [some (vR 17), some (vI x1)] [] (LT u z f) res := by
  refine rc_b (i' := 2) (ls' := [some (vR 17), some (vI x1)]) (st' := [vI (z 17)]) (L' := LT u z f) 2 (bt7_142_1 call x1 z f) ?_
  refine rc_if (it := 9) (ie := 3) (ls' := [some (vR 17), some (vI x1)]) (st' := []) (bt7_142_2 call (z 17) _ _) (fun q1 => ?_) (fun q1 => ?_)
  · have H := H.1 (cI2t q1 rfl rfl)
    refine rc_b (i' := 10) (ls' := [some (vR 17), some (vI x1)]) (st' := [vI ((-1))]) (L' := LT u z f) 1 (bt7_142_3 call x1 _) ?_
    subst H
    exact rc_ret (bt7_142_4 call _ _ _)
  · have H := H.2 (cI2f q1 rfl rfl)
    refine rc_b (i' := 8) (ls' := [some (vR 17), some (vI x1)]) (st' := [vI (nI 12), vI (z 17)]) (L' := LT u z f) 5 (bt7_142_5 call x1 z f) ?_
    refine rc_if (it := 11) (ie := 9) (ls' := [some (vR 17), some (vI x1)]) (st' := []) (bt7_142_6 call (z 17) (nI 12) _ _) (fun q2 => ?_) (fun q2 => ?_)
    · have H := H.1 (cI2t q2 rfl rfl)
      refine rc_b (i' := 16) (ls' := [some (vR 17), some (vI x1)]) (st' := [vI x1, vI (z 17), vR 18]) (L' := LT u z f) 5 (bt7_142_7 call x1 z f) ?_
      obtain ⟨g1, H⟩ := H
      refine rc_g (i' := 17) (ls' := [some (vR 17), some (vI x1)]) (st' := []) (L' := LT u z (uA f 18 (upd (f 18) (ix (z 17)) x1))) (bt7_142_8 call (z 17) x1 _ z f) (pinG g1) ?_
      refine rc_b (i' := 22) (ls' := [some (vR 17), some (vI x1)]) (st' := [vI ((z 17) + 1), vR 17]) (L' := LT u z (uA f 18 (upd (f 18) (ix (z 17)) x1))) 5 (bt7_142_9 call x1 z (uA f 18 (upd (f 18) (ix (z 17)) x1))) ?_
      refine rc_b (i' := 23) (ls' := [some (vR 17), some (vI x1)]) (st' := []) (L' := LT u (uZ z 17 ((z 17) + 1)) (uA f 18 (upd (f 18) (ix (z 17)) x1))) 1 (bt7_142_10 call ((z 17) + 1) _ z (uA f 18 (upd (f 18) (ix (z 17)) x1))) ?_
      refine rc_b (i' := 25) (ls' := [some (vR 17), some (vI x1)]) (st' := [vI ((z 17) + 1)]) (L' := LT u (uZ z 17 ((z 17) + 1)) (uA f 18 (upd (f 18) (ix (z 17)) x1))) 2 (bt7_142_11 call x1 (uZ z 17 ((z 17) + 1)) (uA f 18 (upd (f 18) (ix (z 17)) x1))) ?_
      subst H
      exact rc_ret (bt7_142_12 call _ _ _)
    · have H := H.2 (cI2f q2 rfl rfl)
      refine rc_b (i' := 10) (ls' := [some (vR 17), some (vI x1)]) (st' := [vI ((-1))]) (L' := LT u z f) 1 (bt7_142_3 call x1 _) ?_
      subst H
      exact rc_ret (bt7_142_4 call _ _ _)
set_option maxRecDepth 100000 in
theorem bt7_147_1 (call : QC FA) (x1 : Int32) (x2 : Int32) (x3 : Int32) (x4 : Int32) (L : QH FA) (F : Nat) : rnG call 147 (F + 1) 0 [some (vR 1), some (vI x1), some (vI x2), some (vI x3), some (vI x4)] [] L = rnG call 147 F 1 [some (vR 1), some (vI x1), some (vI x2), some (vI x3), some (vI x4)] [vI x1] L := rfl
set_option maxRecDepth 100000 in
theorem bt7_147_2 (call : QC FA) (x : Int32) (ls : List (Option PV)) (L : QH FA) (F : Nat) : rnG call 147 (F + 1) 1 ls [vI x] L = bif pcmp 2 x 0 then rnG call 147 F 5 ls [] L else rnG call 147 F 2 ls [] L := rfl
set_option maxRecDepth 100000 in
theorem bt7_147_3 (call : QC FA) (x1 : Int32) (x2 : Int32) (x3 : Int32) (x4 : Int32) (L : QH FA) (F : Nat) : rnG call 147 (F + 2) 2 [some (vR 1), some (vI x1), some (vI x2), some (vI x3), some (vI x4)] [] L = rnG call 147 F 4 [some (vR 1), some (vI x1), some (vI x2), some (vI x3), some (vI x4)] [vI 9, vI x1] L := rfl
set_option maxRecDepth 100000 in
theorem bt7_147_4 (call : QC FA) (x y : Int32) (ls : List (Option PV)) (L : QH FA) (F : Nat) : rnG call 147 (F + 1) 4 ls [vI y, vI x] L = bif pcmp 2 x y then rnG call 147 F 7 ls [] L else rnG call 147 F 5 ls [] L := rfl
set_option maxRecDepth 100000 in
theorem bt7_147_5 (call : QC FA) (x1 : Int32) (x2 : Int32) (x3 : Int32) (x4 : Int32) (L : QH FA) (F : Nat) : rnG call 147 (F + 1) 7 [some (vR 1), some (vI x1), some (vI x2), some (vI x3), some (vI x4)] [] L = rnG call 147 F 8 [some (vR 1), some (vI x1), some (vI x2), some (vI x3), some (vI x4)] [vI x2] L := rfl
set_option maxRecDepth 100000 in
theorem bt7_147_6 (call : QC FA) (x : Int32) (ls : List (Option PV)) (L : QH FA) (F : Nat) : rnG call 147 (F + 1) 8 ls [vI x] L = bif pcmp 0 x 0 then rnG call 147 F 17 ls [] L else rnG call 147 F 9 ls [] L := rfl
set_option maxRecDepth 100000 in
theorem bt7_147_7 (call : QC FA) (x1 : Int32) (x2 : Int32) (x3 : Int32) (x4 : Int32) (L : QH FA) (F : Nat) : rnG call 147 (F + 1) 17 [some (vR 1), some (vI x1), some (vI x2), some (vI x3), some (vI x4)] [] L = rnG call 147 F 18 [some (vR 1), some (vI x1), some (vI x2), some (vI x3), some (vI x4)] [vI x3] L := rfl
set_option maxRecDepth 100000 in
theorem bt7_147_8 (call : QC FA) (x : Int32) (ls : List (Option PV)) (L : QH FA) (F : Nat) : rnG call 147 (F + 1) 18 ls [vI x] L = bif pcmp 0 x 0 then rnG call 147 F 26 ls [] L else rnG call 147 F 19 ls [] L := rfl
set_option maxRecDepth 100000 in
theorem bt7_147_9 (call : QC FA) (x1 : Int32) (x2 : Int32) (x3 : Int32) (x4 : Int32) (L : QH FA) (F : Nat) : rnG call 147 (F + 1) 26 [some (vR 1), some (vI x1), some (vI x2), some (vI x3), some (vI x4)] [] L = rnG call 147 F 27 [some (vR 1), some (vI x1), some (vI x2), some (vI x3), some (vI x4)] [vI ((-1))] L := rfl
set_option maxRecDepth 100000 in
theorem bt7_147_10 (call : QC FA) (x : Int32) (ls : List (Option PV)) (L : QH FA) (F : Nat) : rnG call 147 (F + 1) 27 ls [vI x] L = some (some (vI x), L) := rfl
set_option maxRecDepth 100000 in
theorem bt7_147_11 (call : QC FA) (x1 : Int32) (x2 : Int32) (x3 : Int32) (x4 : Int32) (z : Nat → Int32) (f : Nat → FA) (F : Nat) : rnG call 147 (F + 3) 19 [some (vR 1), some (vI x1), some (vI x2), some (vI x3), some (vI x4)] [] (LT u z f) = rnG call 147 F 22 [some (vR 1), some (vI x1), some (vI x2), some (vI x3), some (vI x4)] [vI x1, vR 2] (LT u z f) := rfl
set_option maxRecDepth 100000 in
theorem bt7_147_12 (call : QC FA) (x : Int32) (ls : List (Option PV)) (z : Nat → Int32) (f : Nat → FA) (F : Nat) : rnG call 147 (F + 1) 22 ls [vI x, vR 2] (LT u z f) = bif ((Nat.beq 3 1 || (Nat.beq 3 2 || Nat.beq 3 3)) && pin x 9) then rnG call 147 F 23 ls [.inr (.inl (wT u (ix x)))] (LT u z f) else none := rfl
set_option maxRecDepth 100000 in
theorem bt7_147_13 (call : QC FA) (x1 : Int32) (x2 : Int32) (x3 : Int32) (x4 : Int32) (L : QH FA) (F : Nat) : rnG call 147 (F + 1) 23 [some (vR 1), some (vI x1), some (vI x2), some (vI x3), some (vI x4)] [vR 17] L = rnG call 147 F 24 [some (vR 1), some (vI x1), some (vI x2), some (vI x3), some (vI x4)] [vI x4, vR 17] L := rfl
set_option maxRecDepth 100000 in
theorem bt7_147_14 (call : QC FA) (a0 : Int32) (ls : List (Option PV)) (z : Nat → Int32) (f : Nat → FA) (F : Nat) : rnG call 147 (F + 1) 24 ls [vI a0, vR 17] (LT u z f) = cbd (call 142 [vR 17, vI a0] (LT u z f)) (fun r L' => rnG call 147 F 25 ls (r.toList ++ []) L') := pcY (ih := rnG call 147 F) (call := call) (a := 142) (b := 1) (v := 9) (t := 25) (x := 17) (ls := ls) (As := [vI a0]) (st' := []) (L := LT u z f) rfl rfl rfl
set_option maxRecDepth 100000 in
theorem bt7_147_15 (call : QC FA) (x1 : Int32) (x2 : Int32) (x3 : Int32) (x4 : Int32) (s0 : Int32) (L : QH FA) (F : Nat) : rnG call 147 (F + 1) 25 [some (vR 1), some (vI x1), some (vI x2), some (vI x3), some (vI x4)] [vI s0] L = rnG call 147 F 27 [some (vR 1), some (vI x1), some (vI x2), some (vI x3), some (vI x4)] [vI s0] L := rfl
set_option maxRecDepth 100000 in
theorem bt7_147_16 (call : QC FA) (x1 : Int32) (x2 : Int32) (x3 : Int32) (x4 : Int32) (z : Nat → Int32) (f : Nat → FA) (F : Nat) : rnG call 147 (F + 3) 9 [some (vR 1), some (vI x1), some (vI x2), some (vI x3), some (vI x4)] [] (LT u z f) = rnG call 147 F 12 [some (vR 1), some (vI x1), some (vI x2), some (vI x3), some (vI x4)] [vI x1, vR 2] (LT u z f) := rfl
set_option maxRecDepth 100000 in
theorem bt7_147_17 (call : QC FA) (x : Int32) (ls : List (Option PV)) (z : Nat → Int32) (f : Nat → FA) (F : Nat) : rnG call 147 (F + 1) 12 ls [vI x, vR 2] (LT u z f) = bif ((Nat.beq 3 1 || (Nat.beq 3 2 || Nat.beq 3 3)) && pin x 9) then rnG call 147 F 13 ls [.inr (.inl (wT u (ix x)))] (LT u z f) else none := rfl
set_option maxRecDepth 100000 in
theorem bt7_147_18 (call : QC FA) (x1 : Int32) (x2 : Int32) (x3 : Int32) (x4 : Int32) (L : QH FA) (F : Nat) : rnG call 147 (F + 1) 13 [some (vR 1), some (vI x1), some (vI x2), some (vI x3), some (vI x4)] [vR 17] L = rnG call 147 F 14 [some (vR 1), some (vI x1), some (vI x2), some (vI x3), some (vI x4)] [vI 0, vR 17] L := rfl
set_option maxRecDepth 100000 in
theorem bt7_147_19 (call : QC FA) (y : Int32) (ls : List (Option PV)) (z : Nat → Int32) (f : Nat → FA) (F : Nat) : rnG call 147 (F + 1) 14 ls [vI y, vR 17] (LT u z f) = rnG call 147 F 15 ls [] (LT u (uZ z 17 y) f) := rfl
set_option maxRecDepth 100000 in
theorem bt7_147_20 (call : QC FA) (x1 : Int32) (x2 : Int32) (x3 : Int32) (x4 : Int32) (L : QH FA) (F : Nat) : rnG call 147 (F + 1) 15 [some (vR 1), some (vI x1), some (vI x2), some (vI x3), some (vI x4)] [] L = rnG call 147 F 16 [some (vR 1), some (vI x1), some (vI x2), some (vI x3), some (vI x4)] [vI 0] L := rfl
set_option maxRecDepth 100000 in
theorem bt7_147_21 (call : QC FA) (x : Int32) (ls : List (Option PV)) (L : QH FA) (F : Nat) : rnG call 147 (F + 1) 16 ls [vI x] L = some (some (vI x), L) := rfl
theorem vct7_147_0 (call : QC FA) (x2 : Int32) (x3 : Int32) (x4 : Int32) (z : Nat → Int32) (f : Nat → FA) (res : Option PV × QH FA) (H : ((x2 = 0 → ((x3 = 0 → res = (some (vI ((-1))), LT u z f)) ∧ (¬ x3 = 0 → (∃ (r1 : Int32) (z1 : Nat → Int32) (f1 : Nat → FA), call 142 [vR 17, vI x4] (LT u z f) = some (some (vI r1), LT u z1 f1) ∧ res = (some (vI r1), LT u z1 f1))))) ∧ (¬ x2 = 0 → res = (some (vI 0), LT u (uZ z 17 0) f)))) : RC call (mP 147) 0 [some (vR 1), some (vI 7), some (vI x2), some (vI x3), some (vI x4)] [] (LT u z f) res := by
  refine rc_b (i' := 1) (ls' := [some (vR 1), some (vI 7), some (vI x2), some (vI x3), some (vI x4)]) (st' := [vI 7]) (L' := LT u z f) 1 (bt7_147_1 call 7 x2 x3 x4 _) ?_
  refine rc_f (it := 5) (ie := 2) (ls' := [some (vR 1), some (vI 7), some (vI x2), some (vI x3), some (vI x4)]) (st' := []) (bt7_147_2 call 7 _ _) (by decide) ?_
  refine rc_b (i' := 4) (ls' := [some (vR 1), some (vI 7), some (vI x2), some (vI x3), some (vI x4)]) (st' := [vI 9, vI 7]) (L' := LT u z f) 2 (bt7_147_3 call 7 x2 x3 x4 _) ?_
  refine rc_t (it := 7) (ie := 5) (ls' := [some (vR 1), some (vI 7), some (vI x2), some (vI x3), some (vI x4)]) (st' := []) (bt7_147_4 call 7 9 _ _) (by decide) ?_
  refine rc_b (i' := 8) (ls' := [some (vR 1), some (vI 7), some (vI x2), some (vI x3), some (vI x4)]) (st' := [vI x2]) (L' := LT u z f) 1 (bt7_147_5 call 7 x2 x3 x4 _) ?_
  refine rc_if (it := 17) (ie := 9) (ls' := [some (vR 1), some (vI 7), some (vI x2), some (vI x3), some (vI x4)]) (st' := []) (bt7_147_6 call x2 _ _) (fun q1 => ?_) (fun q1 => ?_)
  · have H := H.1 (cI0t q1)
    refine rc_b (i' := 18) (ls' := [some (vR 1), some (vI 7), some (vI x2), some (vI x3), some (vI x4)]) (st' := [vI x3]) (L' := LT u z f) 1 (bt7_147_7 call 7 x2 x3 x4 _) ?_
    refine rc_if (it := 26) (ie := 19) (ls' := [some (vR 1), some (vI 7), some (vI x2), some (vI x3), some (vI x4)]) (st' := []) (bt7_147_8 call x3 _ _) (fun q2 => ?_) (fun q2 => ?_)
    · have H := H.1 (cI0t q2)
      refine rc_b (i' := 27) (ls' := [some (vR 1), some (vI 7), some (vI x2), some (vI x3), some (vI x4)]) (st' := [vI ((-1))]) (L' := LT u z f) 1 (bt7_147_9 call 7 x2 x3 x4 _) ?_
      subst H
      exact rc_ret (bt7_147_10 call _ _ _)
    · have H := H.2 (cI0f q2)
      refine rc_b (i' := 22) (ls' := [some (vR 1), some (vI 7), some (vI x2), some (vI x3), some (vI x4)]) (st' := [vI 7, vR 2]) (L' := LT u z f) 3 (bt7_147_11 call 7 x2 x3 x4 z f) ?_
      refine rc_g (i' := 23) (ls' := [some (vR 1), some (vI 7), some (vI x2), some (vI x3), some (vI x4)]) (st' := [.inr (.inl (wT u (ix 7)))]) (L' := LT u z f) (bt7_147_12 call 7 _ z f) (by decide) ?_
      show RC call (mP 147) 23 [some (vR 1), some (vI 7), some (vI x2), some (vI x3), some (vI x4)] [vR 17] (LT u z f) res
      refine rc_b (i' := 24) (ls' := [some (vR 1), some (vI 7), some (vI x2), some (vI x3), some (vI x4)]) (st' := [vI x4, vR 17]) (L' := LT u z f) 1 (bt7_147_13 call 7 x2 x3 x4 _) ?_
      obtain ⟨r1, z1, f1, hc, H⟩ := H
      refine rc_call (t := 25) (ls' := [some (vR 1), some (vI 7), some (vI x2), some (vI x3), some (vI x4)]) (st' := []) (bt7_147_14 call x4 _ z f) hc ?_
      show RC call (mP 147) 25 [some (vR 1), some (vI 7), some (vI x2), some (vI x3), some (vI x4)] [vI r1] (LT u z1 f1) res
      refine rc_b (i' := 27) (ls' := [some (vR 1), some (vI 7), some (vI x2), some (vI x3), some (vI x4)]) (st' := [vI r1]) (L' := LT u z1 f1) 1 (bt7_147_15 call 7 x2 x3 x4 r1 _) ?_
      subst H
      exact rc_ret (bt7_147_10 call _ _ _)
  · have H := H.2 (cI0f q1)
    refine rc_b (i' := 12) (ls' := [some (vR 1), some (vI 7), some (vI x2), some (vI x3), some (vI x4)]) (st' := [vI 7, vR 2]) (L' := LT u z f) 3 (bt7_147_16 call 7 x2 x3 x4 z f) ?_
    refine rc_g (i' := 13) (ls' := [some (vR 1), some (vI 7), some (vI x2), some (vI x3), some (vI x4)]) (st' := [.inr (.inl (wT u (ix 7)))]) (L' := LT u z f) (bt7_147_17 call 7 _ z f) (by decide) ?_
    show RC call (mP 147) 13 [some (vR 1), some (vI 7), some (vI x2), some (vI x3), some (vI x4)] [vR 17] (LT u z f) res
    refine rc_b (i' := 14) (ls' := [some (vR 1), some (vI 7), some (vI x2), some (vI x3), some (vI x4)]) (st' := [vI 0, vR 17]) (L' := LT u z f) 1 (bt7_147_18 call 7 x2 x3 x4 _) ?_
    refine rc_b (i' := 15) (ls' := [some (vR 1), some (vI 7), some (vI x2), some (vI x3), some (vI x4)]) (st' := []) (L' := LT u (uZ z 17 0) f) 1 (bt7_147_19 call 0 _ z f) ?_
    refine rc_b (i' := 16) (ls' := [some (vR 1), some (vI 7), some (vI x2), some (vI x3), some (vI x4)]) (st' := [vI 0]) (L' := LT u (uZ z 17 0) f) 1 (bt7_147_20 call 7 x2 x3 x4 _) ?_
    subst H
    exact rc_ret (bt7_147_21 call _ _ _)
theorem c_ad7_p (d : Nat) (v : Int32) {z : Nat → Int32} {f : Nat → FA} {n : Nat} (hz : z 17 = nI n) (hn : n < 12) : mcall (d + 1) 142 [vR 17, vI v] (LT u z f) = some (some (vI (nI (n + 1))), LT u (uZ z 17 (nI (n + 1))) (uA f 18 (upd (f 18) n v))) := by
  have go : ∀ res, _ → mcall (d + 1) 142 [vR 17, vI v] (LT u z f) = some res := fun res H => mcall_i (mq142 (cu := [])).2.2 rfl (vct7_142_0 (mcall d) v z f res H)
  rw [hz, I_nI (n := n) (by omega), I_nI (n := 12) (by omega), show nI n + 1 = nI (n + 1) from nI_add n 1, ix_nI (j := n) (by omega)] at go
  exact go _ ⟨fun q => by omega, fun _ => ⟨fun _ => ⟨pin_nI (by omega) (by omega), rfl⟩, fun q => by omega⟩⟩
theorem c_ad7_f (d : Nat) (v : Int32) {z : Nat → Int32} {f : Nat → FA} (hz : z 17 = nI 12) : mcall (d + 1) 142 [vR 17, vI v] (LT u z f) = some (some (vI (-1)), LT u z f) := by
  have go : ∀ res, _ → mcall (d + 1) 142 [vR 17, vI v] (LT u z f) = some res := fun res H => mcall_i (mq142 (cu := [])).2.2 rfl (vct7_142_0 (mcall d) v z f res H)
  rw [hz, I_nI (n := 12) (by omega)] at go
  exact go _ ⟨fun q => by omega, fun _ => ⟨fun q => by omega, fun _ => rfl⟩⟩
theorem c_tl7_e (d : Nat) (x3 v : Int32) {z : Nat → Int32} {f : Nat → FA} : mcall (d + 2) 147 [vR 1, vI 7, vI 1, vI x3, vI v] (LT u z f) = some (some (vI 0), LT u (uZ z 17 0) f) := mcall_i (mq147 (cu := [])).2.2 rfl (vct7_147_0 (mcall (d + 1)) 1 x3 v z f _ ⟨fun q => absurd q (by decide), fun _ => rfl⟩)
theorem c_tl7_r (d : Nat) (v : Int32) {z : Nat → Int32} {f : Nat → FA} : mcall (d + 2) 147 [vR 1, vI 7, vI 0, vI 0, vI v] (LT u z f) = some (some (vI (-1)), LT u z f) := mcall_i (mq147 (cu := [])).2.2 rfl (vct7_147_0 (mcall (d + 1)) 0 0 v z f _ ⟨fun _ => ⟨fun _ => rfl, fun q => absurd rfl q⟩, fun q => absurd rfl q⟩)
theorem c_tl7_p (d : Nat) (v : Int32) {z : Nat → Int32} {f : Nat → FA} {n : Nat} (hz : z 17 = nI n) (hn : n < 12) : mcall (d + 2) 147 [vR 1, vI 7, vI 0, vI 1, vI v] (LT u z f) = some (some (vI (nI (n + 1))), LT u (uZ z 17 (nI (n + 1))) (uA f 18 (upd (f 18) n v))) := mcall_i (mq147 (cu := [])).2.2 rfl (vct7_147_0 (mcall (d + 1)) 0 1 v z f _ ⟨fun _ => ⟨fun q => absurd q (by decide), fun _ => ⟨_, _, _, c_ad7_p d v hz hn, rfl⟩⟩, fun q => absurd rfl q⟩)
theorem c_tl7_f (d : Nat) (v : Int32) {z : Nat → Int32} {f : Nat → FA} (hz : z 17 = nI 12) : mcall (d + 2) 147 [vR 1, vI 7, vI 0, vI 1, vI v] (LT u z f) = some (some (vI (-1)), LT u z f) := mcall_i (mq147 (cu := [])).2.2 rfl (vct7_147_0 (mcall (d + 1)) 0 1 v z f _ ⟨fun _ => ⟨fun q => absurd q (by decide), fun _ => ⟨_, _, _, c_ad7_f d v hz, rfl⟩⟩, fun q => absurd rfl q⟩)
set_option maxRecDepth 100000 in
theorem bt8_142_1 (call : QC FA) (x1 : Int32) (z : Nat → Int32) (f : Nat → FA) (F : Nat) : rnG call 142 (F + 2) 0 [some (vR 19), some (vI x1)] [] (LT u z f) = rnG call 142 F 2 [some (vR 19), some (vI x1)] [vI (z 19)] (LT u z f) := rfl
set_option maxRecDepth 100000 in
theorem bt8_142_2 (call : QC FA) (x : Int32) (ls : List (Option PV)) (L : QH FA) (F : Nat) : rnG call 142 (F + 1) 2 ls [vI x] L = bif pcmp 2 x 0 then rnG call 142 F 9 ls [] L else rnG call 142 F 3 ls [] L := rfl
set_option maxRecDepth 100000 in
theorem bt8_142_3 (call : QC FA) (x1 : Int32) (L : QH FA) (F : Nat) : rnG call 142 (F + 1) 9 [some (vR 19), some (vI x1)] [] L = rnG call 142 F 10 [some (vR 19), some (vI x1)] [vI ((-1))] L := rfl
set_option maxRecDepth 100000 in
theorem bt8_142_4 (call : QC FA) (x : Int32) (ls : List (Option PV)) (L : QH FA) (F : Nat) : rnG call 142 (F + 1) 10 ls [vI x] L = some (some (vI x), L) := rfl
set_option maxRecDepth 100000 in
theorem bt8_142_5 (call : QC FA) (x1 : Int32) (z : Nat → Int32) (f : Nat → FA) (F : Nat) : rnG call 142 (F + 5) 3 [some (vR 19), some (vI x1)] [] (LT u z f) = rnG call 142 F 8 [some (vR 19), some (vI x1)] [vI (nI 12), vI (z 19)] (LT u z f) := rfl
set_option maxRecDepth 100000 in
theorem bt8_142_6 (call : QC FA) (x y : Int32) (ls : List (Option PV)) (L : QH FA) (F : Nat) : rnG call 142 (F + 1) 8 ls [vI y, vI x] L = bif pcmp 2 x y then rnG call 142 F 11 ls [] L else rnG call 142 F 9 ls [] L := rfl
set_option maxRecDepth 100000 in
theorem bt8_142_7 (call : QC FA) (x1 : Int32) (z : Nat → Int32) (f : Nat → FA) (F : Nat) : rnG call 142 (F + 5) 11 [some (vR 19), some (vI x1)] [] (LT u z f) = rnG call 142 F 16 [some (vR 19), some (vI x1)] [vI x1, vI (z 19), vR 20] (LT u z f) := rfl
set_option maxRecDepth 100000 in
theorem bt8_142_8 (call : QC FA) (x y : Int32) (ls : List (Option PV)) (z : Nat → Int32) (f : Nat → FA) (F : Nat) : rnG call 142 (F + 1) 16 ls [vI y, vI x, vR 20] (LT u z f) = bif (Nat.beq 0 0 && pin x 12) then rnG call 142 F 17 ls [] (LT u z (uA f 20 (upd (f 20) (ix x) y))) else none := rfl
set_option maxRecDepth 100000 in
theorem bt8_142_9 (call : QC FA) (x1 : Int32) (z : Nat → Int32) (f : Nat → FA) (F : Nat) : rnG call 142 (F + 5) 17 [some (vR 19), some (vI x1)] [] (LT u z f) = rnG call 142 F 22 [some (vR 19), some (vI x1)] [vI ((z 19) + 1), vR 19] (LT u z f) := rfl
set_option maxRecDepth 100000 in
theorem bt8_142_10 (call : QC FA) (y : Int32) (ls : List (Option PV)) (z : Nat → Int32) (f : Nat → FA) (F : Nat) : rnG call 142 (F + 1) 22 ls [vI y, vR 19] (LT u z f) = rnG call 142 F 23 ls [] (LT u (uZ z 19 y) f) := rfl
set_option maxRecDepth 100000 in
theorem bt8_142_11 (call : QC FA) (x1 : Int32) (z : Nat → Int32) (f : Nat → FA) (F : Nat) : rnG call 142 (F + 2) 23 [some (vR 19), some (vI x1)] [] (LT u z f) = rnG call 142 F 25 [some (vR 19), some (vI x1)] [vI (z 19)] (LT u z f) := rfl
set_option maxRecDepth 100000 in
theorem bt8_142_12 (call : QC FA) (x : Int32) (ls : List (Option PV)) (L : QH FA) (F : Nat) : rnG call 142 (F + 1) 25 ls [vI x] L = some (some (vI x), L) := rfl
theorem vct8_142_0 (call : QC FA) (x1 : Int32) (z : Nat → Int32) (f : Nat → FA) (res : Option PV × QH FA) (H : ((I (z 19) < 0 → res = (some (vI ((-1))), LT u z f)) ∧ (0 ≤ I (z 19) → ((I (z 19) < I (nI 12) → (pin (z 19) 12 = true ∧ res = (some (vI ((z 19) + 1)), LT u (uZ z 19 ((z 19) + 1)) (uA f 20 (upd (f 20) (ix (z 19)) x1))))) ∧ (I (nI 12) ≤ I (z 19) → res = (some (vI ((-1))), LT u z f)))))) : RC call (mP 142) 0 [some (vR 19), some (vI x1)] [] (LT u z f) res := by
  refine rc_b (i' := 2) (ls' := [some (vR 19), some (vI x1)]) (st' := [vI (z 19)]) (L' := LT u z f) 2 (bt8_142_1 call x1 z f) ?_
  refine rc_if (it := 9) (ie := 3) (ls' := [some (vR 19), some (vI x1)]) (st' := []) (bt8_142_2 call (z 19) _ _) (fun q1 => ?_) (fun q1 => ?_)
  · have H := H.1 (cI2t q1 rfl rfl)
    refine rc_b (i' := 10) (ls' := [some (vR 19), some (vI x1)]) (st' := [vI ((-1))]) (L' := LT u z f) 1 (bt8_142_3 call x1 _) ?_
    subst H
    exact rc_ret (bt8_142_4 call _ _ _)
  · have H := H.2 (cI2f q1 rfl rfl)
    refine rc_b (i' := 8) (ls' := [some (vR 19), some (vI x1)]) (st' := [vI (nI 12), vI (z 19)]) (L' := LT u z f) 5 (bt8_142_5 call x1 z f) ?_
    refine rc_if (it := 11) (ie := 9) (ls' := [some (vR 19), some (vI x1)]) (st' := []) (bt8_142_6 call (z 19) (nI 12) _ _) (fun q2 => ?_) (fun q2 => ?_)
    · have H := H.1 (cI2t q2 rfl rfl)
      refine rc_b (i' := 16) (ls' := [some (vR 19), some (vI x1)]) (st' := [vI x1, vI (z 19), vR 20]) (L' := LT u z f) 5 (bt8_142_7 call x1 z f) ?_
      obtain ⟨g1, H⟩ := H
      refine rc_g (i' := 17) (ls' := [some (vR 19), some (vI x1)]) (st' := []) (L' := LT u z (uA f 20 (upd (f 20) (ix (z 19)) x1))) (bt8_142_8 call (z 19) x1 _ z f) (pinG g1) ?_
      refine rc_b (i' := 22) (ls' := [some (vR 19), some (vI x1)]) (st' := [vI ((z 19) + 1), vR 19]) (L' := LT u z (uA f 20 (upd (f 20) (ix (z 19)) x1))) 5 (bt8_142_9 call x1 z (uA f 20 (upd (f 20) (ix (z 19)) x1))) ?_
      refine rc_b (i' := 23) (ls' := [some (vR 19), some (vI x1)]) (st' := []) (L' := LT u (uZ z 19 ((z 19) + 1)) (uA f 20 (upd (f 20) (ix (z 19)) x1))) 1 (bt8_142_10 call ((z 19) + 1) _ z (uA f 20 (upd (f 20) (ix (z 19)) x1))) ?_
      refine rc_b (i' := 25) (ls' := [some (vR 19), some (vI x1)]) (st' := [vI ((z 19) + 1)]) (L' := LT u (uZ z 19 ((z 19) + 1)) (uA f 20 (upd (f 20) (ix (z 19)) x1))) 2 (bt8_142_11 call x1 (uZ z 19 ((z 19) + 1)) (uA f 20 (upd (f 20) (ix (z 19)) x1))) ?_
      subst H
      exact rc_ret (bt8_142_12 call _ _ _)
    · have H := H.2 (cI2f q2 rfl rfl)
      refine rc_b (i' := 10) (ls' := [some (vR 19), some (vI x1)]) (st' := [vI ((-1))]) (L' := LT u z f) 1 (bt8_142_3 call x1 _) ?_
      subst H
      exact rc_ret (bt8_142_4 call _ _ _)
set_option maxRecDepth 100000 in
theorem bt8_147_1 (call : QC FA) (x1 : Int32) (x2 : Int32) (x3 : Int32) (x4 : Int32) (L : QH FA) (F : Nat) : rnG call 147 (F + 1) 0 [some (vR 1), some (vI x1), some (vI x2), some (vI x3), some (vI x4)] [] L = rnG call 147 F 1 [some (vR 1), some (vI x1), some (vI x2), some (vI x3), some (vI x4)] [vI x1] L := rfl
set_option maxRecDepth 100000 in
theorem bt8_147_2 (call : QC FA) (x : Int32) (ls : List (Option PV)) (L : QH FA) (F : Nat) : rnG call 147 (F + 1) 1 ls [vI x] L = bif pcmp 2 x 0 then rnG call 147 F 5 ls [] L else rnG call 147 F 2 ls [] L := rfl
set_option maxRecDepth 100000 in
theorem bt8_147_3 (call : QC FA) (x1 : Int32) (x2 : Int32) (x3 : Int32) (x4 : Int32) (L : QH FA) (F : Nat) : rnG call 147 (F + 2) 2 [some (vR 1), some (vI x1), some (vI x2), some (vI x3), some (vI x4)] [] L = rnG call 147 F 4 [some (vR 1), some (vI x1), some (vI x2), some (vI x3), some (vI x4)] [vI 9, vI x1] L := rfl
set_option maxRecDepth 100000 in
theorem bt8_147_4 (call : QC FA) (x y : Int32) (ls : List (Option PV)) (L : QH FA) (F : Nat) : rnG call 147 (F + 1) 4 ls [vI y, vI x] L = bif pcmp 2 x y then rnG call 147 F 7 ls [] L else rnG call 147 F 5 ls [] L := rfl
set_option maxRecDepth 100000 in
theorem bt8_147_5 (call : QC FA) (x1 : Int32) (x2 : Int32) (x3 : Int32) (x4 : Int32) (L : QH FA) (F : Nat) : rnG call 147 (F + 1) 7 [some (vR 1), some (vI x1), some (vI x2), some (vI x3), some (vI x4)] [] L = rnG call 147 F 8 [some (vR 1), some (vI x1), some (vI x2), some (vI x3), some (vI x4)] [vI x2] L := rfl
set_option maxRecDepth 100000 in
theorem bt8_147_6 (call : QC FA) (x : Int32) (ls : List (Option PV)) (L : QH FA) (F : Nat) : rnG call 147 (F + 1) 8 ls [vI x] L = bif pcmp 0 x 0 then rnG call 147 F 17 ls [] L else rnG call 147 F 9 ls [] L := rfl
set_option maxRecDepth 100000 in
theorem bt8_147_7 (call : QC FA) (x1 : Int32) (x2 : Int32) (x3 : Int32) (x4 : Int32) (L : QH FA) (F : Nat) : rnG call 147 (F + 1) 17 [some (vR 1), some (vI x1), some (vI x2), some (vI x3), some (vI x4)] [] L = rnG call 147 F 18 [some (vR 1), some (vI x1), some (vI x2), some (vI x3), some (vI x4)] [vI x3] L := rfl
set_option maxRecDepth 100000 in
theorem bt8_147_8 (call : QC FA) (x : Int32) (ls : List (Option PV)) (L : QH FA) (F : Nat) : rnG call 147 (F + 1) 18 ls [vI x] L = bif pcmp 0 x 0 then rnG call 147 F 26 ls [] L else rnG call 147 F 19 ls [] L := rfl
set_option maxRecDepth 100000 in
theorem bt8_147_9 (call : QC FA) (x1 : Int32) (x2 : Int32) (x3 : Int32) (x4 : Int32) (L : QH FA) (F : Nat) : rnG call 147 (F + 1) 26 [some (vR 1), some (vI x1), some (vI x2), some (vI x3), some (vI x4)] [] L = rnG call 147 F 27 [some (vR 1), some (vI x1), some (vI x2), some (vI x3), some (vI x4)] [vI ((-1))] L := rfl
set_option maxRecDepth 100000 in
theorem bt8_147_10 (call : QC FA) (x : Int32) (ls : List (Option PV)) (L : QH FA) (F : Nat) : rnG call 147 (F + 1) 27 ls [vI x] L = some (some (vI x), L) := rfl
set_option maxRecDepth 100000 in
theorem bt8_147_11 (call : QC FA) (x1 : Int32) (x2 : Int32) (x3 : Int32) (x4 : Int32) (z : Nat → Int32) (f : Nat → FA) (F : Nat) : rnG call 147 (F + 3) 19 [some (vR 1), some (vI x1), some (vI x2), some (vI x3), some (vI x4)] [] (LT u z f) = rnG call 147 F 22 [some (vR 1), some (vI x1), some (vI x2), some (vI x3), some (vI x4)] [vI x1, vR 2] (LT u z f) := rfl
set_option maxRecDepth 100000 in
theorem bt8_147_12 (call : QC FA) (x : Int32) (ls : List (Option PV)) (z : Nat → Int32) (f : Nat → FA) (F : Nat) : rnG call 147 (F + 1) 22 ls [vI x, vR 2] (LT u z f) = bif ((Nat.beq 3 1 || (Nat.beq 3 2 || Nat.beq 3 3)) && pin x 9) then rnG call 147 F 23 ls [.inr (.inl (wT u (ix x)))] (LT u z f) else none := rfl
set_option maxRecDepth 100000 in
theorem bt8_147_13 (call : QC FA) (x1 : Int32) (x2 : Int32) (x3 : Int32) (x4 : Int32) (L : QH FA) (F : Nat) : rnG call 147 (F + 1) 23 [some (vR 1), some (vI x1), some (vI x2), some (vI x3), some (vI x4)] [vR 19] L = rnG call 147 F 24 [some (vR 1), some (vI x1), some (vI x2), some (vI x3), some (vI x4)] [vI x4, vR 19] L := rfl
set_option maxRecDepth 100000 in
theorem bt8_147_14 (call : QC FA) (a0 : Int32) (ls : List (Option PV)) (z : Nat → Int32) (f : Nat → FA) (F : Nat) : rnG call 147 (F + 1) 24 ls [vI a0, vR 19] (LT u z f) = cbd (call 142 [vR 19, vI a0] (LT u z f)) (fun r L' => rnG call 147 F 25 ls (r.toList ++ []) L') := pcY (ih := rnG call 147 F) (call := call) (a := 142) (b := 1) (v := 9) (t := 25) (x := 19) (ls := ls) (As := [vI a0]) (st' := []) (L := LT u z f) rfl rfl rfl
set_option maxRecDepth 100000 in
theorem bt8_147_15 (call : QC FA) (x1 : Int32) (x2 : Int32) (x3 : Int32) (x4 : Int32) (s0 : Int32) (L : QH FA) (F : Nat) : rnG call 147 (F + 1) 25 [some (vR 1), some (vI x1), some (vI x2), some (vI x3), some (vI x4)] [vI s0] L = rnG call 147 F 27 [some (vR 1), some (vI x1), some (vI x2), some (vI x3), some (vI x4)] [vI s0] L := rfl
set_option maxRecDepth 100000 in
theorem bt8_147_16 (call : QC FA) (x1 : Int32) (x2 : Int32) (x3 : Int32) (x4 : Int32) (z : Nat → Int32) (f : Nat → FA) (F : Nat) : rnG call 147 (F + 3) 9 [some (vR 1), some (vI x1), some (vI x2), some (vI x3), some (vI x4)] [] (LT u z f) = rnG call 147 F 12 [some (vR 1), some (vI x1), some (vI x2), some (vI x3), some (vI x4)] [vI x1, vR 2] (LT u z f) := rfl
set_option maxRecDepth 100000 in
theorem bt8_147_17 (call : QC FA) (x : Int32) (ls : List (Option PV)) (z : Nat → Int32) (f : Nat → FA) (F : Nat) : rnG call 147 (F + 1) 12 ls [vI x, vR 2] (LT u z f) = bif ((Nat.beq 3 1 || (Nat.beq 3 2 || Nat.beq 3 3)) && pin x 9) then rnG call 147 F 13 ls [.inr (.inl (wT u (ix x)))] (LT u z f) else none := rfl
set_option maxRecDepth 100000 in
theorem bt8_147_18 (call : QC FA) (x1 : Int32) (x2 : Int32) (x3 : Int32) (x4 : Int32) (L : QH FA) (F : Nat) : rnG call 147 (F + 1) 13 [some (vR 1), some (vI x1), some (vI x2), some (vI x3), some (vI x4)] [vR 19] L = rnG call 147 F 14 [some (vR 1), some (vI x1), some (vI x2), some (vI x3), some (vI x4)] [vI 0, vR 19] L := rfl
set_option maxRecDepth 100000 in
theorem bt8_147_19 (call : QC FA) (y : Int32) (ls : List (Option PV)) (z : Nat → Int32) (f : Nat → FA) (F : Nat) : rnG call 147 (F + 1) 14 ls [vI y, vR 19] (LT u z f) = rnG call 147 F 15 ls [] (LT u (uZ z 19 y) f) := rfl
set_option maxRecDepth 100000 in
theorem bt8_147_20 (call : QC FA) (x1 : Int32) (x2 : Int32) (x3 : Int32) (x4 : Int32) (L : QH FA) (F : Nat) : rnG call 147 (F + 1) 15 [some (vR 1), some (vI x1), some (vI x2), some (vI x3), some (vI x4)] [] L = rnG call 147 F 16 [some (vR 1), some (vI x1), some (vI x2), some (vI x3), some (vI x4)] [vI 0] L := rfl
set_option maxRecDepth 100000 in
theorem bt8_147_21 (call : QC FA) (x : Int32) (ls : List (Option PV)) (L : QH FA) (F : Nat) : rnG call 147 (F + 1) 16 ls [vI x] L = some (some (vI x), L) := rfl
theorem vct8_147_0 (call : QC FA) (x2 : Int32) (x3 : Int32) (x4 : Int32) (z : Nat → Int32) (f : Nat → FA) (res : Option PV × QH FA) (H : ((x2 = 0 → ((x3 = 0 → res = (some (vI ((-1))), LT u z f)) ∧ (¬ x3 = 0 → (∃ (r1 : Int32) (z1 : Nat → Int32) (f1 : Nat → FA), call 142 [vR 19, vI x4] (LT u z f) = some (some (vI r1), LT u z1 f1) ∧ res = (some (vI r1), LT u z1 f1))))) ∧ (¬ x2 = 0 → res = (some (vI 0), LT u (uZ z 19 0) f)))) : RC call (mP 147) 0 [some (vR 1), some (vI 8), some (vI x2), some (vI x3), some (vI x4)] [] (LT u z f) res := by
  refine rc_b (i' := 1) (ls' := [some (vR 1), some (vI 8), some (vI x2), some (vI x3), some (vI x4)]) (st' := [vI 8]) (L' := LT u z f) 1 (bt8_147_1 call 8 x2 x3 x4 _) ?_
  refine rc_f (it := 5) (ie := 2) (ls' := [some (vR 1), some (vI 8), some (vI x2), some (vI x3), some (vI x4)]) (st' := []) (bt8_147_2 call 8 _ _) (by decide) ?_
  refine rc_b (i' := 4) (ls' := [some (vR 1), some (vI 8), some (vI x2), some (vI x3), some (vI x4)]) (st' := [vI 9, vI 8]) (L' := LT u z f) 2 (bt8_147_3 call 8 x2 x3 x4 _) ?_
  refine rc_t (it := 7) (ie := 5) (ls' := [some (vR 1), some (vI 8), some (vI x2), some (vI x3), some (vI x4)]) (st' := []) (bt8_147_4 call 8 9 _ _) (by decide) ?_
  refine rc_b (i' := 8) (ls' := [some (vR 1), some (vI 8), some (vI x2), some (vI x3), some (vI x4)]) (st' := [vI x2]) (L' := LT u z f) 1 (bt8_147_5 call 8 x2 x3 x4 _) ?_
  refine rc_if (it := 17) (ie := 9) (ls' := [some (vR 1), some (vI 8), some (vI x2), some (vI x3), some (vI x4)]) (st' := []) (bt8_147_6 call x2 _ _) (fun q1 => ?_) (fun q1 => ?_)
  · have H := H.1 (cI0t q1)
    refine rc_b (i' := 18) (ls' := [some (vR 1), some (vI 8), some (vI x2), some (vI x3), some (vI x4)]) (st' := [vI x3]) (L' := LT u z f) 1 (bt8_147_7 call 8 x2 x3 x4 _) ?_
    refine rc_if (it := 26) (ie := 19) (ls' := [some (vR 1), some (vI 8), some (vI x2), some (vI x3), some (vI x4)]) (st' := []) (bt8_147_8 call x3 _ _) (fun q2 => ?_) (fun q2 => ?_)
    · have H := H.1 (cI0t q2)
      refine rc_b (i' := 27) (ls' := [some (vR 1), some (vI 8), some (vI x2), some (vI x3), some (vI x4)]) (st' := [vI ((-1))]) (L' := LT u z f) 1 (bt8_147_9 call 8 x2 x3 x4 _) ?_
      subst H
      exact rc_ret (bt8_147_10 call _ _ _)
    · have H := H.2 (cI0f q2)
      refine rc_b (i' := 22) (ls' := [some (vR 1), some (vI 8), some (vI x2), some (vI x3), some (vI x4)]) (st' := [vI 8, vR 2]) (L' := LT u z f) 3 (bt8_147_11 call 8 x2 x3 x4 z f) ?_
      refine rc_g (i' := 23) (ls' := [some (vR 1), some (vI 8), some (vI x2), some (vI x3), some (vI x4)]) (st' := [.inr (.inl (wT u (ix 8)))]) (L' := LT u z f) (bt8_147_12 call 8 _ z f) (by decide) ?_
      show RC call (mP 147) 23 [some (vR 1), some (vI 8), some (vI x2), some (vI x3), some (vI x4)] [vR 19] (LT u z f) res
      refine rc_b (i' := 24) (ls' := [some (vR 1), some (vI 8), some (vI x2), some (vI x3), some (vI x4)]) (st' := [vI x4, vR 19]) (L' := LT u z f) 1 (bt8_147_13 call 8 x2 x3 x4 _) ?_
      obtain ⟨r1, z1, f1, hc, H⟩ := H
      refine rc_call (t := 25) (ls' := [some (vR 1), some (vI 8), some (vI x2), some (vI x3), some (vI x4)]) (st' := []) (bt8_147_14 call x4 _ z f) hc ?_
      show RC call (mP 147) 25 [some (vR 1), some (vI 8), some (vI x2), some (vI x3), some (vI x4)] [vI r1] (LT u z1 f1) res
      refine rc_b (i' := 27) (ls' := [some (vR 1), some (vI 8), some (vI x2), some (vI x3), some (vI x4)]) (st' := [vI r1]) (L' := LT u z1 f1) 1 (bt8_147_15 call 8 x2 x3 x4 r1 _) ?_
      subst H
      exact rc_ret (bt8_147_10 call _ _ _)
  · have H := H.2 (cI0f q1)
    refine rc_b (i' := 12) (ls' := [some (vR 1), some (vI 8), some (vI x2), some (vI x3), some (vI x4)]) (st' := [vI 8, vR 2]) (L' := LT u z f) 3 (bt8_147_16 call 8 x2 x3 x4 z f) ?_
    refine rc_g (i' := 13) (ls' := [some (vR 1), some (vI 8), some (vI x2), some (vI x3), some (vI x4)]) (st' := [.inr (.inl (wT u (ix 8)))]) (L' := LT u z f) (bt8_147_17 call 8 _ z f) (by decide) ?_
    show RC call (mP 147) 13 [some (vR 1), some (vI 8), some (vI x2), some (vI x3), some (vI x4)] [vR 19] (LT u z f) res
    refine rc_b (i' := 14) (ls' := [some (vR 1), some (vI 8), some (vI x2), some (vI x3), some (vI x4)]) (st' := [vI 0, vR 19]) (L' := LT u z f) 1 (bt8_147_18 call 8 x2 x3 x4 _) ?_
    refine rc_b (i' := 15) (ls' := [some (vR 1), some (vI 8), some (vI x2), some (vI x3), some (vI x4)]) (st' := []) (L' := LT u (uZ z 19 0) f) 1 (bt8_147_19 call 0 _ z f) ?_
    refine rc_b (i' := 16) (ls' := [some (vR 1), some (vI 8), some (vI x2), some (vI x3), some (vI x4)]) (st' := [vI 0]) (L' := LT u (uZ z 19 0) f) 1 (bt8_147_20 call 8 x2 x3 x4 _) ?_
    subst H
    exact rc_ret (bt8_147_21 call _ _ _)
theorem c_ad8_p (d : Nat) (v : Int32) {z : Nat → Int32} {f : Nat → FA} {n : Nat} (hz : z 19 = nI n) (hn : n < 12) : mcall (d + 1) 142 [vR 19, vI v] (LT u z f) = some (some (vI (nI (n + 1))), LT u (uZ z 19 (nI (n + 1))) (uA f 20 (upd (f 20) n v))) := by
  have go : ∀ res, _ → mcall (d + 1) 142 [vR 19, vI v] (LT u z f) = some res := fun res H => mcall_i (mq142 (cu := [])).2.2 rfl (vct8_142_0 (mcall d) v z f res H)
  rw [hz, I_nI (n := n) (by omega), I_nI (n := 12) (by omega), show nI n + 1 = nI (n + 1) from nI_add n 1, ix_nI (j := n) (by omega)] at go
  exact go _ ⟨fun q => by omega, fun _ => ⟨fun _ => ⟨pin_nI (by omega) (by omega), rfl⟩, fun q => by omega⟩⟩
theorem c_ad8_f (d : Nat) (v : Int32) {z : Nat → Int32} {f : Nat → FA} (hz : z 19 = nI 12) : mcall (d + 1) 142 [vR 19, vI v] (LT u z f) = some (some (vI (-1)), LT u z f) := by
  have go : ∀ res, _ → mcall (d + 1) 142 [vR 19, vI v] (LT u z f) = some res := fun res H => mcall_i (mq142 (cu := [])).2.2 rfl (vct8_142_0 (mcall d) v z f res H)
  rw [hz, I_nI (n := 12) (by omega)] at go
  exact go _ ⟨fun q => by omega, fun _ => ⟨fun q => by omega, fun _ => rfl⟩⟩
theorem c_tl8_e (d : Nat) (x3 v : Int32) {z : Nat → Int32} {f : Nat → FA} : mcall (d + 2) 147 [vR 1, vI 8, vI 1, vI x3, vI v] (LT u z f) = some (some (vI 0), LT u (uZ z 19 0) f) := mcall_i (mq147 (cu := [])).2.2 rfl (vct8_147_0 (mcall (d + 1)) 1 x3 v z f _ ⟨fun q => absurd q (by decide), fun _ => rfl⟩)
theorem c_tl8_r (d : Nat) (v : Int32) {z : Nat → Int32} {f : Nat → FA} : mcall (d + 2) 147 [vR 1, vI 8, vI 0, vI 0, vI v] (LT u z f) = some (some (vI (-1)), LT u z f) := mcall_i (mq147 (cu := [])).2.2 rfl (vct8_147_0 (mcall (d + 1)) 0 0 v z f _ ⟨fun _ => ⟨fun _ => rfl, fun q => absurd rfl q⟩, fun q => absurd rfl q⟩)
theorem c_tl8_p (d : Nat) (v : Int32) {z : Nat → Int32} {f : Nat → FA} {n : Nat} (hz : z 19 = nI n) (hn : n < 12) : mcall (d + 2) 147 [vR 1, vI 8, vI 0, vI 1, vI v] (LT u z f) = some (some (vI (nI (n + 1))), LT u (uZ z 19 (nI (n + 1))) (uA f 20 (upd (f 20) n v))) := mcall_i (mq147 (cu := [])).2.2 rfl (vct8_147_0 (mcall (d + 1)) 0 1 v z f _ ⟨fun _ => ⟨fun q => absurd q (by decide), fun _ => ⟨_, _, _, c_ad8_p d v hz hn, rfl⟩⟩, fun q => absurd rfl q⟩)
theorem c_tl8_f (d : Nat) (v : Int32) {z : Nat → Int32} {f : Nat → FA} (hz : z 19 = nI 12) : mcall (d + 2) 147 [vR 1, vI 8, vI 0, vI 1, vI v] (LT u z f) = some (some (vI (-1)), LT u z f) := mcall_i (mq147 (cu := [])).2.2 rfl (vct8_147_0 (mcall (d + 1)) 0 1 v z f _ ⟨fun _ => ⟨fun q => absurd q (by decide), fun _ => ⟨_, _, _, c_ad8_f d v hz, rfl⟩⟩, fun q => absurd rfl q⟩)
set_option maxRecDepth 100000 in
theorem b183_1 (call : QC FA) (x0 : Int32) (x1 : Int32) (L : QH FA) (F : Nat) : rnG call 183 (F + 1) 0 [some (vI x0), some (vI x1)] [] L = rnG call 183 F 1 [some (vI x0), some (vI x1)] [vI x0] L := rfl
set_option maxRecDepth 100000 in
theorem b183_2 (call : QC FA) (x : Int32) (ls : List (Option PV)) (L : QH FA) (F : Nat) : rnG call 183 (F + 1) 1 ls [vI x] L = bif pcmp 2 x 0 then rnG call 183 F 15 ls [] L else rnG call 183 F 2 ls [] L := rfl
set_option maxRecDepth 100000 in
theorem b183_3 (call : QC FA) (x0 : Int32) (x1 : Int32) (L : QH FA) (F : Nat) : rnG call 183 (F + 1) 15 [some (vI x0), some (vI x1)] [] L = rnG call 183 F 16 [some (vI x0), some (vI x1)] [vI 0] L := rfl
set_option maxRecDepth 100000 in
theorem b183_4 (call : QC FA) (ls : List (Option PV)) (L : QH FA) (F : Nat) : rnG call 183 (F + 1) 16 ls [vI 0] L = some (some (vI 0), L) := rfl
set_option maxRecDepth 100000 in
theorem b183_5 (call : QC FA) (x0 : Int32) (x1 : Int32) (L : QH FA) (F : Nat) : rnG call 183 (F + 2) 2 [some (vI x0), some (vI x1)] [] L = rnG call 183 F 4 [some (vI x0), some (vI x1)] [vI 8, vI x0] L := rfl
set_option maxRecDepth 100000 in
theorem b183_6 (call : QC FA) (x y : Int32) (ls : List (Option PV)) (L : QH FA) (F : Nat) : rnG call 183 (F + 1) 4 ls [vI y, vI x] L = bif pcmp 3 x y then rnG call 183 F 15 ls [] L else rnG call 183 F 5 ls [] L := rfl
set_option maxRecDepth 100000 in
theorem b183_7 (call : QC FA) (x0 : Int32) (x1 : Int32) (L : QH FA) (F : Nat) : rnG call 183 (F + 1) 5 [some (vI x0), some (vI x1)] [] L = rnG call 183 F 6 [some (vI x0), some (vI x1)] [vI x1] L := rfl
set_option maxRecDepth 100000 in
theorem b183_8 (call : QC FA) (x : Int32) (ls : List (Option PV)) (L : QH FA) (F : Nat) : rnG call 183 (F + 1) 6 ls [vI x] L = bif pcmp 2 x 0 then rnG call 183 F 15 ls [] L else rnG call 183 F 7 ls [] L := rfl
set_option maxRecDepth 100000 in
theorem b183_9 (call : QC FA) (x0 : Int32) (x1 : Int32) (L : QH FA) (F : Nat) : rnG call 183 (F + 2) 7 [some (vI x0), some (vI x1)] [] L = rnG call 183 F 9 [some (vI x0), some (vI x1)] [vI 8, vI x1] L := rfl
set_option maxRecDepth 100000 in
theorem b183_10 (call : QC FA) (x y : Int32) (ls : List (Option PV)) (L : QH FA) (F : Nat) : rnG call 183 (F + 1) 9 ls [vI y, vI x] L = bif pcmp 3 x y then rnG call 183 F 15 ls [] L else rnG call 183 F 10 ls [] L := rfl
set_option maxRecDepth 100000 in
theorem b183_11 (call : QC FA) (x0 : Int32) (x1 : Int32) (L : QH FA) (F : Nat) : rnG call 183 (F + 2) 10 [some (vI x0), some (vI x1)] [] L = rnG call 183 F 12 [some (vI x0), some (vI x1)] [vI x1, vI x0] L := rfl
set_option maxRecDepth 100000 in
theorem b183_12 (call : QC FA) (x y : Int32) (ls : List (Option PV)) (L : QH FA) (F : Nat) : rnG call 183 (F + 1) 12 ls [vI y, vI x] L = bif pcmp 0 x y then rnG call 183 F 15 ls [] L else rnG call 183 F 13 ls [] L := rfl
set_option maxRecDepth 100000 in
theorem b183_13 (call : QC FA) (x0 : Int32) (x1 : Int32) (L : QH FA) (F : Nat) : rnG call 183 (F + 2) 13 [some (vI x0), some (vI x1)] [] L = rnG call 183 F 16 [some (vI x0), some (vI x1)] [vI 1] L := rfl
set_option maxRecDepth 100000 in
theorem b183_14 (call : QC FA) (ls : List (Option PV)) (L : QH FA) (F : Nat) : rnG call 183 (F + 1) 16 ls [vI 1] L = some (some (vI 1), L) := rfl
theorem vc183_0 (call : QC FA) (x0 : Int32) (x1 : Int32) (z : Nat → Int32) (f : Nat → FA) (res : Option PV × QH FA) (H : ((I x0 < 0 → res = (some (vI 0), LT u z f)) ∧ (0 ≤ I x0 → ((8 ≤ I x0 → res = (some (vI 0), LT u z f)) ∧ (I x0 < 8 → ((I x1 < 0 → res = (some (vI 0), LT u z f)) ∧ (0 ≤ I x1 → ((8 ≤ I x1 → res = (some (vI 0), LT u z f)) ∧ (I x1 < 8 → ((x0 = x1 → res = (some (vI 0), LT u z f)) ∧ (¬ x0 = x1 → res = (some (vI 1), LT u z f)))))))))))) : RC call (mP 183) 0 [some (vI x0), some (vI x1)] [] (LT u z f) res := by
  refine rc_b (i' := 1) (ls' := [some (vI x0), some (vI x1)]) (st' := [vI x0]) (L' := LT u z f) 1 (b183_1 call x0 x1 _) ?_
  refine rc_if (it := 15) (ie := 2) (ls' := [some (vI x0), some (vI x1)]) (st' := []) (b183_2 call x0 _ _) (fun q1 => ?_) (fun q1 => ?_)
  · have H := H.1 (cI2t q1 rfl rfl)
    refine rc_b (i' := 16) (ls' := [some (vI x0), some (vI x1)]) (st' := [vI 0]) (L' := LT u z f) 1 (b183_3 call x0 x1 _) ?_
    subst H
    exact rc_ret (b183_4 call _ _)
  · have H := H.2 (cI2f q1 rfl rfl)
    refine rc_b (i' := 4) (ls' := [some (vI x0), some (vI x1)]) (st' := [vI 8, vI x0]) (L' := LT u z f) 2 (b183_5 call x0 x1 _) ?_
    refine rc_if (it := 15) (ie := 5) (ls' := [some (vI x0), some (vI x1)]) (st' := []) (b183_6 call x0 8 _ _) (fun q2 => ?_) (fun q2 => ?_)
    · have H := H.1 (cI3t q2 rfl rfl)
      refine rc_b (i' := 16) (ls' := [some (vI x0), some (vI x1)]) (st' := [vI 0]) (L' := LT u z f) 1 (b183_3 call x0 x1 _) ?_
      subst H
      exact rc_ret (b183_4 call _ _)
    · have H := H.2 (cI3f q2 rfl rfl)
      refine rc_b (i' := 6) (ls' := [some (vI x0), some (vI x1)]) (st' := [vI x1]) (L' := LT u z f) 1 (b183_7 call x0 x1 _) ?_
      refine rc_if (it := 15) (ie := 7) (ls' := [some (vI x0), some (vI x1)]) (st' := []) (b183_8 call x1 _ _) (fun q3 => ?_) (fun q3 => ?_)
      · have H := H.1 (cI2t q3 rfl rfl)
        refine rc_b (i' := 16) (ls' := [some (vI x0), some (vI x1)]) (st' := [vI 0]) (L' := LT u z f) 1 (b183_3 call x0 x1 _) ?_
        subst H
        exact rc_ret (b183_4 call _ _)
      · have H := H.2 (cI2f q3 rfl rfl)
        refine rc_b (i' := 9) (ls' := [some (vI x0), some (vI x1)]) (st' := [vI 8, vI x1]) (L' := LT u z f) 2 (b183_9 call x0 x1 _) ?_
        refine rc_if (it := 15) (ie := 10) (ls' := [some (vI x0), some (vI x1)]) (st' := []) (b183_10 call x1 8 _ _) (fun q4 => ?_) (fun q4 => ?_)
        · have H := H.1 (cI3t q4 rfl rfl)
          refine rc_b (i' := 16) (ls' := [some (vI x0), some (vI x1)]) (st' := [vI 0]) (L' := LT u z f) 1 (b183_3 call x0 x1 _) ?_
          subst H
          exact rc_ret (b183_4 call _ _)
        · have H := H.2 (cI3f q4 rfl rfl)
          refine rc_b (i' := 12) (ls' := [some (vI x0), some (vI x1)]) (st' := [vI x1, vI x0]) (L' := LT u z f) 2 (b183_11 call x0 x1 _) ?_
          refine rc_if (it := 15) (ie := 13) (ls' := [some (vI x0), some (vI x1)]) (st' := []) (b183_12 call x0 x1 _ _) (fun q5 => ?_) (fun q5 => ?_)
          · have H := H.1 (cI0t q5)
            refine rc_b (i' := 16) (ls' := [some (vI x0), some (vI x1)]) (st' := [vI 0]) (L' := LT u z f) 1 (b183_3 call x0 x1 _) ?_
            subst H
            exact rc_ret (b183_4 call _ _)
          · have H := H.2 (cI0f q5)
            refine rc_b (i' := 16) (ls' := [some (vI x0), some (vI x1)]) (st' := [vI 1]) (L' := LT u z f) 2 (b183_13 call x0 x1 _) ?_
            subst H
            exact rc_ret (b183_14 call _ _)
theorem c_ul_y (d : Nat) {x1 x2 : Int32} {z : Nat → Int32} {f : Nat → FA} (h : 0 ≤ I x1 ∧ I x1 < 8 ∧ 0 ≤ I x2 ∧ I x2 < 8 ∧ ¬ x1 = x2) : mcall (d + 1) 183 [vI x1, vI x2] (LT u z f) = some (some (vI 1), LT u z f) := by
  obtain ⟨h1, h2, h3, h4, h5⟩ := h
  exact mcall_i (mq183 (cu := [])).2.2 rfl (vc183_0 (mcall d) x1 x2 z f _ ⟨fun q => by omega, fun _ => ⟨fun q => by omega, fun _ => ⟨fun q => by omega, fun _ => ⟨fun q => by omega, fun _ => ⟨fun q => absurd q h5, fun _ => rfl⟩⟩⟩⟩⟩)
theorem c_ul_n (d : Nat) {x1 x2 : Int32} {z : Nat → Int32} {f : Nat → FA} (h : ¬ (0 ≤ I x1 ∧ I x1 < 8 ∧ 0 ≤ I x2 ∧ I x2 < 8 ∧ ¬ x1 = x2)) : mcall (d + 1) 183 [vI x1, vI x2] (LT u z f) = some (some (vI 0), LT u z f) := by
  have go : ∀ res, _ → mcall (d + 1) 183 [vI x1, vI x2] (LT u z f) = some res := fun res H => mcall_i (mq183 (cu := [])).2.2 rfl (vc183_0 (mcall d) x1 x2 z f res H)
  exact go _ ⟨fun _ => rfl, fun h1 => ⟨fun _ => rfl, fun h2 => ⟨fun _ => rfl, fun h3 => ⟨fun _ => rfl, fun h4 => ⟨fun _ => rfl, fun h5 => absurd ⟨h1, h2, h3, h4, h5⟩ h⟩⟩⟩⟩⟩
theorem im1 {x : Int32} (h : x = -1) : I x = -1 := by rw [h]; decide
theorem im1n {x : Int32} (h : ¬ I x = -1) : ¬ x = -1 := fun q => h (im1 q)
theorem in0 {x : Int32} (h : ¬ I x = 0) : ¬ x = 0 := fun q => h (by rw [q]; decide)
theorem in1 {x : Int32} (h : ¬ I x = 1) : ¬ x = 1 := fun q => h (by rw [q]; decide)
theorem ie0 {x : Int32} (h : I x = 0) : x = 0 := Int32.toInt_inj.mp (h.trans (by decide))
theorem ie1 {x : Int32} (h : I x = 1) : x = 1 := Int32.toInt_inj.mp (h.trans (by decide))
set_option maxRecDepth 100000 in
theorem b173_1 (call : QC FA) (x1 : Int32) (z : Nat → Int32) (f : Nat → FA) (F : Nat) : rnG call 173 (F + 5) 0 [some (vR 0), some (vI x1)] [] (LT u z f) = rnG call 173 F 5 [some (vR 0), some (vI x1)] [vI ((-1)), vI x1, vI 0, vR 1] (LT u z f) := rfl
set_option maxRecDepth 100000 in
theorem b173_2 (call : QC FA) (x y : Int32) (s0 : Int32) (ls : List (Option PV)) (L : QH FA) (F : Nat) : rnG call 173 (F + 1) 5 ls [vI y, vI x, vI s0, vR 1] L = bif pcmp 1 x y then rnG call 173 F 8 ls [vI s0, vR 1] L else rnG call 173 F 6 ls [vI s0, vR 1] L := rfl
set_option maxRecDepth 100000 in
theorem b173_3 (call : QC FA) (x1 : Int32) (s0 : Int32) (L : QH FA) (F : Nat) : rnG call 173 (F + 2) 8 [some (vR 0), some (vI x1)] [vI s0, vR 1] L = rnG call 173 F 10 [some (vR 0), some (vI x1)] [vI x1, vI 0, vI s0, vR 1] L := rfl
set_option maxRecDepth 100000 in
theorem b173_4 (call : QC FA) (x : Int32) (s0 : Int32) (s1 : Int32) (ls : List (Option PV)) (L : QH FA) (F : Nat) : rnG call 173 (F + 1) 10 ls [vI x, vI s0, vI s1, vR 1] L = bif pcmp 2 x 0 then rnG call 173 F 16 ls [vI s0, vI s1, vR 1] L else rnG call 173 F 11 ls [vI s0, vI s1, vR 1] L := rfl
set_option maxRecDepth 100000 in
theorem b173_5 (call : QC FA) (x1 : Int32) (s0 : Int32) (s1 : Int32) (L : QH FA) (F : Nat) : rnG call 173 (F + 2) 16 [some (vR 0), some (vI x1)] [vI s0, vI s1, vR 1] L = rnG call 173 F 18 [some (vR 0), some (vI x1)] [vI x1, vI 0, vI s0, vI s1, vR 1] L := rfl
set_option maxRecDepth 100000 in
theorem b173_6 (call : QC FA) (a0 : Int32) (a1 : Int32) (a2 : Int32) (a3 : Int32) (ls : List (Option PV)) (z : Nat → Int32) (f : Nat → FA) (F : Nat) : rnG call 173 (F + 1) 18 ls [vI a3, vI a2, vI a1, vI a0, vR 1] (LT u z f) = cbd (call 147 [vR 1, vI a0, vI a1, vI a2, vI a3] (LT u z f)) (fun r L' => rnG call 173 F 19 ls (r.toList ++ []) L') := pcY (ih := rnG call 173 F) (call := call) (a := 147) (b := 4) (v := 10) (t := 19) (x := 1) (ls := ls) (As := [vI a0, vI a1, vI a2, vI a3]) (st' := []) (L := LT u z f) rfl rfl rfl
set_option maxRecDepth 100000 in
theorem b173_7 (call : QC FA) (x : Int32) (ls : List (Option PV)) (L : QH FA) (F : Nat) : rnG call 173 (F + 1) 19 ls [vI x] L = some (some (vI x), L) := rfl
set_option maxRecDepth 100000 in
theorem b173_8 (call : QC FA) (x1 : Int32) (s0 : Int32) (s1 : Int32) (L : QH FA) (F : Nat) : rnG call 173 (F + 2) 11 [some (vR 0), some (vI x1)] [vI s0, vI s1, vR 1] L = rnG call 173 F 13 [some (vR 0), some (vI x1)] [vI 999, vI x1, vI s0, vI s1, vR 1] L := rfl
set_option maxRecDepth 100000 in
theorem b173_9 (call : QC FA) (x y : Int32) (s0 : Int32) (s1 : Int32) (ls : List (Option PV)) (L : QH FA) (F : Nat) : rnG call 173 (F + 1) 13 ls [vI y, vI x, vI s0, vI s1, vR 1] L = bif pcmp 4 x y then rnG call 173 F 16 ls [vI s0, vI s1, vR 1] L else rnG call 173 F 14 ls [vI s0, vI s1, vR 1] L := rfl
set_option maxRecDepth 100000 in
theorem b173_10 (call : QC FA) (x1 : Int32) (s0 : Int32) (s1 : Int32) (L : QH FA) (F : Nat) : rnG call 173 (F + 3) 14 [some (vR 0), some (vI x1)] [vI s0, vI s1, vR 1] L = rnG call 173 F 18 [some (vR 0), some (vI x1)] [vI x1, vI 1, vI s0, vI s1, vR 1] L := rfl
set_option maxRecDepth 100000 in
theorem b173_11 (call : QC FA) (x1 : Int32) (s0 : Int32) (L : QH FA) (F : Nat) : rnG call 173 (F + 3) 6 [some (vR 0), some (vI x1)] [vI s0, vR 1] L = rnG call 173 F 10 [some (vR 0), some (vI x1)] [vI x1, vI 1, vI s0, vR 1] L := rfl
theorem vc173_0 (call : QC FA) (x1 : Int32) (z : Nat → Int32) (f : Nat → FA) (res : Option PV × QH FA) (H : ((¬ x1 = (-1) → ((I x1 < 0 → (∃ (r1 : Int32) (z1 : Nat → Int32) (f1 : Nat → FA), call 147 [vR 1, vI 0, vI 0, vI 0, vI x1] (LT u z f) = some (some (vI r1), LT u z1 f1) ∧ res = (some (vI r1), LT u z1 f1))) ∧ (0 ≤ I x1 → ((999 < I x1 → (∃ (r2 : Int32) (z2 : Nat → Int32) (f2 : Nat → FA), call 147 [vR 1, vI 0, vI 0, vI 0, vI x1] (LT u z f) = some (some (vI r2), LT u z2 f2) ∧ res = (some (vI r2), LT u z2 f2))) ∧ (I x1 ≤ 999 → (∃ (r3 : Int32) (z3 : Nat → Int32) (f3 : Nat → FA), call 147 [vR 1, vI 0, vI 0, vI 1, vI x1] (LT u z f) = some (some (vI r3), LT u z3 f3) ∧ res = (some (vI r3), LT u z3 f3))))))) ∧ (x1 = (-1) → ((I x1 < 0 → (∃ (r4 : Int32) (z4 : Nat → Int32) (f4 : Nat → FA), call 147 [vR 1, vI 0, vI 1, vI 0, vI x1] (LT u z f) = some (some (vI r4), LT u z4 f4) ∧ res = (some (vI r4), LT u z4 f4))) ∧ (0 ≤ I x1 → ((999 < I x1 → (∃ (r5 : Int32) (z5 : Nat → Int32) (f5 : Nat → FA), call 147 [vR 1, vI 0, vI 1, vI 0, vI x1] (LT u z f) = some (some (vI r5), LT u z5 f5) ∧ res = (some (vI r5), LT u z5 f5))) ∧ (I x1 ≤ 999 → (∃ (r6 : Int32) (z6 : Nat → Int32) (f6 : Nat → FA), call 147 [vR 1, vI 0, vI 1, vI 1, vI x1] (LT u z f) = some (some (vI r6), LT u z6 f6) ∧ res = (some (vI r6), LT u z6 f6))))))))) : RC call (mP 173) 0 [some (vR 0), some (vI x1)] [] (LT u z f) res := by
  refine rc_b (i' := 5) (ls' := [some (vR 0), some (vI x1)]) (st' := [vI ((-1)), vI x1, vI 0, vR 1]) (L' := LT u z f) 5 (b173_1 call x1 z f) ?_
  refine rc_if (it := 8) (ie := 6) (ls' := [some (vR 0), some (vI x1)]) (st' := [vI 0, vR 1]) (b173_2 call x1 ((-1)) 0 _ _) (fun q1 => ?_) (fun q1 => ?_)
  · have H := H.1 (cI1t q1)
    refine rc_b (i' := 10) (ls' := [some (vR 0), some (vI x1)]) (st' := [vI x1, vI 0, vI 0, vR 1]) (L' := LT u z f) 2 (b173_3 call x1 0 _) ?_
    refine rc_if (it := 16) (ie := 11) (ls' := [some (vR 0), some (vI x1)]) (st' := [vI 0, vI 0, vR 1]) (b173_4 call x1 0 0 _ _) (fun q2 => ?_) (fun q2 => ?_)
    · have H := H.1 (cI2t q2 rfl rfl)
      refine rc_b (i' := 18) (ls' := [some (vR 0), some (vI x1)]) (st' := [vI x1, vI 0, vI 0, vI 0, vR 1]) (L' := LT u z f) 2 (b173_5 call x1 0 0 _) ?_
      obtain ⟨r1, z1, f1, hc, H⟩ := H
      refine rc_call (t := 19) (ls' := [some (vR 0), some (vI x1)]) (st' := []) (b173_6 call 0 0 0 x1 _ z f) hc ?_
      show RC call (mP 173) 19 [some (vR 0), some (vI x1)] [vI r1] (LT u z1 f1) res
      subst H
      exact rc_ret (b173_7 call _ _ _)
    · have H := H.2 (cI2f q2 rfl rfl)
      refine rc_b (i' := 13) (ls' := [some (vR 0), some (vI x1)]) (st' := [vI 999, vI x1, vI 0, vI 0, vR 1]) (L' := LT u z f) 2 (b173_8 call x1 0 0 _) ?_
      refine rc_if (it := 16) (ie := 14) (ls' := [some (vR 0), some (vI x1)]) (st' := [vI 0, vI 0, vR 1]) (b173_9 call x1 999 0 0 _ _) (fun q3 => ?_) (fun q3 => ?_)
      · have H := H.1 (cI4t q3 rfl rfl)
        refine rc_b (i' := 18) (ls' := [some (vR 0), some (vI x1)]) (st' := [vI x1, vI 0, vI 0, vI 0, vR 1]) (L' := LT u z f) 2 (b173_5 call x1 0 0 _) ?_
        obtain ⟨r2, z2, f2, hc, H⟩ := H
        refine rc_call (t := 19) (ls' := [some (vR 0), some (vI x1)]) (st' := []) (b173_6 call 0 0 0 x1 _ z f) hc ?_
        show RC call (mP 173) 19 [some (vR 0), some (vI x1)] [vI r2] (LT u z2 f2) res
        subst H
        exact rc_ret (b173_7 call _ _ _)
      · have H := H.2 (cI4f q3 rfl rfl)
        refine rc_b (i' := 18) (ls' := [some (vR 0), some (vI x1)]) (st' := [vI x1, vI 1, vI 0, vI 0, vR 1]) (L' := LT u z f) 3 (b173_10 call x1 0 0 _) ?_
        obtain ⟨r3, z3, f3, hc, H⟩ := H
        refine rc_call (t := 19) (ls' := [some (vR 0), some (vI x1)]) (st' := []) (b173_6 call 0 0 1 x1 _ z f) hc ?_
        show RC call (mP 173) 19 [some (vR 0), some (vI x1)] [vI r3] (LT u z3 f3) res
        subst H
        exact rc_ret (b173_7 call _ _ _)
  · have H := H.2 (cI1f q1)
    refine rc_b (i' := 10) (ls' := [some (vR 0), some (vI x1)]) (st' := [vI x1, vI 1, vI 0, vR 1]) (L' := LT u z f) 3 (b173_11 call x1 0 _) ?_
    refine rc_if (it := 16) (ie := 11) (ls' := [some (vR 0), some (vI x1)]) (st' := [vI 1, vI 0, vR 1]) (b173_4 call x1 1 0 _ _) (fun q4 => ?_) (fun q4 => ?_)
    · have H := H.1 (cI2t q4 rfl rfl)
      refine rc_b (i' := 18) (ls' := [some (vR 0), some (vI x1)]) (st' := [vI x1, vI 0, vI 1, vI 0, vR 1]) (L' := LT u z f) 2 (b173_5 call x1 1 0 _) ?_
      obtain ⟨r4, z4, f4, hc, H⟩ := H
      refine rc_call (t := 19) (ls' := [some (vR 0), some (vI x1)]) (st' := []) (b173_6 call 0 1 0 x1 _ z f) hc ?_
      show RC call (mP 173) 19 [some (vR 0), some (vI x1)] [vI r4] (LT u z4 f4) res
      subst H
      exact rc_ret (b173_7 call _ _ _)
    · have H := H.2 (cI2f q4 rfl rfl)
      refine rc_b (i' := 13) (ls' := [some (vR 0), some (vI x1)]) (st' := [vI 999, vI x1, vI 1, vI 0, vR 1]) (L' := LT u z f) 2 (b173_8 call x1 1 0 _) ?_
      refine rc_if (it := 16) (ie := 14) (ls' := [some (vR 0), some (vI x1)]) (st' := [vI 1, vI 0, vR 1]) (b173_9 call x1 999 1 0 _ _) (fun q5 => ?_) (fun q5 => ?_)
      · have H := H.1 (cI4t q5 rfl rfl)
        refine rc_b (i' := 18) (ls' := [some (vR 0), some (vI x1)]) (st' := [vI x1, vI 0, vI 1, vI 0, vR 1]) (L' := LT u z f) 2 (b173_5 call x1 1 0 _) ?_
        obtain ⟨r5, z5, f5, hc, H⟩ := H
        refine rc_call (t := 19) (ls' := [some (vR 0), some (vI x1)]) (st' := []) (b173_6 call 0 1 0 x1 _ z f) hc ?_
        show RC call (mP 173) 19 [some (vR 0), some (vI x1)] [vI r5] (LT u z5 f5) res
        subst H
        exact rc_ret (b173_7 call _ _ _)
      · have H := H.2 (cI4f q5 rfl rfl)
        refine rc_b (i' := 18) (ls' := [some (vR 0), some (vI x1)]) (st' := [vI x1, vI 1, vI 1, vI 0, vR 1]) (L' := LT u z f) 3 (b173_10 call x1 1 0 _) ?_
        obtain ⟨r6, z6, f6, hc, H⟩ := H
        refine rc_call (t := 19) (ls' := [some (vR 0), some (vI x1)]) (st' := []) (b173_6 call 0 1 1 x1 _ z f) hc ?_
        show RC call (mP 173) 19 [some (vR 0), some (vI x1)] [vI r6] (LT u z6 f6) res
        subst H
        exact rc_ret (b173_7 call _ _ _)
theorem c_party_e (d : Nat) {x1 : Int32} {z : Nat → Int32} {f : Nat → FA} (h : x1 = -1) : mcall (d + 3) 173 [vR 0, vI x1] (LT u z f) = some (some (vI 0), LT u (uZ z 3 0) f) := by
  have go : ∀ res, _ → mcall (d + 3) 173 [vR 0, vI x1] (LT u z f) = some res := fun res H => mcall_i (mq173 (cu := [])).2.2 rfl (vc173_0 (mcall (d + 2)) x1 z f res H)
  have hI := im1 h
  have n0 : ¬ x1 = 0 := in0 (by omega)
  have n1 : ¬ x1 = 1 := in1 (by omega)
  refine go _ ?_
  repeat' first
    | exact ⟨_, _, _, c_tl0_e d _ _, rfl⟩
    | contradiction
    | (exfalso; omega)
    | refine ⟨fun q => ?_, fun q => ?_⟩
theorem c_party_r (d : Nat) {x1 : Int32} {z : Nat → Int32} {f : Nat → FA} (h : ¬ x1 = -1) (hb : ¬ (0 ≤ I x1 ∧ I x1 ≤ 999)) : mcall (d + 3) 173 [vR 0, vI x1] (LT u z f) = some (some (vI (-1)), LT u z f) := by
  have go : ∀ res, _ → mcall (d + 3) 173 [vR 0, vI x1] (LT u z f) = some res := fun res H => mcall_i (mq173 (cu := [])).2.2 rfl (vc173_0 (mcall (d + 2)) x1 z f res H)
  refine go _ ?_
  repeat' first
    | exact ⟨_, _, _, c_tl0_r d _, rfl⟩
    | contradiction
    | (exfalso; omega)
    | refine ⟨fun q => ?_, fun q => ?_⟩
theorem c_party_p (d : Nat) {x1 : Int32} {z : Nat → Int32} {f : Nat → FA} {n : Nat} (hb : 0 ≤ I x1 ∧ I x1 ≤ 999) (hz : z 3 = nI n) (hn : n < 6) : mcall (d + 3) 173 [vR 0, vI x1] (LT u z f) = some (some (vI (nI (n + 1))), LT u (uZ z 3 (nI (n + 1))) (uA f 4 (upd (f 4) n x1))) := by
  have go : ∀ res, _ → mcall (d + 3) 173 [vR 0, vI x1] (LT u z f) = some res := fun res H => mcall_i (mq173 (cu := [])).2.2 rfl (vc173_0 (mcall (d + 2)) x1 z f res H)
  have h : ¬ x1 = -1 := im1n (by omega)
  refine go _ ?_
  repeat' first
    | exact ⟨_, _, _, c_tl0_p d _ hz hn, rfl⟩
    | contradiction
    | (exfalso; omega)
    | refine ⟨fun q => ?_, fun q => ?_⟩
theorem c_party_f (d : Nat) {x1 : Int32} {z : Nat → Int32} {f : Nat → FA} (hb : 0 ≤ I x1 ∧ I x1 ≤ 999) (hz : z 3 = nI 6) : mcall (d + 3) 173 [vR 0, vI x1] (LT u z f) = some (some (vI (-1)), LT u z f) := by
  have go : ∀ res, _ → mcall (d + 3) 173 [vR 0, vI x1] (LT u z f) = some res := fun res H => mcall_i (mq173 (cu := [])).2.2 rfl (vc173_0 (mcall (d + 2)) x1 z f res H)
  have h : ¬ x1 = -1 := im1n (by omega)
  refine go _ ?_
  repeat' first
    | exact ⟨_, _, _, c_tl0_f d _ hz, rfl⟩
    | contradiction
    | (exfalso; omega)
    | refine ⟨fun q => ?_, fun q => ?_⟩
set_option maxRecDepth 100000 in
theorem b164_1 (call : QC FA) (x1 : Int32) (z : Nat → Int32) (f : Nat → FA) (F : Nat) : rnG call 164 (F + 5) 0 [some (vR 0), some (vI x1)] [] (LT u z f) = rnG call 164 F 5 [some (vR 0), some (vI x1)] [vI ((-1)), vI x1, vI 1, vR 1] (LT u z f) := rfl
set_option maxRecDepth 100000 in
theorem b164_2 (call : QC FA) (x y : Int32) (s0 : Int32) (ls : List (Option PV)) (L : QH FA) (F : Nat) : rnG call 164 (F + 1) 5 ls [vI y, vI x, vI s0, vR 1] L = bif pcmp 1 x y then rnG call 164 F 8 ls [vI s0, vR 1] L else rnG call 164 F 6 ls [vI s0, vR 1] L := rfl
set_option maxRecDepth 100000 in
theorem b164_3 (call : QC FA) (x1 : Int32) (s0 : Int32) (L : QH FA) (F : Nat) : rnG call 164 (F + 2) 8 [some (vR 0), some (vI x1)] [vI s0, vR 1] L = rnG call 164 F 10 [some (vR 0), some (vI x1)] [vI x1, vI 0, vI s0, vR 1] L := rfl
set_option maxRecDepth 100000 in
theorem b164_4 (call : QC FA) (x : Int32) (s0 : Int32) (s1 : Int32) (ls : List (Option PV)) (L : QH FA) (F : Nat) : rnG call 164 (F + 1) 10 ls [vI x, vI s0, vI s1, vR 1] L = bif pcmp 0 x 0 then rnG call 164 F 14 ls [vI s0, vI s1, vR 1] L else rnG call 164 F 11 ls [vI s0, vI s1, vR 1] L := rfl
set_option maxRecDepth 100000 in
theorem b164_5 (call : QC FA) (x1 : Int32) (s0 : Int32) (s1 : Int32) (L : QH FA) (F : Nat) : rnG call 164 (F + 3) 14 [some (vR 0), some (vI x1)] [vI s0, vI s1, vR 1] L = rnG call 164 F 18 [some (vR 0), some (vI x1)] [vI x1, vI 1, vI s0, vI s1, vR 1] L := rfl
set_option maxRecDepth 100000 in
theorem b164_6 (call : QC FA) (a0 : Int32) (a1 : Int32) (a2 : Int32) (a3 : Int32) (ls : List (Option PV)) (z : Nat → Int32) (f : Nat → FA) (F : Nat) : rnG call 164 (F + 1) 18 ls [vI a3, vI a2, vI a1, vI a0, vR 1] (LT u z f) = cbd (call 147 [vR 1, vI a0, vI a1, vI a2, vI a3] (LT u z f)) (fun r L' => rnG call 164 F 19 ls (r.toList ++ []) L') := pcY (ih := rnG call 164 F) (call := call) (a := 147) (b := 4) (v := 10) (t := 19) (x := 1) (ls := ls) (As := [vI a0, vI a1, vI a2, vI a3]) (st' := []) (L := LT u z f) rfl rfl rfl
set_option maxRecDepth 100000 in
theorem b164_7 (call : QC FA) (x : Int32) (ls : List (Option PV)) (L : QH FA) (F : Nat) : rnG call 164 (F + 1) 19 ls [vI x] L = some (some (vI x), L) := rfl
set_option maxRecDepth 100000 in
theorem b164_8 (call : QC FA) (x1 : Int32) (s0 : Int32) (s1 : Int32) (L : QH FA) (F : Nat) : rnG call 164 (F + 2) 11 [some (vR 0), some (vI x1)] [vI s0, vI s1, vR 1] L = rnG call 164 F 13 [some (vR 0), some (vI x1)] [vI 1, vI x1, vI s0, vI s1, vR 1] L := rfl
set_option maxRecDepth 100000 in
theorem b164_9 (call : QC FA) (x y : Int32) (s0 : Int32) (s1 : Int32) (ls : List (Option PV)) (L : QH FA) (F : Nat) : rnG call 164 (F + 1) 13 ls [vI y, vI x, vI s0, vI s1, vR 1] L = bif pcmp 1 x y then rnG call 164 F 16 ls [vI s0, vI s1, vR 1] L else rnG call 164 F 14 ls [vI s0, vI s1, vR 1] L := rfl
set_option maxRecDepth 100000 in
theorem b164_10 (call : QC FA) (x1 : Int32) (s0 : Int32) (s1 : Int32) (L : QH FA) (F : Nat) : rnG call 164 (F + 2) 16 [some (vR 0), some (vI x1)] [vI s0, vI s1, vR 1] L = rnG call 164 F 18 [some (vR 0), some (vI x1)] [vI x1, vI 0, vI s0, vI s1, vR 1] L := rfl
set_option maxRecDepth 100000 in
theorem b164_11 (call : QC FA) (x1 : Int32) (s0 : Int32) (L : QH FA) (F : Nat) : rnG call 164 (F + 3) 6 [some (vR 0), some (vI x1)] [vI s0, vR 1] L = rnG call 164 F 10 [some (vR 0), some (vI x1)] [vI x1, vI 1, vI s0, vR 1] L := rfl
theorem vc164_0 (call : QC FA) (x1 : Int32) (z : Nat → Int32) (f : Nat → FA) (res : Option PV × QH FA) (H : ((¬ x1 = (-1) → ((x1 = 0 → (∃ (r1 : Int32) (z1 : Nat → Int32) (f1 : Nat → FA), call 147 [vR 1, vI 1, vI 0, vI 1, vI x1] (LT u z f) = some (some (vI r1), LT u z1 f1) ∧ res = (some (vI r1), LT u z1 f1))) ∧ (¬ x1 = 0 → ((¬ x1 = 1 → (∃ (r2 : Int32) (z2 : Nat → Int32) (f2 : Nat → FA), call 147 [vR 1, vI 1, vI 0, vI 0, vI x1] (LT u z f) = some (some (vI r2), LT u z2 f2) ∧ res = (some (vI r2), LT u z2 f2))) ∧ (x1 = 1 → (∃ (r3 : Int32) (z3 : Nat → Int32) (f3 : Nat → FA), call 147 [vR 1, vI 1, vI 0, vI 1, vI x1] (LT u z f) = some (some (vI r3), LT u z3 f3) ∧ res = (some (vI r3), LT u z3 f3))))))) ∧ (x1 = (-1) → ((x1 = 0 → (∃ (r4 : Int32) (z4 : Nat → Int32) (f4 : Nat → FA), call 147 [vR 1, vI 1, vI 1, vI 1, vI x1] (LT u z f) = some (some (vI r4), LT u z4 f4) ∧ res = (some (vI r4), LT u z4 f4))) ∧ (¬ x1 = 0 → ((¬ x1 = 1 → (∃ (r5 : Int32) (z5 : Nat → Int32) (f5 : Nat → FA), call 147 [vR 1, vI 1, vI 1, vI 0, vI x1] (LT u z f) = some (some (vI r5), LT u z5 f5) ∧ res = (some (vI r5), LT u z5 f5))) ∧ (x1 = 1 → (∃ (r6 : Int32) (z6 : Nat → Int32) (f6 : Nat → FA), call 147 [vR 1, vI 1, vI 1, vI 1, vI x1] (LT u z f) = some (some (vI r6), LT u z6 f6) ∧ res = (some (vI r6), LT u z6 f6))))))))) : RC call (mP 164) 0 [some (vR 0), some (vI x1)] [] (LT u z f) res := by
  refine rc_b (i' := 5) (ls' := [some (vR 0), some (vI x1)]) (st' := [vI ((-1)), vI x1, vI 1, vR 1]) (L' := LT u z f) 5 (b164_1 call x1 z f) ?_
  refine rc_if (it := 8) (ie := 6) (ls' := [some (vR 0), some (vI x1)]) (st' := [vI 1, vR 1]) (b164_2 call x1 ((-1)) 1 _ _) (fun q1 => ?_) (fun q1 => ?_)
  · have H := H.1 (cI1t q1)
    refine rc_b (i' := 10) (ls' := [some (vR 0), some (vI x1)]) (st' := [vI x1, vI 0, vI 1, vR 1]) (L' := LT u z f) 2 (b164_3 call x1 1 _) ?_
    refine rc_if (it := 14) (ie := 11) (ls' := [some (vR 0), some (vI x1)]) (st' := [vI 0, vI 1, vR 1]) (b164_4 call x1 0 1 _ _) (fun q2 => ?_) (fun q2 => ?_)
    · have H := H.1 (cI0t q2)
      refine rc_b (i' := 18) (ls' := [some (vR 0), some (vI x1)]) (st' := [vI x1, vI 1, vI 0, vI 1, vR 1]) (L' := LT u z f) 3 (b164_5 call x1 0 1 _) ?_
      obtain ⟨r1, z1, f1, hc, H⟩ := H
      refine rc_call (t := 19) (ls' := [some (vR 0), some (vI x1)]) (st' := []) (b164_6 call 1 0 1 x1 _ z f) hc ?_
      show RC call (mP 164) 19 [some (vR 0), some (vI x1)] [vI r1] (LT u z1 f1) res
      subst H
      exact rc_ret (b164_7 call _ _ _)
    · have H := H.2 (cI0f q2)
      refine rc_b (i' := 13) (ls' := [some (vR 0), some (vI x1)]) (st' := [vI 1, vI x1, vI 0, vI 1, vR 1]) (L' := LT u z f) 2 (b164_8 call x1 0 1 _) ?_
      refine rc_if (it := 16) (ie := 14) (ls' := [some (vR 0), some (vI x1)]) (st' := [vI 0, vI 1, vR 1]) (b164_9 call x1 1 0 1 _ _) (fun q3 => ?_) (fun q3 => ?_)
      · have H := H.1 (cI1t q3)
        refine rc_b (i' := 18) (ls' := [some (vR 0), some (vI x1)]) (st' := [vI x1, vI 0, vI 0, vI 1, vR 1]) (L' := LT u z f) 2 (b164_10 call x1 0 1 _) ?_
        obtain ⟨r2, z2, f2, hc, H⟩ := H
        refine rc_call (t := 19) (ls' := [some (vR 0), some (vI x1)]) (st' := []) (b164_6 call 1 0 0 x1 _ z f) hc ?_
        show RC call (mP 164) 19 [some (vR 0), some (vI x1)] [vI r2] (LT u z2 f2) res
        subst H
        exact rc_ret (b164_7 call _ _ _)
      · have H := H.2 (cI1f q3)
        refine rc_b (i' := 18) (ls' := [some (vR 0), some (vI x1)]) (st' := [vI x1, vI 1, vI 0, vI 1, vR 1]) (L' := LT u z f) 3 (b164_5 call x1 0 1 _) ?_
        obtain ⟨r3, z3, f3, hc, H⟩ := H
        refine rc_call (t := 19) (ls' := [some (vR 0), some (vI x1)]) (st' := []) (b164_6 call 1 0 1 x1 _ z f) hc ?_
        show RC call (mP 164) 19 [some (vR 0), some (vI x1)] [vI r3] (LT u z3 f3) res
        subst H
        exact rc_ret (b164_7 call _ _ _)
  · have H := H.2 (cI1f q1)
    refine rc_b (i' := 10) (ls' := [some (vR 0), some (vI x1)]) (st' := [vI x1, vI 1, vI 1, vR 1]) (L' := LT u z f) 3 (b164_11 call x1 1 _) ?_
    refine rc_if (it := 14) (ie := 11) (ls' := [some (vR 0), some (vI x1)]) (st' := [vI 1, vI 1, vR 1]) (b164_4 call x1 1 1 _ _) (fun q4 => ?_) (fun q4 => ?_)
    · have H := H.1 (cI0t q4)
      refine rc_b (i' := 18) (ls' := [some (vR 0), some (vI x1)]) (st' := [vI x1, vI 1, vI 1, vI 1, vR 1]) (L' := LT u z f) 3 (b164_5 call x1 1 1 _) ?_
      obtain ⟨r4, z4, f4, hc, H⟩ := H
      refine rc_call (t := 19) (ls' := [some (vR 0), some (vI x1)]) (st' := []) (b164_6 call 1 1 1 x1 _ z f) hc ?_
      show RC call (mP 164) 19 [some (vR 0), some (vI x1)] [vI r4] (LT u z4 f4) res
      subst H
      exact rc_ret (b164_7 call _ _ _)
    · have H := H.2 (cI0f q4)
      refine rc_b (i' := 13) (ls' := [some (vR 0), some (vI x1)]) (st' := [vI 1, vI x1, vI 1, vI 1, vR 1]) (L' := LT u z f) 2 (b164_8 call x1 1 1 _) ?_
      refine rc_if (it := 16) (ie := 14) (ls' := [some (vR 0), some (vI x1)]) (st' := [vI 1, vI 1, vR 1]) (b164_9 call x1 1 1 1 _ _) (fun q5 => ?_) (fun q5 => ?_)
      · have H := H.1 (cI1t q5)
        refine rc_b (i' := 18) (ls' := [some (vR 0), some (vI x1)]) (st' := [vI x1, vI 0, vI 1, vI 1, vR 1]) (L' := LT u z f) 2 (b164_10 call x1 1 1 _) ?_
        obtain ⟨r5, z5, f5, hc, H⟩ := H
        refine rc_call (t := 19) (ls' := [some (vR 0), some (vI x1)]) (st' := []) (b164_6 call 1 1 0 x1 _ z f) hc ?_
        show RC call (mP 164) 19 [some (vR 0), some (vI x1)] [vI r5] (LT u z5 f5) res
        subst H
        exact rc_ret (b164_7 call _ _ _)
      · have H := H.2 (cI1f q5)
        refine rc_b (i' := 18) (ls' := [some (vR 0), some (vI x1)]) (st' := [vI x1, vI 1, vI 1, vI 1, vR 1]) (L' := LT u z f) 3 (b164_5 call x1 1 1 _) ?_
        obtain ⟨r6, z6, f6, hc, H⟩ := H
        refine rc_call (t := 19) (ls' := [some (vR 0), some (vI x1)]) (st' := []) (b164_6 call 1 1 1 x1 _ z f) hc ?_
        show RC call (mP 164) 19 [some (vR 0), some (vI x1)] [vI r6] (LT u z6 f6) res
        subst H
        exact rc_ret (b164_7 call _ _ _)
theorem c_house_e (d : Nat) {x1 : Int32} {z : Nat → Int32} {f : Nat → FA} (h : x1 = -1) : mcall (d + 3) 164 [vR 0, vI x1] (LT u z f) = some (some (vI 0), LT u (uZ z 5 0) f) := by
  have go : ∀ res, _ → mcall (d + 3) 164 [vR 0, vI x1] (LT u z f) = some res := fun res H => mcall_i (mq164 (cu := [])).2.2 rfl (vc164_0 (mcall (d + 2)) x1 z f res H)
  have hI := im1 h
  have n0 : ¬ x1 = 0 := in0 (by omega)
  have n1 : ¬ x1 = 1 := in1 (by omega)
  refine go _ ?_
  repeat' first
    | exact ⟨_, _, _, c_tl1_e d _ _, rfl⟩
    | contradiction
    | (exfalso; omega)
    | refine ⟨fun q => ?_, fun q => ?_⟩
theorem c_house_r (d : Nat) {x1 : Int32} {z : Nat → Int32} {f : Nat → FA} (h : ¬ x1 = -1) (hb : ¬ (0 ≤ I x1 ∧ I x1 ≤ 1)) : mcall (d + 3) 164 [vR 0, vI x1] (LT u z f) = some (some (vI (-1)), LT u z f) := by
  have go : ∀ res, _ → mcall (d + 3) 164 [vR 0, vI x1] (LT u z f) = some res := fun res H => mcall_i (mq164 (cu := [])).2.2 rfl (vc164_0 (mcall (d + 2)) x1 z f res H)
  have n0 : ¬ x1 = 0 := in0 (by omega)
  have n1 : ¬ x1 = 1 := in1 (by omega)
  refine go _ ?_
  repeat' first
    | exact ⟨_, _, _, c_tl1_r d _, rfl⟩
    | contradiction
    | (exfalso; omega)
    | refine ⟨fun q => ?_, fun q => ?_⟩
theorem c_house_p (d : Nat) {x1 : Int32} {z : Nat → Int32} {f : Nat → FA} {n : Nat} (hb : 0 ≤ I x1 ∧ I x1 ≤ 1) (hz : z 5 = nI n) (hn : n < 16) : mcall (d + 3) 164 [vR 0, vI x1] (LT u z f) = some (some (vI (nI (n + 1))), LT u (uZ z 5 (nI (n + 1))) (uA f 6 (upd (f 6) n x1))) := by
  have go : ∀ res, _ → mcall (d + 3) 164 [vR 0, vI x1] (LT u z f) = some res := fun res H => mcall_i (mq164 (cu := [])).2.2 rfl (vc164_0 (mcall (d + 2)) x1 z f res H)
  have h : ¬ x1 = -1 := im1n (by omega)
  by_cases c0 : x1 = 0
  · have n1 : ¬ x1 = 1 := fun q => by rw [c0] at q; exact absurd q (by decide)
    refine go _ ?_
    repeat' first
      | exact ⟨_, _, _, c_tl1_p d _ hz hn, rfl⟩
      | contradiction
      | (exfalso; omega)
      | refine ⟨fun q => ?_, fun q => ?_⟩
  · have n1 : x1 = 1 := ie1 (by have : ¬ I x1 = 0 := fun q => c0 (ie0 q); omega)
    refine go _ ?_
    repeat' first
      | exact ⟨_, _, _, c_tl1_p d _ hz hn, rfl⟩
      | contradiction
      | (exfalso; omega)
      | refine ⟨fun q => ?_, fun q => ?_⟩
theorem c_house_f (d : Nat) {x1 : Int32} {z : Nat → Int32} {f : Nat → FA} (hb : 0 ≤ I x1 ∧ I x1 ≤ 1) (hz : z 5 = nI 16) : mcall (d + 3) 164 [vR 0, vI x1] (LT u z f) = some (some (vI (-1)), LT u z f) := by
  have go : ∀ res, _ → mcall (d + 3) 164 [vR 0, vI x1] (LT u z f) = some res := fun res H => mcall_i (mq164 (cu := [])).2.2 rfl (vc164_0 (mcall (d + 2)) x1 z f res H)
  have h : ¬ x1 = -1 := im1n (by omega)
  by_cases c0 : x1 = 0
  · have n1 : ¬ x1 = 1 := fun q => by rw [c0] at q; exact absurd q (by decide)
    refine go _ ?_
    repeat' first
      | exact ⟨_, _, _, c_tl1_f d _ hz, rfl⟩
      | contradiction
      | (exfalso; omega)
      | refine ⟨fun q => ?_, fun q => ?_⟩
  · have n1 : x1 = 1 := ie1 (by have : ¬ I x1 = 0 := fun q => c0 (ie0 q); omega)
    refine go _ ?_
    repeat' first
      | exact ⟨_, _, _, c_tl1_f d _ hz, rfl⟩
      | contradiction
      | (exfalso; omega)
      | refine ⟨fun q => ?_, fun q => ?_⟩
set_option maxRecDepth 100000 in
theorem b186_1 (call : QC FA) (x1 : Int32) (z : Nat → Int32) (f : Nat → FA) (F : Nat) : rnG call 186 (F + 5) 0 [some (vR 0), some (vI x1)] [] (LT u z f) = rnG call 186 F 5 [some (vR 0), some (vI x1)] [vI ((-1)), vI x1, vI 2, vR 1] (LT u z f) := rfl
set_option maxRecDepth 100000 in
theorem b186_2 (call : QC FA) (x y : Int32) (s0 : Int32) (ls : List (Option PV)) (L : QH FA) (F : Nat) : rnG call 186 (F + 1) 5 ls [vI y, vI x, vI s0, vR 1] L = bif pcmp 1 x y then rnG call 186 F 8 ls [vI s0, vR 1] L else rnG call 186 F 6 ls [vI s0, vR 1] L := rfl
set_option maxRecDepth 100000 in
theorem b186_3 (call : QC FA) (x1 : Int32) (s0 : Int32) (L : QH FA) (F : Nat) : rnG call 186 (F + 2) 8 [some (vR 0), some (vI x1)] [vI s0, vR 1] L = rnG call 186 F 10 [some (vR 0), some (vI x1)] [vI x1, vI 0, vI s0, vR 1] L := rfl
set_option maxRecDepth 100000 in
theorem b186_4 (call : QC FA) (x : Int32) (s0 : Int32) (s1 : Int32) (ls : List (Option PV)) (L : QH FA) (F : Nat) : rnG call 186 (F + 1) 10 ls [vI x, vI s0, vI s1, vR 1] L = bif pcmp 2 x 0 then rnG call 186 F 16 ls [vI s0, vI s1, vR 1] L else rnG call 186 F 11 ls [vI s0, vI s1, vR 1] L := rfl
set_option maxRecDepth 100000 in
theorem b186_5 (call : QC FA) (x1 : Int32) (s0 : Int32) (s1 : Int32) (L : QH FA) (F : Nat) : rnG call 186 (F + 2) 16 [some (vR 0), some (vI x1)] [vI s0, vI s1, vR 1] L = rnG call 186 F 18 [some (vR 0), some (vI x1)] [vI x1, vI 0, vI s0, vI s1, vR 1] L := rfl
set_option maxRecDepth 100000 in
theorem b186_6 (call : QC FA) (a0 : Int32) (a1 : Int32) (a2 : Int32) (a3 : Int32) (ls : List (Option PV)) (z : Nat → Int32) (f : Nat → FA) (F : Nat) : rnG call 186 (F + 1) 18 ls [vI a3, vI a2, vI a1, vI a0, vR 1] (LT u z f) = cbd (call 147 [vR 1, vI a0, vI a1, vI a2, vI a3] (LT u z f)) (fun r L' => rnG call 186 F 19 ls (r.toList ++ []) L') := pcY (ih := rnG call 186 F) (call := call) (a := 147) (b := 4) (v := 10) (t := 19) (x := 1) (ls := ls) (As := [vI a0, vI a1, vI a2, vI a3]) (st' := []) (L := LT u z f) rfl rfl rfl
set_option maxRecDepth 100000 in
theorem b186_7 (call : QC FA) (x : Int32) (ls : List (Option PV)) (L : QH FA) (F : Nat) : rnG call 186 (F + 1) 19 ls [vI x] L = some (some (vI x), L) := rfl
set_option maxRecDepth 100000 in
theorem b186_8 (call : QC FA) (x1 : Int32) (s0 : Int32) (s1 : Int32) (L : QH FA) (F : Nat) : rnG call 186 (F + 2) 11 [some (vR 0), some (vI x1)] [vI s0, vI s1, vR 1] L = rnG call 186 F 13 [some (vR 0), some (vI x1)] [vI 99, vI x1, vI s0, vI s1, vR 1] L := rfl
set_option maxRecDepth 100000 in
theorem b186_9 (call : QC FA) (x y : Int32) (s0 : Int32) (s1 : Int32) (ls : List (Option PV)) (L : QH FA) (F : Nat) : rnG call 186 (F + 1) 13 ls [vI y, vI x, vI s0, vI s1, vR 1] L = bif pcmp 4 x y then rnG call 186 F 16 ls [vI s0, vI s1, vR 1] L else rnG call 186 F 14 ls [vI s0, vI s1, vR 1] L := rfl
set_option maxRecDepth 100000 in
theorem b186_10 (call : QC FA) (x1 : Int32) (s0 : Int32) (s1 : Int32) (L : QH FA) (F : Nat) : rnG call 186 (F + 3) 14 [some (vR 0), some (vI x1)] [vI s0, vI s1, vR 1] L = rnG call 186 F 18 [some (vR 0), some (vI x1)] [vI x1, vI 1, vI s0, vI s1, vR 1] L := rfl
set_option maxRecDepth 100000 in
theorem b186_11 (call : QC FA) (x1 : Int32) (s0 : Int32) (L : QH FA) (F : Nat) : rnG call 186 (F + 3) 6 [some (vR 0), some (vI x1)] [vI s0, vR 1] L = rnG call 186 F 10 [some (vR 0), some (vI x1)] [vI x1, vI 1, vI s0, vR 1] L := rfl
theorem vc186_0 (call : QC FA) (x1 : Int32) (z : Nat → Int32) (f : Nat → FA) (res : Option PV × QH FA) (H : ((¬ x1 = (-1) → ((I x1 < 0 → (∃ (r1 : Int32) (z1 : Nat → Int32) (f1 : Nat → FA), call 147 [vR 1, vI 2, vI 0, vI 0, vI x1] (LT u z f) = some (some (vI r1), LT u z1 f1) ∧ res = (some (vI r1), LT u z1 f1))) ∧ (0 ≤ I x1 → ((99 < I x1 → (∃ (r2 : Int32) (z2 : Nat → Int32) (f2 : Nat → FA), call 147 [vR 1, vI 2, vI 0, vI 0, vI x1] (LT u z f) = some (some (vI r2), LT u z2 f2) ∧ res = (some (vI r2), LT u z2 f2))) ∧ (I x1 ≤ 99 → (∃ (r3 : Int32) (z3 : Nat → Int32) (f3 : Nat → FA), call 147 [vR 1, vI 2, vI 0, vI 1, vI x1] (LT u z f) = some (some (vI r3), LT u z3 f3) ∧ res = (some (vI r3), LT u z3 f3))))))) ∧ (x1 = (-1) → ((I x1 < 0 → (∃ (r4 : Int32) (z4 : Nat → Int32) (f4 : Nat → FA), call 147 [vR 1, vI 2, vI 1, vI 0, vI x1] (LT u z f) = some (some (vI r4), LT u z4 f4) ∧ res = (some (vI r4), LT u z4 f4))) ∧ (0 ≤ I x1 → ((99 < I x1 → (∃ (r5 : Int32) (z5 : Nat → Int32) (f5 : Nat → FA), call 147 [vR 1, vI 2, vI 1, vI 0, vI x1] (LT u z f) = some (some (vI r5), LT u z5 f5) ∧ res = (some (vI r5), LT u z5 f5))) ∧ (I x1 ≤ 99 → (∃ (r6 : Int32) (z6 : Nat → Int32) (f6 : Nat → FA), call 147 [vR 1, vI 2, vI 1, vI 1, vI x1] (LT u z f) = some (some (vI r6), LT u z6 f6) ∧ res = (some (vI r6), LT u z6 f6))))))))) : RC call (mP 186) 0 [some (vR 0), some (vI x1)] [] (LT u z f) res := by
  refine rc_b (i' := 5) (ls' := [some (vR 0), some (vI x1)]) (st' := [vI ((-1)), vI x1, vI 2, vR 1]) (L' := LT u z f) 5 (b186_1 call x1 z f) ?_
  refine rc_if (it := 8) (ie := 6) (ls' := [some (vR 0), some (vI x1)]) (st' := [vI 2, vR 1]) (b186_2 call x1 ((-1)) 2 _ _) (fun q1 => ?_) (fun q1 => ?_)
  · have H := H.1 (cI1t q1)
    refine rc_b (i' := 10) (ls' := [some (vR 0), some (vI x1)]) (st' := [vI x1, vI 0, vI 2, vR 1]) (L' := LT u z f) 2 (b186_3 call x1 2 _) ?_
    refine rc_if (it := 16) (ie := 11) (ls' := [some (vR 0), some (vI x1)]) (st' := [vI 0, vI 2, vR 1]) (b186_4 call x1 0 2 _ _) (fun q2 => ?_) (fun q2 => ?_)
    · have H := H.1 (cI2t q2 rfl rfl)
      refine rc_b (i' := 18) (ls' := [some (vR 0), some (vI x1)]) (st' := [vI x1, vI 0, vI 0, vI 2, vR 1]) (L' := LT u z f) 2 (b186_5 call x1 0 2 _) ?_
      obtain ⟨r1, z1, f1, hc, H⟩ := H
      refine rc_call (t := 19) (ls' := [some (vR 0), some (vI x1)]) (st' := []) (b186_6 call 2 0 0 x1 _ z f) hc ?_
      show RC call (mP 186) 19 [some (vR 0), some (vI x1)] [vI r1] (LT u z1 f1) res
      subst H
      exact rc_ret (b186_7 call _ _ _)
    · have H := H.2 (cI2f q2 rfl rfl)
      refine rc_b (i' := 13) (ls' := [some (vR 0), some (vI x1)]) (st' := [vI 99, vI x1, vI 0, vI 2, vR 1]) (L' := LT u z f) 2 (b186_8 call x1 0 2 _) ?_
      refine rc_if (it := 16) (ie := 14) (ls' := [some (vR 0), some (vI x1)]) (st' := [vI 0, vI 2, vR 1]) (b186_9 call x1 99 0 2 _ _) (fun q3 => ?_) (fun q3 => ?_)
      · have H := H.1 (cI4t q3 rfl rfl)
        refine rc_b (i' := 18) (ls' := [some (vR 0), some (vI x1)]) (st' := [vI x1, vI 0, vI 0, vI 2, vR 1]) (L' := LT u z f) 2 (b186_5 call x1 0 2 _) ?_
        obtain ⟨r2, z2, f2, hc, H⟩ := H
        refine rc_call (t := 19) (ls' := [some (vR 0), some (vI x1)]) (st' := []) (b186_6 call 2 0 0 x1 _ z f) hc ?_
        show RC call (mP 186) 19 [some (vR 0), some (vI x1)] [vI r2] (LT u z2 f2) res
        subst H
        exact rc_ret (b186_7 call _ _ _)
      · have H := H.2 (cI4f q3 rfl rfl)
        refine rc_b (i' := 18) (ls' := [some (vR 0), some (vI x1)]) (st' := [vI x1, vI 1, vI 0, vI 2, vR 1]) (L' := LT u z f) 3 (b186_10 call x1 0 2 _) ?_
        obtain ⟨r3, z3, f3, hc, H⟩ := H
        refine rc_call (t := 19) (ls' := [some (vR 0), some (vI x1)]) (st' := []) (b186_6 call 2 0 1 x1 _ z f) hc ?_
        show RC call (mP 186) 19 [some (vR 0), some (vI x1)] [vI r3] (LT u z3 f3) res
        subst H
        exact rc_ret (b186_7 call _ _ _)
  · have H := H.2 (cI1f q1)
    refine rc_b (i' := 10) (ls' := [some (vR 0), some (vI x1)]) (st' := [vI x1, vI 1, vI 2, vR 1]) (L' := LT u z f) 3 (b186_11 call x1 2 _) ?_
    refine rc_if (it := 16) (ie := 11) (ls' := [some (vR 0), some (vI x1)]) (st' := [vI 1, vI 2, vR 1]) (b186_4 call x1 1 2 _ _) (fun q4 => ?_) (fun q4 => ?_)
    · have H := H.1 (cI2t q4 rfl rfl)
      refine rc_b (i' := 18) (ls' := [some (vR 0), some (vI x1)]) (st' := [vI x1, vI 0, vI 1, vI 2, vR 1]) (L' := LT u z f) 2 (b186_5 call x1 1 2 _) ?_
      obtain ⟨r4, z4, f4, hc, H⟩ := H
      refine rc_call (t := 19) (ls' := [some (vR 0), some (vI x1)]) (st' := []) (b186_6 call 2 1 0 x1 _ z f) hc ?_
      show RC call (mP 186) 19 [some (vR 0), some (vI x1)] [vI r4] (LT u z4 f4) res
      subst H
      exact rc_ret (b186_7 call _ _ _)
    · have H := H.2 (cI2f q4 rfl rfl)
      refine rc_b (i' := 13) (ls' := [some (vR 0), some (vI x1)]) (st' := [vI 99, vI x1, vI 1, vI 2, vR 1]) (L' := LT u z f) 2 (b186_8 call x1 1 2 _) ?_
      refine rc_if (it := 16) (ie := 14) (ls' := [some (vR 0), some (vI x1)]) (st' := [vI 1, vI 2, vR 1]) (b186_9 call x1 99 1 2 _ _) (fun q5 => ?_) (fun q5 => ?_)
      · have H := H.1 (cI4t q5 rfl rfl)
        refine rc_b (i' := 18) (ls' := [some (vR 0), some (vI x1)]) (st' := [vI x1, vI 0, vI 1, vI 2, vR 1]) (L' := LT u z f) 2 (b186_5 call x1 1 2 _) ?_
        obtain ⟨r5, z5, f5, hc, H⟩ := H
        refine rc_call (t := 19) (ls' := [some (vR 0), some (vI x1)]) (st' := []) (b186_6 call 2 1 0 x1 _ z f) hc ?_
        show RC call (mP 186) 19 [some (vR 0), some (vI x1)] [vI r5] (LT u z5 f5) res
        subst H
        exact rc_ret (b186_7 call _ _ _)
      · have H := H.2 (cI4f q5 rfl rfl)
        refine rc_b (i' := 18) (ls' := [some (vR 0), some (vI x1)]) (st' := [vI x1, vI 1, vI 1, vI 2, vR 1]) (L' := LT u z f) 3 (b186_10 call x1 1 2 _) ?_
        obtain ⟨r6, z6, f6, hc, H⟩ := H
        refine rc_call (t := 19) (ls' := [some (vR 0), some (vI x1)]) (st' := []) (b186_6 call 2 1 1 x1 _ z f) hc ?_
        show RC call (mP 186) 19 [some (vR 0), some (vI x1)] [vI r6] (LT u z6 f6) res
        subst H
        exact rc_ret (b186_7 call _ _ _)
theorem c_wish_e (d : Nat) {x1 : Int32} {z : Nat → Int32} {f : Nat → FA} (h : x1 = -1) : mcall (d + 3) 186 [vR 0, vI x1] (LT u z f) = some (some (vI 0), LT u (uZ z 7 0) f) := by
  have go : ∀ res, _ → mcall (d + 3) 186 [vR 0, vI x1] (LT u z f) = some res := fun res H => mcall_i (mq186 (cu := [])).2.2 rfl (vc186_0 (mcall (d + 2)) x1 z f res H)
  have hI := im1 h
  have n0 : ¬ x1 = 0 := in0 (by omega)
  have n1 : ¬ x1 = 1 := in1 (by omega)
  refine go _ ?_
  repeat' first
    | exact ⟨_, _, _, c_tl2_e d _ _, rfl⟩
    | contradiction
    | (exfalso; omega)
    | refine ⟨fun q => ?_, fun q => ?_⟩
theorem c_wish_r (d : Nat) {x1 : Int32} {z : Nat → Int32} {f : Nat → FA} (h : ¬ x1 = -1) (hb : ¬ (0 ≤ I x1 ∧ I x1 ≤ 99)) : mcall (d + 3) 186 [vR 0, vI x1] (LT u z f) = some (some (vI (-1)), LT u z f) := by
  have go : ∀ res, _ → mcall (d + 3) 186 [vR 0, vI x1] (LT u z f) = some res := fun res H => mcall_i (mq186 (cu := [])).2.2 rfl (vc186_0 (mcall (d + 2)) x1 z f res H)
  refine go _ ?_
  repeat' first
    | exact ⟨_, _, _, c_tl2_r d _, rfl⟩
    | contradiction
    | (exfalso; omega)
    | refine ⟨fun q => ?_, fun q => ?_⟩
theorem c_wish_p (d : Nat) {x1 : Int32} {z : Nat → Int32} {f : Nat → FA} {n : Nat} (hb : 0 ≤ I x1 ∧ I x1 ≤ 99) (hz : z 7 = nI n) (hn : n < 15) : mcall (d + 3) 186 [vR 0, vI x1] (LT u z f) = some (some (vI (nI (n + 1))), LT u (uZ z 7 (nI (n + 1))) (uA f 8 (upd (f 8) n x1))) := by
  have go : ∀ res, _ → mcall (d + 3) 186 [vR 0, vI x1] (LT u z f) = some res := fun res H => mcall_i (mq186 (cu := [])).2.2 rfl (vc186_0 (mcall (d + 2)) x1 z f res H)
  have h : ¬ x1 = -1 := im1n (by omega)
  refine go _ ?_
  repeat' first
    | exact ⟨_, _, _, c_tl2_p d _ hz hn, rfl⟩
    | contradiction
    | (exfalso; omega)
    | refine ⟨fun q => ?_, fun q => ?_⟩
theorem c_wish_f (d : Nat) {x1 : Int32} {z : Nat → Int32} {f : Nat → FA} (hb : 0 ≤ I x1 ∧ I x1 ≤ 99) (hz : z 7 = nI 15) : mcall (d + 3) 186 [vR 0, vI x1] (LT u z f) = some (some (vI (-1)), LT u z f) := by
  have go : ∀ res, _ → mcall (d + 3) 186 [vR 0, vI x1] (LT u z f) = some res := fun res H => mcall_i (mq186 (cu := [])).2.2 rfl (vc186_0 (mcall (d + 2)) x1 z f res H)
  have h : ¬ x1 = -1 := im1n (by omega)
  refine go _ ?_
  repeat' first
    | exact ⟨_, _, _, c_tl2_f d _ hz, rfl⟩
    | contradiction
    | (exfalso; omega)
    | refine ⟨fun q => ?_, fun q => ?_⟩
set_option maxRecDepth 100000 in
theorem b170_1 (call : QC FA) (x1 : Int32) (z : Nat → Int32) (f : Nat → FA) (F : Nat) : rnG call 170 (F + 5) 0 [some (vR 0), some (vI x1)] [] (LT u z f) = rnG call 170 F 5 [some (vR 0), some (vI x1)] [vI ((-1)), vI x1, vI 3, vR 1] (LT u z f) := rfl
set_option maxRecDepth 100000 in
theorem b170_2 (call : QC FA) (x y : Int32) (s0 : Int32) (ls : List (Option PV)) (L : QH FA) (F : Nat) : rnG call 170 (F + 1) 5 ls [vI y, vI x, vI s0, vR 1] L = bif pcmp 1 x y then rnG call 170 F 8 ls [vI s0, vR 1] L else rnG call 170 F 6 ls [vI s0, vR 1] L := rfl
set_option maxRecDepth 100000 in
theorem b170_3 (call : QC FA) (x1 : Int32) (s0 : Int32) (L : QH FA) (F : Nat) : rnG call 170 (F + 2) 8 [some (vR 0), some (vI x1)] [vI s0, vR 1] L = rnG call 170 F 10 [some (vR 0), some (vI x1)] [vI x1, vI 0, vI s0, vR 1] L := rfl
set_option maxRecDepth 100000 in
theorem b170_4 (call : QC FA) (x : Int32) (s0 : Int32) (s1 : Int32) (ls : List (Option PV)) (L : QH FA) (F : Nat) : rnG call 170 (F + 1) 10 ls [vI x, vI s0, vI s1, vR 1] L = bif pcmp 2 x 0 then rnG call 170 F 16 ls [vI s0, vI s1, vR 1] L else rnG call 170 F 11 ls [vI s0, vI s1, vR 1] L := rfl
set_option maxRecDepth 100000 in
theorem b170_5 (call : QC FA) (x1 : Int32) (s0 : Int32) (s1 : Int32) (L : QH FA) (F : Nat) : rnG call 170 (F + 2) 16 [some (vR 0), some (vI x1)] [vI s0, vI s1, vR 1] L = rnG call 170 F 18 [some (vR 0), some (vI x1)] [vI x1, vI 0, vI s0, vI s1, vR 1] L := rfl
set_option maxRecDepth 100000 in
theorem b170_6 (call : QC FA) (a0 : Int32) (a1 : Int32) (a2 : Int32) (a3 : Int32) (ls : List (Option PV)) (z : Nat → Int32) (f : Nat → FA) (F : Nat) : rnG call 170 (F + 1) 18 ls [vI a3, vI a2, vI a1, vI a0, vR 1] (LT u z f) = cbd (call 147 [vR 1, vI a0, vI a1, vI a2, vI a3] (LT u z f)) (fun r L' => rnG call 170 F 19 ls (r.toList ++ []) L') := pcY (ih := rnG call 170 F) (call := call) (a := 147) (b := 4) (v := 10) (t := 19) (x := 1) (ls := ls) (As := [vI a0, vI a1, vI a2, vI a3]) (st' := []) (L := LT u z f) rfl rfl rfl
set_option maxRecDepth 100000 in
theorem b170_7 (call : QC FA) (x : Int32) (ls : List (Option PV)) (L : QH FA) (F : Nat) : rnG call 170 (F + 1) 19 ls [vI x] L = some (some (vI x), L) := rfl
set_option maxRecDepth 100000 in
theorem b170_8 (call : QC FA) (x1 : Int32) (s0 : Int32) (s1 : Int32) (L : QH FA) (F : Nat) : rnG call 170 (F + 2) 11 [some (vR 0), some (vI x1)] [vI s0, vI s1, vR 1] L = rnG call 170 F 13 [some (vR 0), some (vI x1)] [vI 9, vI x1, vI s0, vI s1, vR 1] L := rfl
set_option maxRecDepth 100000 in
theorem b170_9 (call : QC FA) (x y : Int32) (s0 : Int32) (s1 : Int32) (ls : List (Option PV)) (L : QH FA) (F : Nat) : rnG call 170 (F + 1) 13 ls [vI y, vI x, vI s0, vI s1, vR 1] L = bif pcmp 4 x y then rnG call 170 F 16 ls [vI s0, vI s1, vR 1] L else rnG call 170 F 14 ls [vI s0, vI s1, vR 1] L := rfl
set_option maxRecDepth 100000 in
theorem b170_10 (call : QC FA) (x1 : Int32) (s0 : Int32) (s1 : Int32) (L : QH FA) (F : Nat) : rnG call 170 (F + 3) 14 [some (vR 0), some (vI x1)] [vI s0, vI s1, vR 1] L = rnG call 170 F 18 [some (vR 0), some (vI x1)] [vI x1, vI 1, vI s0, vI s1, vR 1] L := rfl
set_option maxRecDepth 100000 in
theorem b170_11 (call : QC FA) (x1 : Int32) (s0 : Int32) (L : QH FA) (F : Nat) : rnG call 170 (F + 3) 6 [some (vR 0), some (vI x1)] [vI s0, vR 1] L = rnG call 170 F 10 [some (vR 0), some (vI x1)] [vI x1, vI 1, vI s0, vR 1] L := rfl
theorem vc170_0 (call : QC FA) (x1 : Int32) (z : Nat → Int32) (f : Nat → FA) (res : Option PV × QH FA) (H : ((¬ x1 = (-1) → ((I x1 < 0 → (∃ (r1 : Int32) (z1 : Nat → Int32) (f1 : Nat → FA), call 147 [vR 1, vI 3, vI 0, vI 0, vI x1] (LT u z f) = some (some (vI r1), LT u z1 f1) ∧ res = (some (vI r1), LT u z1 f1))) ∧ (0 ≤ I x1 → ((9 < I x1 → (∃ (r2 : Int32) (z2 : Nat → Int32) (f2 : Nat → FA), call 147 [vR 1, vI 3, vI 0, vI 0, vI x1] (LT u z f) = some (some (vI r2), LT u z2 f2) ∧ res = (some (vI r2), LT u z2 f2))) ∧ (I x1 ≤ 9 → (∃ (r3 : Int32) (z3 : Nat → Int32) (f3 : Nat → FA), call 147 [vR 1, vI 3, vI 0, vI 1, vI x1] (LT u z f) = some (some (vI r3), LT u z3 f3) ∧ res = (some (vI r3), LT u z3 f3))))))) ∧ (x1 = (-1) → ((I x1 < 0 → (∃ (r4 : Int32) (z4 : Nat → Int32) (f4 : Nat → FA), call 147 [vR 1, vI 3, vI 1, vI 0, vI x1] (LT u z f) = some (some (vI r4), LT u z4 f4) ∧ res = (some (vI r4), LT u z4 f4))) ∧ (0 ≤ I x1 → ((9 < I x1 → (∃ (r5 : Int32) (z5 : Nat → Int32) (f5 : Nat → FA), call 147 [vR 1, vI 3, vI 1, vI 0, vI x1] (LT u z f) = some (some (vI r5), LT u z5 f5) ∧ res = (some (vI r5), LT u z5 f5))) ∧ (I x1 ≤ 9 → (∃ (r6 : Int32) (z6 : Nat → Int32) (f6 : Nat → FA), call 147 [vR 1, vI 3, vI 1, vI 1, vI x1] (LT u z f) = some (some (vI r6), LT u z6 f6) ∧ res = (some (vI r6), LT u z6 f6))))))))) : RC call (mP 170) 0 [some (vR 0), some (vI x1)] [] (LT u z f) res := by
  refine rc_b (i' := 5) (ls' := [some (vR 0), some (vI x1)]) (st' := [vI ((-1)), vI x1, vI 3, vR 1]) (L' := LT u z f) 5 (b170_1 call x1 z f) ?_
  refine rc_if (it := 8) (ie := 6) (ls' := [some (vR 0), some (vI x1)]) (st' := [vI 3, vR 1]) (b170_2 call x1 ((-1)) 3 _ _) (fun q1 => ?_) (fun q1 => ?_)
  · have H := H.1 (cI1t q1)
    refine rc_b (i' := 10) (ls' := [some (vR 0), some (vI x1)]) (st' := [vI x1, vI 0, vI 3, vR 1]) (L' := LT u z f) 2 (b170_3 call x1 3 _) ?_
    refine rc_if (it := 16) (ie := 11) (ls' := [some (vR 0), some (vI x1)]) (st' := [vI 0, vI 3, vR 1]) (b170_4 call x1 0 3 _ _) (fun q2 => ?_) (fun q2 => ?_)
    · have H := H.1 (cI2t q2 rfl rfl)
      refine rc_b (i' := 18) (ls' := [some (vR 0), some (vI x1)]) (st' := [vI x1, vI 0, vI 0, vI 3, vR 1]) (L' := LT u z f) 2 (b170_5 call x1 0 3 _) ?_
      obtain ⟨r1, z1, f1, hc, H⟩ := H
      refine rc_call (t := 19) (ls' := [some (vR 0), some (vI x1)]) (st' := []) (b170_6 call 3 0 0 x1 _ z f) hc ?_
      show RC call (mP 170) 19 [some (vR 0), some (vI x1)] [vI r1] (LT u z1 f1) res
      subst H
      exact rc_ret (b170_7 call _ _ _)
    · have H := H.2 (cI2f q2 rfl rfl)
      refine rc_b (i' := 13) (ls' := [some (vR 0), some (vI x1)]) (st' := [vI 9, vI x1, vI 0, vI 3, vR 1]) (L' := LT u z f) 2 (b170_8 call x1 0 3 _) ?_
      refine rc_if (it := 16) (ie := 14) (ls' := [some (vR 0), some (vI x1)]) (st' := [vI 0, vI 3, vR 1]) (b170_9 call x1 9 0 3 _ _) (fun q3 => ?_) (fun q3 => ?_)
      · have H := H.1 (cI4t q3 rfl rfl)
        refine rc_b (i' := 18) (ls' := [some (vR 0), some (vI x1)]) (st' := [vI x1, vI 0, vI 0, vI 3, vR 1]) (L' := LT u z f) 2 (b170_5 call x1 0 3 _) ?_
        obtain ⟨r2, z2, f2, hc, H⟩ := H
        refine rc_call (t := 19) (ls' := [some (vR 0), some (vI x1)]) (st' := []) (b170_6 call 3 0 0 x1 _ z f) hc ?_
        show RC call (mP 170) 19 [some (vR 0), some (vI x1)] [vI r2] (LT u z2 f2) res
        subst H
        exact rc_ret (b170_7 call _ _ _)
      · have H := H.2 (cI4f q3 rfl rfl)
        refine rc_b (i' := 18) (ls' := [some (vR 0), some (vI x1)]) (st' := [vI x1, vI 1, vI 0, vI 3, vR 1]) (L' := LT u z f) 3 (b170_10 call x1 0 3 _) ?_
        obtain ⟨r3, z3, f3, hc, H⟩ := H
        refine rc_call (t := 19) (ls' := [some (vR 0), some (vI x1)]) (st' := []) (b170_6 call 3 0 1 x1 _ z f) hc ?_
        show RC call (mP 170) 19 [some (vR 0), some (vI x1)] [vI r3] (LT u z3 f3) res
        subst H
        exact rc_ret (b170_7 call _ _ _)
  · have H := H.2 (cI1f q1)
    refine rc_b (i' := 10) (ls' := [some (vR 0), some (vI x1)]) (st' := [vI x1, vI 1, vI 3, vR 1]) (L' := LT u z f) 3 (b170_11 call x1 3 _) ?_
    refine rc_if (it := 16) (ie := 11) (ls' := [some (vR 0), some (vI x1)]) (st' := [vI 1, vI 3, vR 1]) (b170_4 call x1 1 3 _ _) (fun q4 => ?_) (fun q4 => ?_)
    · have H := H.1 (cI2t q4 rfl rfl)
      refine rc_b (i' := 18) (ls' := [some (vR 0), some (vI x1)]) (st' := [vI x1, vI 0, vI 1, vI 3, vR 1]) (L' := LT u z f) 2 (b170_5 call x1 1 3 _) ?_
      obtain ⟨r4, z4, f4, hc, H⟩ := H
      refine rc_call (t := 19) (ls' := [some (vR 0), some (vI x1)]) (st' := []) (b170_6 call 3 1 0 x1 _ z f) hc ?_
      show RC call (mP 170) 19 [some (vR 0), some (vI x1)] [vI r4] (LT u z4 f4) res
      subst H
      exact rc_ret (b170_7 call _ _ _)
    · have H := H.2 (cI2f q4 rfl rfl)
      refine rc_b (i' := 13) (ls' := [some (vR 0), some (vI x1)]) (st' := [vI 9, vI x1, vI 1, vI 3, vR 1]) (L' := LT u z f) 2 (b170_8 call x1 1 3 _) ?_
      refine rc_if (it := 16) (ie := 14) (ls' := [some (vR 0), some (vI x1)]) (st' := [vI 1, vI 3, vR 1]) (b170_9 call x1 9 1 3 _ _) (fun q5 => ?_) (fun q5 => ?_)
      · have H := H.1 (cI4t q5 rfl rfl)
        refine rc_b (i' := 18) (ls' := [some (vR 0), some (vI x1)]) (st' := [vI x1, vI 0, vI 1, vI 3, vR 1]) (L' := LT u z f) 2 (b170_5 call x1 1 3 _) ?_
        obtain ⟨r5, z5, f5, hc, H⟩ := H
        refine rc_call (t := 19) (ls' := [some (vR 0), some (vI x1)]) (st' := []) (b170_6 call 3 1 0 x1 _ z f) hc ?_
        show RC call (mP 170) 19 [some (vR 0), some (vI x1)] [vI r5] (LT u z5 f5) res
        subst H
        exact rc_ret (b170_7 call _ _ _)
      · have H := H.2 (cI4f q5 rfl rfl)
        refine rc_b (i' := 18) (ls' := [some (vR 0), some (vI x1)]) (st' := [vI x1, vI 1, vI 1, vI 3, vR 1]) (L' := LT u z f) 3 (b170_10 call x1 1 3 _) ?_
        obtain ⟨r6, z6, f6, hc, H⟩ := H
        refine rc_call (t := 19) (ls' := [some (vR 0), some (vI x1)]) (st' := []) (b170_6 call 3 1 1 x1 _ z f) hc ?_
        show RC call (mP 170) 19 [some (vR 0), some (vI x1)] [vI r6] (LT u z6 f6) res
        subst H
        exact rc_ret (b170_7 call _ _ _)
theorem c_name_e (d : Nat) {x1 : Int32} {z : Nat → Int32} {f : Nat → FA} (h : x1 = -1) : mcall (d + 3) 170 [vR 0, vI x1] (LT u z f) = some (some (vI 0), LT u (uZ z 9 0) f) := by
  have go : ∀ res, _ → mcall (d + 3) 170 [vR 0, vI x1] (LT u z f) = some res := fun res H => mcall_i (mq170 (cu := [])).2.2 rfl (vc170_0 (mcall (d + 2)) x1 z f res H)
  have hI := im1 h
  have n0 : ¬ x1 = 0 := in0 (by omega)
  have n1 : ¬ x1 = 1 := in1 (by omega)
  refine go _ ?_
  repeat' first
    | exact ⟨_, _, _, c_tl3_e d _ _, rfl⟩
    | contradiction
    | (exfalso; omega)
    | refine ⟨fun q => ?_, fun q => ?_⟩
theorem c_name_r (d : Nat) {x1 : Int32} {z : Nat → Int32} {f : Nat → FA} (h : ¬ x1 = -1) (hb : ¬ (0 ≤ I x1 ∧ I x1 ≤ 9)) : mcall (d + 3) 170 [vR 0, vI x1] (LT u z f) = some (some (vI (-1)), LT u z f) := by
  have go : ∀ res, _ → mcall (d + 3) 170 [vR 0, vI x1] (LT u z f) = some res := fun res H => mcall_i (mq170 (cu := [])).2.2 rfl (vc170_0 (mcall (d + 2)) x1 z f res H)
  refine go _ ?_
  repeat' first
    | exact ⟨_, _, _, c_tl3_r d _, rfl⟩
    | contradiction
    | (exfalso; omega)
    | refine ⟨fun q => ?_, fun q => ?_⟩
theorem c_name_p (d : Nat) {x1 : Int32} {z : Nat → Int32} {f : Nat → FA} {n : Nat} (hb : 0 ≤ I x1 ∧ I x1 ≤ 9) (hz : z 9 = nI n) (hn : n < 15) : mcall (d + 3) 170 [vR 0, vI x1] (LT u z f) = some (some (vI (nI (n + 1))), LT u (uZ z 9 (nI (n + 1))) (uA f 10 (upd (f 10) n x1))) := by
  have go : ∀ res, _ → mcall (d + 3) 170 [vR 0, vI x1] (LT u z f) = some res := fun res H => mcall_i (mq170 (cu := [])).2.2 rfl (vc170_0 (mcall (d + 2)) x1 z f res H)
  have h : ¬ x1 = -1 := im1n (by omega)
  refine go _ ?_
  repeat' first
    | exact ⟨_, _, _, c_tl3_p d _ hz hn, rfl⟩
    | contradiction
    | (exfalso; omega)
    | refine ⟨fun q => ?_, fun q => ?_⟩
theorem c_name_f (d : Nat) {x1 : Int32} {z : Nat → Int32} {f : Nat → FA} (hb : 0 ≤ I x1 ∧ I x1 ≤ 9) (hz : z 9 = nI 15) : mcall (d + 3) 170 [vR 0, vI x1] (LT u z f) = some (some (vI (-1)), LT u z f) := by
  have go : ∀ res, _ → mcall (d + 3) 170 [vR 0, vI x1] (LT u z f) = some res := fun res H => mcall_i (mq170 (cu := [])).2.2 rfl (vc170_0 (mcall (d + 2)) x1 z f res H)
  have h : ¬ x1 = -1 := im1n (by omega)
  refine go _ ?_
  repeat' first
    | exact ⟨_, _, _, c_tl3_f d _ hz, rfl⟩
    | contradiction
    | (exfalso; omega)
    | refine ⟨fun q => ?_, fun q => ?_⟩
set_option maxRecDepth 100000 in
theorem b153_1 (call : QC FA) (x1 : Int32) (z : Nat → Int32) (f : Nat → FA) (F : Nat) : rnG call 153 (F + 5) 0 [some (vR 0), some (vI x1)] [] (LT u z f) = rnG call 153 F 5 [some (vR 0), some (vI x1)] [vI ((-1)), vI x1, vI 4, vR 1] (LT u z f) := rfl
set_option maxRecDepth 100000 in
theorem b153_2 (call : QC FA) (x y : Int32) (s0 : Int32) (ls : List (Option PV)) (L : QH FA) (F : Nat) : rnG call 153 (F + 1) 5 ls [vI y, vI x, vI s0, vR 1] L = bif pcmp 1 x y then rnG call 153 F 8 ls [vI s0, vR 1] L else rnG call 153 F 6 ls [vI s0, vR 1] L := rfl
set_option maxRecDepth 100000 in
theorem b153_3 (call : QC FA) (x1 : Int32) (s0 : Int32) (L : QH FA) (F : Nat) : rnG call 153 (F + 3) 8 [some (vR 0), some (vI x1)] [vI s0, vR 1] L = rnG call 153 F 11 [some (vR 0), some (vI x1)] [vI 1, vI x1, vI 0, vI s0, vR 1] L := rfl
set_option maxRecDepth 100000 in
theorem b153_4 (call : QC FA) (x y : Int32) (s0 : Int32) (s1 : Int32) (ls : List (Option PV)) (L : QH FA) (F : Nat) : rnG call 153 (F + 1) 11 ls [vI y, vI x, vI s0, vI s1, vR 1] L = bif pcmp 2 x y then rnG call 153 F 17 ls [vI s0, vI s1, vR 1] L else rnG call 153 F 12 ls [vI s0, vI s1, vR 1] L := rfl
set_option maxRecDepth 100000 in
theorem b153_5 (call : QC FA) (x1 : Int32) (s0 : Int32) (s1 : Int32) (L : QH FA) (F : Nat) : rnG call 153 (F + 2) 17 [some (vR 0), some (vI x1)] [vI s0, vI s1, vR 1] L = rnG call 153 F 19 [some (vR 0), some (vI x1)] [vI x1, vI 0, vI s0, vI s1, vR 1] L := rfl
set_option maxRecDepth 100000 in
theorem b153_6 (call : QC FA) (a0 : Int32) (a1 : Int32) (a2 : Int32) (a3 : Int32) (ls : List (Option PV)) (z : Nat → Int32) (f : Nat → FA) (F : Nat) : rnG call 153 (F + 1) 19 ls [vI a3, vI a2, vI a1, vI a0, vR 1] (LT u z f) = cbd (call 147 [vR 1, vI a0, vI a1, vI a2, vI a3] (LT u z f)) (fun r L' => rnG call 153 F 20 ls (r.toList ++ []) L') := pcY (ih := rnG call 153 F) (call := call) (a := 147) (b := 4) (v := 10) (t := 20) (x := 1) (ls := ls) (As := [vI a0, vI a1, vI a2, vI a3]) (st' := []) (L := LT u z f) rfl rfl rfl
set_option maxRecDepth 100000 in
theorem b153_7 (call : QC FA) (x : Int32) (ls : List (Option PV)) (L : QH FA) (F : Nat) : rnG call 153 (F + 1) 20 ls [vI x] L = some (some (vI x), L) := rfl
set_option maxRecDepth 100000 in
theorem b153_8 (call : QC FA) (x1 : Int32) (s0 : Int32) (s1 : Int32) (L : QH FA) (F : Nat) : rnG call 153 (F + 2) 12 [some (vR 0), some (vI x1)] [vI s0, vI s1, vR 1] L = rnG call 153 F 14 [some (vR 0), some (vI x1)] [vI 50, vI x1, vI s0, vI s1, vR 1] L := rfl
set_option maxRecDepth 100000 in
theorem b153_9 (call : QC FA) (x y : Int32) (s0 : Int32) (s1 : Int32) (ls : List (Option PV)) (L : QH FA) (F : Nat) : rnG call 153 (F + 1) 14 ls [vI y, vI x, vI s0, vI s1, vR 1] L = bif pcmp 4 x y then rnG call 153 F 17 ls [vI s0, vI s1, vR 1] L else rnG call 153 F 15 ls [vI s0, vI s1, vR 1] L := rfl
set_option maxRecDepth 100000 in
theorem b153_10 (call : QC FA) (x1 : Int32) (s0 : Int32) (s1 : Int32) (L : QH FA) (F : Nat) : rnG call 153 (F + 3) 15 [some (vR 0), some (vI x1)] [vI s0, vI s1, vR 1] L = rnG call 153 F 19 [some (vR 0), some (vI x1)] [vI x1, vI 1, vI s0, vI s1, vR 1] L := rfl
set_option maxRecDepth 100000 in
theorem b153_11 (call : QC FA) (x1 : Int32) (s0 : Int32) (L : QH FA) (F : Nat) : rnG call 153 (F + 4) 6 [some (vR 0), some (vI x1)] [vI s0, vR 1] L = rnG call 153 F 11 [some (vR 0), some (vI x1)] [vI 1, vI x1, vI 1, vI s0, vR 1] L := rfl
theorem vc153_0 (call : QC FA) (x1 : Int32) (z : Nat → Int32) (f : Nat → FA) (res : Option PV × QH FA) (H : ((¬ x1 = (-1) → ((I x1 < 1 → (∃ (r1 : Int32) (z1 : Nat → Int32) (f1 : Nat → FA), call 147 [vR 1, vI 4, vI 0, vI 0, vI x1] (LT u z f) = some (some (vI r1), LT u z1 f1) ∧ res = (some (vI r1), LT u z1 f1))) ∧ (1 ≤ I x1 → ((50 < I x1 → (∃ (r2 : Int32) (z2 : Nat → Int32) (f2 : Nat → FA), call 147 [vR 1, vI 4, vI 0, vI 0, vI x1] (LT u z f) = some (some (vI r2), LT u z2 f2) ∧ res = (some (vI r2), LT u z2 f2))) ∧ (I x1 ≤ 50 → (∃ (r3 : Int32) (z3 : Nat → Int32) (f3 : Nat → FA), call 147 [vR 1, vI 4, vI 0, vI 1, vI x1] (LT u z f) = some (some (vI r3), LT u z3 f3) ∧ res = (some (vI r3), LT u z3 f3))))))) ∧ (x1 = (-1) → ((I x1 < 1 → (∃ (r4 : Int32) (z4 : Nat → Int32) (f4 : Nat → FA), call 147 [vR 1, vI 4, vI 1, vI 0, vI x1] (LT u z f) = some (some (vI r4), LT u z4 f4) ∧ res = (some (vI r4), LT u z4 f4))) ∧ (1 ≤ I x1 → ((50 < I x1 → (∃ (r5 : Int32) (z5 : Nat → Int32) (f5 : Nat → FA), call 147 [vR 1, vI 4, vI 1, vI 0, vI x1] (LT u z f) = some (some (vI r5), LT u z5 f5) ∧ res = (some (vI r5), LT u z5 f5))) ∧ (I x1 ≤ 50 → (∃ (r6 : Int32) (z6 : Nat → Int32) (f6 : Nat → FA), call 147 [vR 1, vI 4, vI 1, vI 1, vI x1] (LT u z f) = some (some (vI r6), LT u z6 f6) ∧ res = (some (vI r6), LT u z6 f6))))))))) : RC call (mP 153) 0 [some (vR 0), some (vI x1)] [] (LT u z f) res := by
  refine rc_b (i' := 5) (ls' := [some (vR 0), some (vI x1)]) (st' := [vI ((-1)), vI x1, vI 4, vR 1]) (L' := LT u z f) 5 (b153_1 call x1 z f) ?_
  refine rc_if (it := 8) (ie := 6) (ls' := [some (vR 0), some (vI x1)]) (st' := [vI 4, vR 1]) (b153_2 call x1 ((-1)) 4 _ _) (fun q1 => ?_) (fun q1 => ?_)
  · have H := H.1 (cI1t q1)
    refine rc_b (i' := 11) (ls' := [some (vR 0), some (vI x1)]) (st' := [vI 1, vI x1, vI 0, vI 4, vR 1]) (L' := LT u z f) 3 (b153_3 call x1 4 _) ?_
    refine rc_if (it := 17) (ie := 12) (ls' := [some (vR 0), some (vI x1)]) (st' := [vI 0, vI 4, vR 1]) (b153_4 call x1 1 0 4 _ _) (fun q2 => ?_) (fun q2 => ?_)
    · have H := H.1 (cI2t q2 rfl rfl)
      refine rc_b (i' := 19) (ls' := [some (vR 0), some (vI x1)]) (st' := [vI x1, vI 0, vI 0, vI 4, vR 1]) (L' := LT u z f) 2 (b153_5 call x1 0 4 _) ?_
      obtain ⟨r1, z1, f1, hc, H⟩ := H
      refine rc_call (t := 20) (ls' := [some (vR 0), some (vI x1)]) (st' := []) (b153_6 call 4 0 0 x1 _ z f) hc ?_
      show RC call (mP 153) 20 [some (vR 0), some (vI x1)] [vI r1] (LT u z1 f1) res
      subst H
      exact rc_ret (b153_7 call _ _ _)
    · have H := H.2 (cI2f q2 rfl rfl)
      refine rc_b (i' := 14) (ls' := [some (vR 0), some (vI x1)]) (st' := [vI 50, vI x1, vI 0, vI 4, vR 1]) (L' := LT u z f) 2 (b153_8 call x1 0 4 _) ?_
      refine rc_if (it := 17) (ie := 15) (ls' := [some (vR 0), some (vI x1)]) (st' := [vI 0, vI 4, vR 1]) (b153_9 call x1 50 0 4 _ _) (fun q3 => ?_) (fun q3 => ?_)
      · have H := H.1 (cI4t q3 rfl rfl)
        refine rc_b (i' := 19) (ls' := [some (vR 0), some (vI x1)]) (st' := [vI x1, vI 0, vI 0, vI 4, vR 1]) (L' := LT u z f) 2 (b153_5 call x1 0 4 _) ?_
        obtain ⟨r2, z2, f2, hc, H⟩ := H
        refine rc_call (t := 20) (ls' := [some (vR 0), some (vI x1)]) (st' := []) (b153_6 call 4 0 0 x1 _ z f) hc ?_
        show RC call (mP 153) 20 [some (vR 0), some (vI x1)] [vI r2] (LT u z2 f2) res
        subst H
        exact rc_ret (b153_7 call _ _ _)
      · have H := H.2 (cI4f q3 rfl rfl)
        refine rc_b (i' := 19) (ls' := [some (vR 0), some (vI x1)]) (st' := [vI x1, vI 1, vI 0, vI 4, vR 1]) (L' := LT u z f) 3 (b153_10 call x1 0 4 _) ?_
        obtain ⟨r3, z3, f3, hc, H⟩ := H
        refine rc_call (t := 20) (ls' := [some (vR 0), some (vI x1)]) (st' := []) (b153_6 call 4 0 1 x1 _ z f) hc ?_
        show RC call (mP 153) 20 [some (vR 0), some (vI x1)] [vI r3] (LT u z3 f3) res
        subst H
        exact rc_ret (b153_7 call _ _ _)
  · have H := H.2 (cI1f q1)
    refine rc_b (i' := 11) (ls' := [some (vR 0), some (vI x1)]) (st' := [vI 1, vI x1, vI 1, vI 4, vR 1]) (L' := LT u z f) 4 (b153_11 call x1 4 _) ?_
    refine rc_if (it := 17) (ie := 12) (ls' := [some (vR 0), some (vI x1)]) (st' := [vI 1, vI 4, vR 1]) (b153_4 call x1 1 1 4 _ _) (fun q4 => ?_) (fun q4 => ?_)
    · have H := H.1 (cI2t q4 rfl rfl)
      refine rc_b (i' := 19) (ls' := [some (vR 0), some (vI x1)]) (st' := [vI x1, vI 0, vI 1, vI 4, vR 1]) (L' := LT u z f) 2 (b153_5 call x1 1 4 _) ?_
      obtain ⟨r4, z4, f4, hc, H⟩ := H
      refine rc_call (t := 20) (ls' := [some (vR 0), some (vI x1)]) (st' := []) (b153_6 call 4 1 0 x1 _ z f) hc ?_
      show RC call (mP 153) 20 [some (vR 0), some (vI x1)] [vI r4] (LT u z4 f4) res
      subst H
      exact rc_ret (b153_7 call _ _ _)
    · have H := H.2 (cI2f q4 rfl rfl)
      refine rc_b (i' := 14) (ls' := [some (vR 0), some (vI x1)]) (st' := [vI 50, vI x1, vI 1, vI 4, vR 1]) (L' := LT u z f) 2 (b153_8 call x1 1 4 _) ?_
      refine rc_if (it := 17) (ie := 15) (ls' := [some (vR 0), some (vI x1)]) (st' := [vI 1, vI 4, vR 1]) (b153_9 call x1 50 1 4 _ _) (fun q5 => ?_) (fun q5 => ?_)
      · have H := H.1 (cI4t q5 rfl rfl)
        refine rc_b (i' := 19) (ls' := [some (vR 0), some (vI x1)]) (st' := [vI x1, vI 0, vI 1, vI 4, vR 1]) (L' := LT u z f) 2 (b153_5 call x1 1 4 _) ?_
        obtain ⟨r5, z5, f5, hc, H⟩ := H
        refine rc_call (t := 20) (ls' := [some (vR 0), some (vI x1)]) (st' := []) (b153_6 call 4 1 0 x1 _ z f) hc ?_
        show RC call (mP 153) 20 [some (vR 0), some (vI x1)] [vI r5] (LT u z5 f5) res
        subst H
        exact rc_ret (b153_7 call _ _ _)
      · have H := H.2 (cI4f q5 rfl rfl)
        refine rc_b (i' := 19) (ls' := [some (vR 0), some (vI x1)]) (st' := [vI x1, vI 1, vI 1, vI 4, vR 1]) (L' := LT u z f) 3 (b153_10 call x1 1 4 _) ?_
        obtain ⟨r6, z6, f6, hc, H⟩ := H
        refine rc_call (t := 20) (ls' := [some (vR 0), some (vI x1)]) (st' := []) (b153_6 call 4 1 1 x1 _ z f) hc ?_
        show RC call (mP 153) 20 [some (vR 0), some (vI x1)] [vI r6] (LT u z6 f6) res
        subst H
        exact rc_ret (b153_7 call _ _ _)
theorem c_candle_e (d : Nat) {x1 : Int32} {z : Nat → Int32} {f : Nat → FA} (h : x1 = -1) : mcall (d + 3) 153 [vR 0, vI x1] (LT u z f) = some (some (vI 0), LT u (uZ z 11 0) f) := by
  have go : ∀ res, _ → mcall (d + 3) 153 [vR 0, vI x1] (LT u z f) = some res := fun res H => mcall_i (mq153 (cu := [])).2.2 rfl (vc153_0 (mcall (d + 2)) x1 z f res H)
  have hI := im1 h
  have n0 : ¬ x1 = 0 := in0 (by omega)
  have n1 : ¬ x1 = 1 := in1 (by omega)
  refine go _ ?_
  repeat' first
    | exact ⟨_, _, _, c_tl4_e d _ _, rfl⟩
    | contradiction
    | (exfalso; omega)
    | refine ⟨fun q => ?_, fun q => ?_⟩
theorem c_candle_r (d : Nat) {x1 : Int32} {z : Nat → Int32} {f : Nat → FA} (h : ¬ x1 = -1) (hb : ¬ (1 ≤ I x1 ∧ I x1 ≤ 50)) : mcall (d + 3) 153 [vR 0, vI x1] (LT u z f) = some (some (vI (-1)), LT u z f) := by
  have go : ∀ res, _ → mcall (d + 3) 153 [vR 0, vI x1] (LT u z f) = some res := fun res H => mcall_i (mq153 (cu := [])).2.2 rfl (vc153_0 (mcall (d + 2)) x1 z f res H)
  refine go _ ?_
  repeat' first
    | exact ⟨_, _, _, c_tl4_r d _, rfl⟩
    | contradiction
    | (exfalso; omega)
    | refine ⟨fun q => ?_, fun q => ?_⟩
theorem c_candle_p (d : Nat) {x1 : Int32} {z : Nat → Int32} {f : Nat → FA} {n : Nat} (hb : 1 ≤ I x1 ∧ I x1 ≤ 50) (hz : z 11 = nI n) (hn : n < 8) : mcall (d + 3) 153 [vR 0, vI x1] (LT u z f) = some (some (vI (nI (n + 1))), LT u (uZ z 11 (nI (n + 1))) (uA f 12 (upd (f 12) n x1))) := by
  have go : ∀ res, _ → mcall (d + 3) 153 [vR 0, vI x1] (LT u z f) = some res := fun res H => mcall_i (mq153 (cu := [])).2.2 rfl (vc153_0 (mcall (d + 2)) x1 z f res H)
  have h : ¬ x1 = -1 := im1n (by omega)
  refine go _ ?_
  repeat' first
    | exact ⟨_, _, _, c_tl4_p d _ hz hn, rfl⟩
    | contradiction
    | (exfalso; omega)
    | refine ⟨fun q => ?_, fun q => ?_⟩
theorem c_candle_f (d : Nat) {x1 : Int32} {z : Nat → Int32} {f : Nat → FA} (hb : 1 ≤ I x1 ∧ I x1 ≤ 50) (hz : z 11 = nI 8) : mcall (d + 3) 153 [vR 0, vI x1] (LT u z f) = some (some (vI (-1)), LT u z f) := by
  have go : ∀ res, _ → mcall (d + 3) 153 [vR 0, vI x1] (LT u z f) = some res := fun res H => mcall_i (mq153 (cu := [])).2.2 rfl (vc153_0 (mcall (d + 2)) x1 z f res H)
  have h : ¬ x1 = -1 := im1n (by omega)
  refine go _ ?_
  repeat' first
    | exact ⟨_, _, _, c_tl4_f d _ hz, rfl⟩
    | contradiction
    | (exfalso; omega)
    | refine ⟨fun q => ?_, fun q => ?_⟩
set_option maxRecDepth 100000 in
theorem b157_1 (call : QC FA) (x1 : Int32) (x2 : Int32) (o3 : Option PV) (L : QH FA) (F : Nat) : rnG call 157 (F + 2) 0 [some (vR 0), some (vI x1), some (vI x2), o3] [] L = rnG call 157 F 2 [some (vR 0), some (vI x1), some (vI x2), o3] [vI 1, vI x1] L := rfl
set_option maxRecDepth 100000 in
theorem b157_2 (call : QC FA) (x y : Int32) (ls : List (Option PV)) (L : QH FA) (F : Nat) : rnG call 157 (F + 1) 2 ls [vI y, vI x] L = bif pcmp 2 x y then rnG call 157 F 13 ls [] L else rnG call 157 F 3 ls [] L := rfl
set_option maxRecDepth 100000 in
theorem b157_3 (call : QC FA) (x1 : Int32) (x2 : Int32) (o3 : Option PV) (z : Nat → Int32) (f : Nat → FA) (F : Nat) : rnG call 157 (F + 7) 13 [some (vR 0), some (vI x1), some (vI x2), o3] [] (LT u z f) = rnG call 157 F 20 [some (vR 0), some (vI x1), some (vI x2), some (vI 0)] [vI ((-1)), vI x1, vI 5, vR 1] (LT u z f) := rfl
set_option maxRecDepth 100000 in
theorem b157_4 (call : QC FA) (x y : Int32) (s0 : Int32) (ls : List (Option PV)) (L : QH FA) (F : Nat) : rnG call 157 (F + 1) 20 ls [vI y, vI x, vI s0, vR 1] L = bif pcmp 1 x y then rnG call 157 F 23 ls [vI s0, vR 1] L else rnG call 157 F 21 ls [vI s0, vR 1] L := rfl
set_option maxRecDepth 100000 in
theorem b157_5 (call : QC FA) (x1 : Int32) (x2 : Int32) (x3 : Int32) (s0 : Int32) (L : QH FA) (F : Nat) : rnG call 157 (F + 7) 23 [some (vR 0), some (vI x1), some (vI x2), some (vI x3)] [vI s0, vR 1] L = rnG call 157 F 30 [some (vR 0), some (vI x1), some (vI x2), some (vI x3)] [vI ((x1 * 256) + x2), vI x3, vI 0, vI s0, vR 1] L := rfl
set_option maxRecDepth 100000 in
theorem b157_6 (call : QC FA) (a0 : Int32) (a1 : Int32) (a2 : Int32) (a3 : Int32) (ls : List (Option PV)) (z : Nat → Int32) (f : Nat → FA) (F : Nat) : rnG call 157 (F + 1) 30 ls [vI a3, vI a2, vI a1, vI a0, vR 1] (LT u z f) = cbd (call 147 [vR 1, vI a0, vI a1, vI a2, vI a3] (LT u z f)) (fun r L' => rnG call 157 F 31 ls (r.toList ++ []) L') := pcY (ih := rnG call 157 F) (call := call) (a := 147) (b := 4) (v := 10) (t := 31) (x := 1) (ls := ls) (As := [vI a0, vI a1, vI a2, vI a3]) (st' := []) (L := LT u z f) rfl rfl rfl
set_option maxRecDepth 100000 in
theorem b157_7 (call : QC FA) (x : Int32) (ls : List (Option PV)) (L : QH FA) (F : Nat) : rnG call 157 (F + 1) 31 ls [vI x] L = some (some (vI x), L) := rfl
set_option maxRecDepth 100000 in
theorem b157_8 (call : QC FA) (x1 : Int32) (x2 : Int32) (x3 : Int32) (s0 : Int32) (L : QH FA) (F : Nat) : rnG call 157 (F + 8) 21 [some (vR 0), some (vI x1), some (vI x2), some (vI x3)] [vI s0, vR 1] L = rnG call 157 F 30 [some (vR 0), some (vI x1), some (vI x2), some (vI x3)] [vI ((x1 * 256) + x2), vI x3, vI 1, vI s0, vR 1] L := rfl
set_option maxRecDepth 100000 in
theorem b157_9 (call : QC FA) (x1 : Int32) (x2 : Int32) (o3 : Option PV) (L : QH FA) (F : Nat) : rnG call 157 (F + 2) 3 [some (vR 0), some (vI x1), some (vI x2), o3] [] L = rnG call 157 F 5 [some (vR 0), some (vI x1), some (vI x2), o3] [vI 50, vI x1] L := rfl
set_option maxRecDepth 100000 in
theorem b157_10 (call : QC FA) (x y : Int32) (ls : List (Option PV)) (L : QH FA) (F : Nat) : rnG call 157 (F + 1) 5 ls [vI y, vI x] L = bif pcmp 4 x y then rnG call 157 F 13 ls [] L else rnG call 157 F 6 ls [] L := rfl
set_option maxRecDepth 100000 in
theorem b157_11 (call : QC FA) (x1 : Int32) (x2 : Int32) (o3 : Option PV) (L : QH FA) (F : Nat) : rnG call 157 (F + 1) 6 [some (vR 0), some (vI x1), some (vI x2), o3] [] L = rnG call 157 F 7 [some (vR 0), some (vI x1), some (vI x2), o3] [vI x2] L := rfl
set_option maxRecDepth 100000 in
theorem b157_12 (call : QC FA) (x : Int32) (ls : List (Option PV)) (L : QH FA) (F : Nat) : rnG call 157 (F + 1) 7 ls [vI x] L = bif pcmp 2 x 0 then rnG call 157 F 13 ls [] L else rnG call 157 F 8 ls [] L := rfl
set_option maxRecDepth 100000 in
theorem b157_13 (call : QC FA) (x1 : Int32) (x2 : Int32) (o3 : Option PV) (L : QH FA) (F : Nat) : rnG call 157 (F + 2) 8 [some (vR 0), some (vI x1), some (vI x2), o3] [] L = rnG call 157 F 10 [some (vR 0), some (vI x1), some (vI x2), o3] [vI 200, vI x2] L := rfl
set_option maxRecDepth 100000 in
theorem b157_14 (call : QC FA) (x y : Int32) (ls : List (Option PV)) (L : QH FA) (F : Nat) : rnG call 157 (F + 1) 10 ls [vI y, vI x] L = bif pcmp 4 x y then rnG call 157 F 13 ls [] L else rnG call 157 F 11 ls [] L := rfl
set_option maxRecDepth 100000 in
theorem b157_15 (call : QC FA) (x1 : Int32) (x2 : Int32) (o3 : Option PV) (z : Nat → Int32) (f : Nat → FA) (F : Nat) : rnG call 157 (F + 8) 11 [some (vR 0), some (vI x1), some (vI x2), o3] [] (LT u z f) = rnG call 157 F 20 [some (vR 0), some (vI x1), some (vI x2), some (vI 1)] [vI ((-1)), vI x1, vI 5, vR 1] (LT u z f) := rfl
theorem vc157_0 (call : QC FA) (x1 : Int32) (x2 : Int32) (o3 : Option PV) (z : Nat → Int32) (f : Nat → FA) (res : Option PV × QH FA) (H : ((I x1 < 1 → ((¬ x1 = (-1) → (∃ (r1 : Int32) (z1 : Nat → Int32) (f1 : Nat → FA), call 147 [vR 1, vI 5, vI 0, vI 0, vI ((x1 * 256) + x2)] (LT u z f) = some (some (vI r1), LT u z1 f1) ∧ res = (some (vI r1), LT u z1 f1))) ∧ (x1 = (-1) → (∃ (r2 : Int32) (z2 : Nat → Int32) (f2 : Nat → FA), call 147 [vR 1, vI 5, vI 1, vI 0, vI ((x1 * 256) + x2)] (LT u z f) = some (some (vI r2), LT u z2 f2) ∧ res = (some (vI r2), LT u z2 f2))))) ∧ (1 ≤ I x1 → ((50 < I x1 → ((¬ x1 = (-1) → (∃ (r3 : Int32) (z3 : Nat → Int32) (f3 : Nat → FA), call 147 [vR 1, vI 5, vI 0, vI 0, vI ((x1 * 256) + x2)] (LT u z f) = some (some (vI r3), LT u z3 f3) ∧ res = (some (vI r3), LT u z3 f3))) ∧ (x1 = (-1) → (∃ (r4 : Int32) (z4 : Nat → Int32) (f4 : Nat → FA), call 147 [vR 1, vI 5, vI 1, vI 0, vI ((x1 * 256) + x2)] (LT u z f) = some (some (vI r4), LT u z4 f4) ∧ res = (some (vI r4), LT u z4 f4))))) ∧ (I x1 ≤ 50 → ((I x2 < 0 → ((¬ x1 = (-1) → (∃ (r5 : Int32) (z5 : Nat → Int32) (f5 : Nat → FA), call 147 [vR 1, vI 5, vI 0, vI 0, vI ((x1 * 256) + x2)] (LT u z f) = some (some (vI r5), LT u z5 f5) ∧ res = (some (vI r5), LT u z5 f5))) ∧ (x1 = (-1) → (∃ (r6 : Int32) (z6 : Nat → Int32) (f6 : Nat → FA), call 147 [vR 1, vI 5, vI 1, vI 0, vI ((x1 * 256) + x2)] (LT u z f) = some (some (vI r6), LT u z6 f6) ∧ res = (some (vI r6), LT u z6 f6))))) ∧ (0 ≤ I x2 → ((200 < I x2 → ((¬ x1 = (-1) → (∃ (r7 : Int32) (z7 : Nat → Int32) (f7 : Nat → FA), call 147 [vR 1, vI 5, vI 0, vI 0, vI ((x1 * 256) + x2)] (LT u z f) = some (some (vI r7), LT u z7 f7) ∧ res = (some (vI r7), LT u z7 f7))) ∧ (x1 = (-1) → (∃ (r8 : Int32) (z8 : Nat → Int32) (f8 : Nat → FA), call 147 [vR 1, vI 5, vI 1, vI 0, vI ((x1 * 256) + x2)] (LT u z f) = some (some (vI r8), LT u z8 f8) ∧ res = (some (vI r8), LT u z8 f8))))) ∧ (I x2 ≤ 200 → ((¬ x1 = (-1) → (∃ (r9 : Int32) (z9 : Nat → Int32) (f9 : Nat → FA), call 147 [vR 1, vI 5, vI 0, vI 1, vI ((x1 * 256) + x2)] (LT u z f) = some (some (vI r9), LT u z9 f9) ∧ res = (some (vI r9), LT u z9 f9))) ∧ (x1 = (-1) → (∃ (r10 : Int32) (z10 : Nat → Int32) (f10 : Nat → FA), call 147 [vR 1, vI 5, vI 1, vI 1, vI ((x1 * 256) + x2)] (LT u z f) = some (some (vI r10), LT u z10 f10) ∧ res = (some (vI r10), LT u z10 f10))))))))))))) : RC call (mP 157) 0 [some (vR 0), some (vI x1), some (vI x2), o3] [] (LT u z f) res := by
  refine rc_b (i' := 2) (ls' := [some (vR 0), some (vI x1), some (vI x2), o3]) (st' := [vI 1, vI x1]) (L' := LT u z f) 2 (b157_1 call x1 x2 o3 _) ?_
  refine rc_if (it := 13) (ie := 3) (ls' := [some (vR 0), some (vI x1), some (vI x2), o3]) (st' := []) (b157_2 call x1 1 _ _) (fun q1 => ?_) (fun q1 => ?_)
  · have H := H.1 (cI2t q1 rfl rfl)
    refine rc_b (i' := 20) (ls' := [some (vR 0), some (vI x1), some (vI x2), some (vI 0)]) (st' := [vI ((-1)), vI x1, vI 5, vR 1]) (L' := LT u z f) 7 (b157_3 call x1 x2 o3 z f) ?_
    refine rc_if (it := 23) (ie := 21) (ls' := [some (vR 0), some (vI x1), some (vI x2), some (vI 0)]) (st' := [vI 5, vR 1]) (b157_4 call x1 ((-1)) 5 _ _) (fun q2 => ?_) (fun q2 => ?_)
    · have H := H.1 (cI1t q2)
      refine rc_b (i' := 30) (ls' := [some (vR 0), some (vI x1), some (vI x2), some (vI 0)]) (st' := [vI ((x1 * 256) + x2), vI 0, vI 0, vI 5, vR 1]) (L' := LT u z f) 7 (b157_5 call x1 x2 0 5 _) ?_
      obtain ⟨r1, z1, f1, hc, H⟩ := H
      refine rc_call (t := 31) (ls' := [some (vR 0), some (vI x1), some (vI x2), some (vI 0)]) (st' := []) (b157_6 call 5 0 0 ((x1 * 256) + x2) _ z f) hc ?_
      show RC call (mP 157) 31 [some (vR 0), some (vI x1), some (vI x2), some (vI 0)] [vI r1] (LT u z1 f1) res
      subst H
      exact rc_ret (b157_7 call _ _ _)
    · have H := H.2 (cI1f q2)
      refine rc_b (i' := 30) (ls' := [some (vR 0), some (vI x1), some (vI x2), some (vI 0)]) (st' := [vI ((x1 * 256) + x2), vI 0, vI 1, vI 5, vR 1]) (L' := LT u z f) 8 (b157_8 call x1 x2 0 5 _) ?_
      obtain ⟨r2, z2, f2, hc, H⟩ := H
      refine rc_call (t := 31) (ls' := [some (vR 0), some (vI x1), some (vI x2), some (vI 0)]) (st' := []) (b157_6 call 5 1 0 ((x1 * 256) + x2) _ z f) hc ?_
      show RC call (mP 157) 31 [some (vR 0), some (vI x1), some (vI x2), some (vI 0)] [vI r2] (LT u z2 f2) res
      subst H
      exact rc_ret (b157_7 call _ _ _)
  · have H := H.2 (cI2f q1 rfl rfl)
    refine rc_b (i' := 5) (ls' := [some (vR 0), some (vI x1), some (vI x2), o3]) (st' := [vI 50, vI x1]) (L' := LT u z f) 2 (b157_9 call x1 x2 o3 _) ?_
    refine rc_if (it := 13) (ie := 6) (ls' := [some (vR 0), some (vI x1), some (vI x2), o3]) (st' := []) (b157_10 call x1 50 _ _) (fun q3 => ?_) (fun q3 => ?_)
    · have H := H.1 (cI4t q3 rfl rfl)
      refine rc_b (i' := 20) (ls' := [some (vR 0), some (vI x1), some (vI x2), some (vI 0)]) (st' := [vI ((-1)), vI x1, vI 5, vR 1]) (L' := LT u z f) 7 (b157_3 call x1 x2 o3 z f) ?_
      refine rc_if (it := 23) (ie := 21) (ls' := [some (vR 0), some (vI x1), some (vI x2), some (vI 0)]) (st' := [vI 5, vR 1]) (b157_4 call x1 ((-1)) 5 _ _) (fun q4 => ?_) (fun q4 => ?_)
      · have H := H.1 (cI1t q4)
        refine rc_b (i' := 30) (ls' := [some (vR 0), some (vI x1), some (vI x2), some (vI 0)]) (st' := [vI ((x1 * 256) + x2), vI 0, vI 0, vI 5, vR 1]) (L' := LT u z f) 7 (b157_5 call x1 x2 0 5 _) ?_
        obtain ⟨r3, z3, f3, hc, H⟩ := H
        refine rc_call (t := 31) (ls' := [some (vR 0), some (vI x1), some (vI x2), some (vI 0)]) (st' := []) (b157_6 call 5 0 0 ((x1 * 256) + x2) _ z f) hc ?_
        show RC call (mP 157) 31 [some (vR 0), some (vI x1), some (vI x2), some (vI 0)] [vI r3] (LT u z3 f3) res
        subst H
        exact rc_ret (b157_7 call _ _ _)
      · have H := H.2 (cI1f q4)
        refine rc_b (i' := 30) (ls' := [some (vR 0), some (vI x1), some (vI x2), some (vI 0)]) (st' := [vI ((x1 * 256) + x2), vI 0, vI 1, vI 5, vR 1]) (L' := LT u z f) 8 (b157_8 call x1 x2 0 5 _) ?_
        obtain ⟨r4, z4, f4, hc, H⟩ := H
        refine rc_call (t := 31) (ls' := [some (vR 0), some (vI x1), some (vI x2), some (vI 0)]) (st' := []) (b157_6 call 5 1 0 ((x1 * 256) + x2) _ z f) hc ?_
        show RC call (mP 157) 31 [some (vR 0), some (vI x1), some (vI x2), some (vI 0)] [vI r4] (LT u z4 f4) res
        subst H
        exact rc_ret (b157_7 call _ _ _)
    · have H := H.2 (cI4f q3 rfl rfl)
      refine rc_b (i' := 7) (ls' := [some (vR 0), some (vI x1), some (vI x2), o3]) (st' := [vI x2]) (L' := LT u z f) 1 (b157_11 call x1 x2 o3 _) ?_
      refine rc_if (it := 13) (ie := 8) (ls' := [some (vR 0), some (vI x1), some (vI x2), o3]) (st' := []) (b157_12 call x2 _ _) (fun q5 => ?_) (fun q5 => ?_)
      · have H := H.1 (cI2t q5 rfl rfl)
        refine rc_b (i' := 20) (ls' := [some (vR 0), some (vI x1), some (vI x2), some (vI 0)]) (st' := [vI ((-1)), vI x1, vI 5, vR 1]) (L' := LT u z f) 7 (b157_3 call x1 x2 o3 z f) ?_
        refine rc_if (it := 23) (ie := 21) (ls' := [some (vR 0), some (vI x1), some (vI x2), some (vI 0)]) (st' := [vI 5, vR 1]) (b157_4 call x1 ((-1)) 5 _ _) (fun q6 => ?_) (fun q6 => ?_)
        · have H := H.1 (cI1t q6)
          refine rc_b (i' := 30) (ls' := [some (vR 0), some (vI x1), some (vI x2), some (vI 0)]) (st' := [vI ((x1 * 256) + x2), vI 0, vI 0, vI 5, vR 1]) (L' := LT u z f) 7 (b157_5 call x1 x2 0 5 _) ?_
          obtain ⟨r5, z5, f5, hc, H⟩ := H
          refine rc_call (t := 31) (ls' := [some (vR 0), some (vI x1), some (vI x2), some (vI 0)]) (st' := []) (b157_6 call 5 0 0 ((x1 * 256) + x2) _ z f) hc ?_
          show RC call (mP 157) 31 [some (vR 0), some (vI x1), some (vI x2), some (vI 0)] [vI r5] (LT u z5 f5) res
          subst H
          exact rc_ret (b157_7 call _ _ _)
        · have H := H.2 (cI1f q6)
          refine rc_b (i' := 30) (ls' := [some (vR 0), some (vI x1), some (vI x2), some (vI 0)]) (st' := [vI ((x1 * 256) + x2), vI 0, vI 1, vI 5, vR 1]) (L' := LT u z f) 8 (b157_8 call x1 x2 0 5 _) ?_
          obtain ⟨r6, z6, f6, hc, H⟩ := H
          refine rc_call (t := 31) (ls' := [some (vR 0), some (vI x1), some (vI x2), some (vI 0)]) (st' := []) (b157_6 call 5 1 0 ((x1 * 256) + x2) _ z f) hc ?_
          show RC call (mP 157) 31 [some (vR 0), some (vI x1), some (vI x2), some (vI 0)] [vI r6] (LT u z6 f6) res
          subst H
          exact rc_ret (b157_7 call _ _ _)
      · have H := H.2 (cI2f q5 rfl rfl)
        refine rc_b (i' := 10) (ls' := [some (vR 0), some (vI x1), some (vI x2), o3]) (st' := [vI 200, vI x2]) (L' := LT u z f) 2 (b157_13 call x1 x2 o3 _) ?_
        refine rc_if (it := 13) (ie := 11) (ls' := [some (vR 0), some (vI x1), some (vI x2), o3]) (st' := []) (b157_14 call x2 200 _ _) (fun q7 => ?_) (fun q7 => ?_)
        · have H := H.1 (cI4t q7 rfl rfl)
          refine rc_b (i' := 20) (ls' := [some (vR 0), some (vI x1), some (vI x2), some (vI 0)]) (st' := [vI ((-1)), vI x1, vI 5, vR 1]) (L' := LT u z f) 7 (b157_3 call x1 x2 o3 z f) ?_
          refine rc_if (it := 23) (ie := 21) (ls' := [some (vR 0), some (vI x1), some (vI x2), some (vI 0)]) (st' := [vI 5, vR 1]) (b157_4 call x1 ((-1)) 5 _ _) (fun q8 => ?_) (fun q8 => ?_)
          · have H := H.1 (cI1t q8)
            refine rc_b (i' := 30) (ls' := [some (vR 0), some (vI x1), some (vI x2), some (vI 0)]) (st' := [vI ((x1 * 256) + x2), vI 0, vI 0, vI 5, vR 1]) (L' := LT u z f) 7 (b157_5 call x1 x2 0 5 _) ?_
            obtain ⟨r7, z7, f7, hc, H⟩ := H
            refine rc_call (t := 31) (ls' := [some (vR 0), some (vI x1), some (vI x2), some (vI 0)]) (st' := []) (b157_6 call 5 0 0 ((x1 * 256) + x2) _ z f) hc ?_
            show RC call (mP 157) 31 [some (vR 0), some (vI x1), some (vI x2), some (vI 0)] [vI r7] (LT u z7 f7) res
            subst H
            exact rc_ret (b157_7 call _ _ _)
          · have H := H.2 (cI1f q8)
            refine rc_b (i' := 30) (ls' := [some (vR 0), some (vI x1), some (vI x2), some (vI 0)]) (st' := [vI ((x1 * 256) + x2), vI 0, vI 1, vI 5, vR 1]) (L' := LT u z f) 8 (b157_8 call x1 x2 0 5 _) ?_
            obtain ⟨r8, z8, f8, hc, H⟩ := H
            refine rc_call (t := 31) (ls' := [some (vR 0), some (vI x1), some (vI x2), some (vI 0)]) (st' := []) (b157_6 call 5 1 0 ((x1 * 256) + x2) _ z f) hc ?_
            show RC call (mP 157) 31 [some (vR 0), some (vI x1), some (vI x2), some (vI 0)] [vI r8] (LT u z8 f8) res
            subst H
            exact rc_ret (b157_7 call _ _ _)
        · have H := H.2 (cI4f q7 rfl rfl)
          refine rc_b (i' := 20) (ls' := [some (vR 0), some (vI x1), some (vI x2), some (vI 1)]) (st' := [vI ((-1)), vI x1, vI 5, vR 1]) (L' := LT u z f) 8 (b157_15 call x1 x2 o3 z f) ?_
          refine rc_if (it := 23) (ie := 21) (ls' := [some (vR 0), some (vI x1), some (vI x2), some (vI 1)]) (st' := [vI 5, vR 1]) (b157_4 call x1 ((-1)) 5 _ _) (fun q9 => ?_) (fun q9 => ?_)
          · have H := H.1 (cI1t q9)
            refine rc_b (i' := 30) (ls' := [some (vR 0), some (vI x1), some (vI x2), some (vI 1)]) (st' := [vI ((x1 * 256) + x2), vI 1, vI 0, vI 5, vR 1]) (L' := LT u z f) 7 (b157_5 call x1 x2 1 5 _) ?_
            obtain ⟨r9, z9, f9, hc, H⟩ := H
            refine rc_call (t := 31) (ls' := [some (vR 0), some (vI x1), some (vI x2), some (vI 1)]) (st' := []) (b157_6 call 5 0 1 ((x1 * 256) + x2) _ z f) hc ?_
            show RC call (mP 157) 31 [some (vR 0), some (vI x1), some (vI x2), some (vI 1)] [vI r9] (LT u z9 f9) res
            subst H
            exact rc_ret (b157_7 call _ _ _)
          · have H := H.2 (cI1f q9)
            refine rc_b (i' := 30) (ls' := [some (vR 0), some (vI x1), some (vI x2), some (vI 1)]) (st' := [vI ((x1 * 256) + x2), vI 1, vI 1, vI 5, vR 1]) (L' := LT u z f) 8 (b157_8 call x1 x2 1 5 _) ?_
            obtain ⟨r10, z10, f10, hc, H⟩ := H
            refine rc_call (t := 31) (ls' := [some (vR 0), some (vI x1), some (vI x2), some (vI 1)]) (st' := []) (b157_6 call 5 1 1 ((x1 * 256) + x2) _ z f) hc ?_
            show RC call (mP 157) 31 [some (vR 0), some (vI x1), some (vI x2), some (vI 1)] [vI r10] (LT u z10 f10) res
            subst H
            exact rc_ret (b157_7 call _ _ _)
theorem c_door_e (d : Nat) {x1 x2 : Int32} {z : Nat → Int32} {f : Nat → FA} (h : x1 = -1) : mcall (d + 3) 157 [vR 0, vI x1, vI x2] (LT u z f) = some (some (vI 0), LT u (uZ z 13 0) f) := by
  have go : ∀ res, _ → mcall (d + 3) 157 [vR 0, vI x1, vI x2] (LT u z f) = some res := fun res H => mcall_i (mq157 (cu := [])).2.2 rfl (vc157_0 (mcall (d + 2)) x1 x2 none z f res H)
  have hI := im1 h
  have n0 : ¬ x1 = 0 := in0 (by omega)
  have n1 : ¬ x1 = 1 := in1 (by omega)
  refine go _ ?_
  repeat' first
    | exact ⟨_, _, _, c_tl5_e d _ _, rfl⟩
    | contradiction
    | (exfalso; omega)
    | refine ⟨fun q => ?_, fun q => ?_⟩
theorem c_door_r (d : Nat) {x1 x2 : Int32} {z : Nat → Int32} {f : Nat → FA} (h : ¬ x1 = -1) (hb : ¬ (1 ≤ I x1 ∧ I x1 ≤ 50 ∧ 0 ≤ I x2 ∧ I x2 ≤ 200)) : mcall (d + 3) 157 [vR 0, vI x1, vI x2] (LT u z f) = some (some (vI (-1)), LT u z f) := by
  have go : ∀ res, _ → mcall (d + 3) 157 [vR 0, vI x1, vI x2] (LT u z f) = some res := fun res H => mcall_i (mq157 (cu := [])).2.2 rfl (vc157_0 (mcall (d + 2)) x1 x2 none z f res H)
  refine go _ ?_
  repeat' first
    | exact ⟨_, _, _, c_tl5_r d _, rfl⟩
    | contradiction
    | (exfalso; omega)
    | refine ⟨fun q => ?_, fun q => ?_⟩
theorem c_door_p (d : Nat) {x1 x2 : Int32} {z : Nat → Int32} {f : Nat → FA} {n : Nat} (hb : 1 ≤ I x1 ∧ I x1 ≤ 50 ∧ 0 ≤ I x2 ∧ I x2 ≤ 200) (hz : z 13 = nI n) (hn : n < 8) : mcall (d + 3) 157 [vR 0, vI x1, vI x2] (LT u z f) = some (some (vI (nI (n + 1))), LT u (uZ z 13 (nI (n + 1))) (uA f 14 (upd (f 14) n (x1 * 256 + x2)))) := by
  have go : ∀ res, _ → mcall (d + 3) 157 [vR 0, vI x1, vI x2] (LT u z f) = some res := fun res H => mcall_i (mq157 (cu := [])).2.2 rfl (vc157_0 (mcall (d + 2)) x1 x2 none z f res H)
  have h : ¬ x1 = -1 := im1n (by omega)
  refine go _ ?_
  repeat' first
    | exact ⟨_, _, _, c_tl5_p d _ hz hn, rfl⟩
    | contradiction
    | (exfalso; omega)
    | refine ⟨fun q => ?_, fun q => ?_⟩
theorem c_door_f (d : Nat) {x1 x2 : Int32} {z : Nat → Int32} {f : Nat → FA} (hb : 1 ≤ I x1 ∧ I x1 ≤ 50 ∧ 0 ≤ I x2 ∧ I x2 ≤ 200) (hz : z 13 = nI 8) : mcall (d + 3) 157 [vR 0, vI x1, vI x2] (LT u z f) = some (some (vI (-1)), LT u z f) := by
  have go : ∀ res, _ → mcall (d + 3) 157 [vR 0, vI x1, vI x2] (LT u z f) = some res := fun res H => mcall_i (mq157 (cu := [])).2.2 rfl (vc157_0 (mcall (d + 2)) x1 x2 none z f res H)
  have h : ¬ x1 = -1 := im1n (by omega)
  refine go _ ?_
  repeat' first
    | exact ⟨_, _, _, c_tl5_f d _ hz, rfl⟩
    | contradiction
    | (exfalso; omega)
    | refine ⟨fun q => ?_, fun q => ?_⟩
set_option maxRecDepth 100000 in
theorem b178_1 (call : QC FA) (x1 : Int32) (z : Nat → Int32) (f : Nat → FA) (F : Nat) : rnG call 178 (F + 5) 0 [some (vR 0), some (vI x1)] [] (LT u z f) = rnG call 178 F 5 [some (vR 0), some (vI x1)] [vI ((-1)), vI x1, vI 6, vR 1] (LT u z f) := rfl
set_option maxRecDepth 100000 in
theorem b178_2 (call : QC FA) (x y : Int32) (s0 : Int32) (ls : List (Option PV)) (L : QH FA) (F : Nat) : rnG call 178 (F + 1) 5 ls [vI y, vI x, vI s0, vR 1] L = bif pcmp 1 x y then rnG call 178 F 8 ls [vI s0, vR 1] L else rnG call 178 F 6 ls [vI s0, vR 1] L := rfl
set_option maxRecDepth 100000 in
theorem b178_3 (call : QC FA) (x1 : Int32) (s0 : Int32) (L : QH FA) (F : Nat) : rnG call 178 (F + 2) 8 [some (vR 0), some (vI x1)] [vI s0, vR 1] L = rnG call 178 F 10 [some (vR 0), some (vI x1)] [vI x1, vI 0, vI s0, vR 1] L := rfl
set_option maxRecDepth 100000 in
theorem b178_4 (call : QC FA) (x : Int32) (s0 : Int32) (s1 : Int32) (ls : List (Option PV)) (L : QH FA) (F : Nat) : rnG call 178 (F + 1) 10 ls [vI x, vI s0, vI s1, vR 1] L = bif pcmp 2 x 0 then rnG call 178 F 16 ls [vI s0, vI s1, vR 1] L else rnG call 178 F 11 ls [vI s0, vI s1, vR 1] L := rfl
set_option maxRecDepth 100000 in
theorem b178_5 (call : QC FA) (x1 : Int32) (s0 : Int32) (s1 : Int32) (L : QH FA) (F : Nat) : rnG call 178 (F + 2) 16 [some (vR 0), some (vI x1)] [vI s0, vI s1, vR 1] L = rnG call 178 F 18 [some (vR 0), some (vI x1)] [vI x1, vI 0, vI s0, vI s1, vR 1] L := rfl
set_option maxRecDepth 100000 in
theorem b178_6 (call : QC FA) (a0 : Int32) (a1 : Int32) (a2 : Int32) (a3 : Int32) (ls : List (Option PV)) (z : Nat → Int32) (f : Nat → FA) (F : Nat) : rnG call 178 (F + 1) 18 ls [vI a3, vI a2, vI a1, vI a0, vR 1] (LT u z f) = cbd (call 147 [vR 1, vI a0, vI a1, vI a2, vI a3] (LT u z f)) (fun r L' => rnG call 178 F 19 ls (r.toList ++ []) L') := pcY (ih := rnG call 178 F) (call := call) (a := 147) (b := 4) (v := 10) (t := 19) (x := 1) (ls := ls) (As := [vI a0, vI a1, vI a2, vI a3]) (st' := []) (L := LT u z f) rfl rfl rfl
set_option maxRecDepth 100000 in
theorem b178_7 (call : QC FA) (x : Int32) (ls : List (Option PV)) (L : QH FA) (F : Nat) : rnG call 178 (F + 1) 19 ls [vI x] L = some (some (vI x), L) := rfl
set_option maxRecDepth 100000 in
theorem b178_8 (call : QC FA) (x1 : Int32) (s0 : Int32) (s1 : Int32) (L : QH FA) (F : Nat) : rnG call 178 (F + 2) 11 [some (vR 0), some (vI x1)] [vI s0, vI s1, vR 1] L = rnG call 178 F 13 [some (vR 0), some (vI x1)] [vI 30, vI x1, vI s0, vI s1, vR 1] L := rfl
set_option maxRecDepth 100000 in
theorem b178_9 (call : QC FA) (x y : Int32) (s0 : Int32) (s1 : Int32) (ls : List (Option PV)) (L : QH FA) (F : Nat) : rnG call 178 (F + 1) 13 ls [vI y, vI x, vI s0, vI s1, vR 1] L = bif pcmp 4 x y then rnG call 178 F 16 ls [vI s0, vI s1, vR 1] L else rnG call 178 F 14 ls [vI s0, vI s1, vR 1] L := rfl
set_option maxRecDepth 100000 in
theorem b178_10 (call : QC FA) (x1 : Int32) (s0 : Int32) (s1 : Int32) (L : QH FA) (F : Nat) : rnG call 178 (F + 3) 14 [some (vR 0), some (vI x1)] [vI s0, vI s1, vR 1] L = rnG call 178 F 18 [some (vR 0), some (vI x1)] [vI x1, vI 1, vI s0, vI s1, vR 1] L := rfl
set_option maxRecDepth 100000 in
theorem b178_11 (call : QC FA) (x1 : Int32) (s0 : Int32) (L : QH FA) (F : Nat) : rnG call 178 (F + 3) 6 [some (vR 0), some (vI x1)] [vI s0, vR 1] L = rnG call 178 F 10 [some (vR 0), some (vI x1)] [vI x1, vI 1, vI s0, vR 1] L := rfl
theorem vc178_0 (call : QC FA) (x1 : Int32) (z : Nat → Int32) (f : Nat → FA) (res : Option PV × QH FA) (H : ((¬ x1 = (-1) → ((I x1 < 0 → (∃ (r1 : Int32) (z1 : Nat → Int32) (f1 : Nat → FA), call 147 [vR 1, vI 6, vI 0, vI 0, vI x1] (LT u z f) = some (some (vI r1), LT u z1 f1) ∧ res = (some (vI r1), LT u z1 f1))) ∧ (0 ≤ I x1 → ((30 < I x1 → (∃ (r2 : Int32) (z2 : Nat → Int32) (f2 : Nat → FA), call 147 [vR 1, vI 6, vI 0, vI 0, vI x1] (LT u z f) = some (some (vI r2), LT u z2 f2) ∧ res = (some (vI r2), LT u z2 f2))) ∧ (I x1 ≤ 30 → (∃ (r3 : Int32) (z3 : Nat → Int32) (f3 : Nat → FA), call 147 [vR 1, vI 6, vI 0, vI 1, vI x1] (LT u z f) = some (some (vI r3), LT u z3 f3) ∧ res = (some (vI r3), LT u z3 f3))))))) ∧ (x1 = (-1) → ((I x1 < 0 → (∃ (r4 : Int32) (z4 : Nat → Int32) (f4 : Nat → FA), call 147 [vR 1, vI 6, vI 1, vI 0, vI x1] (LT u z f) = some (some (vI r4), LT u z4 f4) ∧ res = (some (vI r4), LT u z4 f4))) ∧ (0 ≤ I x1 → ((30 < I x1 → (∃ (r5 : Int32) (z5 : Nat → Int32) (f5 : Nat → FA), call 147 [vR 1, vI 6, vI 1, vI 0, vI x1] (LT u z f) = some (some (vI r5), LT u z5 f5) ∧ res = (some (vI r5), LT u z5 f5))) ∧ (I x1 ≤ 30 → (∃ (r6 : Int32) (z6 : Nat → Int32) (f6 : Nat → FA), call 147 [vR 1, vI 6, vI 1, vI 1, vI x1] (LT u z f) = some (some (vI r6), LT u z6 f6) ∧ res = (some (vI r6), LT u z6 f6))))))))) : RC call (mP 178) 0 [some (vR 0), some (vI x1)] [] (LT u z f) res := by
  refine rc_b (i' := 5) (ls' := [some (vR 0), some (vI x1)]) (st' := [vI ((-1)), vI x1, vI 6, vR 1]) (L' := LT u z f) 5 (b178_1 call x1 z f) ?_
  refine rc_if (it := 8) (ie := 6) (ls' := [some (vR 0), some (vI x1)]) (st' := [vI 6, vR 1]) (b178_2 call x1 ((-1)) 6 _ _) (fun q1 => ?_) (fun q1 => ?_)
  · have H := H.1 (cI1t q1)
    refine rc_b (i' := 10) (ls' := [some (vR 0), some (vI x1)]) (st' := [vI x1, vI 0, vI 6, vR 1]) (L' := LT u z f) 2 (b178_3 call x1 6 _) ?_
    refine rc_if (it := 16) (ie := 11) (ls' := [some (vR 0), some (vI x1)]) (st' := [vI 0, vI 6, vR 1]) (b178_4 call x1 0 6 _ _) (fun q2 => ?_) (fun q2 => ?_)
    · have H := H.1 (cI2t q2 rfl rfl)
      refine rc_b (i' := 18) (ls' := [some (vR 0), some (vI x1)]) (st' := [vI x1, vI 0, vI 0, vI 6, vR 1]) (L' := LT u z f) 2 (b178_5 call x1 0 6 _) ?_
      obtain ⟨r1, z1, f1, hc, H⟩ := H
      refine rc_call (t := 19) (ls' := [some (vR 0), some (vI x1)]) (st' := []) (b178_6 call 6 0 0 x1 _ z f) hc ?_
      show RC call (mP 178) 19 [some (vR 0), some (vI x1)] [vI r1] (LT u z1 f1) res
      subst H
      exact rc_ret (b178_7 call _ _ _)
    · have H := H.2 (cI2f q2 rfl rfl)
      refine rc_b (i' := 13) (ls' := [some (vR 0), some (vI x1)]) (st' := [vI 30, vI x1, vI 0, vI 6, vR 1]) (L' := LT u z f) 2 (b178_8 call x1 0 6 _) ?_
      refine rc_if (it := 16) (ie := 14) (ls' := [some (vR 0), some (vI x1)]) (st' := [vI 0, vI 6, vR 1]) (b178_9 call x1 30 0 6 _ _) (fun q3 => ?_) (fun q3 => ?_)
      · have H := H.1 (cI4t q3 rfl rfl)
        refine rc_b (i' := 18) (ls' := [some (vR 0), some (vI x1)]) (st' := [vI x1, vI 0, vI 0, vI 6, vR 1]) (L' := LT u z f) 2 (b178_5 call x1 0 6 _) ?_
        obtain ⟨r2, z2, f2, hc, H⟩ := H
        refine rc_call (t := 19) (ls' := [some (vR 0), some (vI x1)]) (st' := []) (b178_6 call 6 0 0 x1 _ z f) hc ?_
        show RC call (mP 178) 19 [some (vR 0), some (vI x1)] [vI r2] (LT u z2 f2) res
        subst H
        exact rc_ret (b178_7 call _ _ _)
      · have H := H.2 (cI4f q3 rfl rfl)
        refine rc_b (i' := 18) (ls' := [some (vR 0), some (vI x1)]) (st' := [vI x1, vI 1, vI 0, vI 6, vR 1]) (L' := LT u z f) 3 (b178_10 call x1 0 6 _) ?_
        obtain ⟨r3, z3, f3, hc, H⟩ := H
        refine rc_call (t := 19) (ls' := [some (vR 0), some (vI x1)]) (st' := []) (b178_6 call 6 0 1 x1 _ z f) hc ?_
        show RC call (mP 178) 19 [some (vR 0), some (vI x1)] [vI r3] (LT u z3 f3) res
        subst H
        exact rc_ret (b178_7 call _ _ _)
  · have H := H.2 (cI1f q1)
    refine rc_b (i' := 10) (ls' := [some (vR 0), some (vI x1)]) (st' := [vI x1, vI 1, vI 6, vR 1]) (L' := LT u z f) 3 (b178_11 call x1 6 _) ?_
    refine rc_if (it := 16) (ie := 11) (ls' := [some (vR 0), some (vI x1)]) (st' := [vI 1, vI 6, vR 1]) (b178_4 call x1 1 6 _ _) (fun q4 => ?_) (fun q4 => ?_)
    · have H := H.1 (cI2t q4 rfl rfl)
      refine rc_b (i' := 18) (ls' := [some (vR 0), some (vI x1)]) (st' := [vI x1, vI 0, vI 1, vI 6, vR 1]) (L' := LT u z f) 2 (b178_5 call x1 1 6 _) ?_
      obtain ⟨r4, z4, f4, hc, H⟩ := H
      refine rc_call (t := 19) (ls' := [some (vR 0), some (vI x1)]) (st' := []) (b178_6 call 6 1 0 x1 _ z f) hc ?_
      show RC call (mP 178) 19 [some (vR 0), some (vI x1)] [vI r4] (LT u z4 f4) res
      subst H
      exact rc_ret (b178_7 call _ _ _)
    · have H := H.2 (cI2f q4 rfl rfl)
      refine rc_b (i' := 13) (ls' := [some (vR 0), some (vI x1)]) (st' := [vI 30, vI x1, vI 1, vI 6, vR 1]) (L' := LT u z f) 2 (b178_8 call x1 1 6 _) ?_
      refine rc_if (it := 16) (ie := 14) (ls' := [some (vR 0), some (vI x1)]) (st' := [vI 1, vI 6, vR 1]) (b178_9 call x1 30 1 6 _ _) (fun q5 => ?_) (fun q5 => ?_)
      · have H := H.1 (cI4t q5 rfl rfl)
        refine rc_b (i' := 18) (ls' := [some (vR 0), some (vI x1)]) (st' := [vI x1, vI 0, vI 1, vI 6, vR 1]) (L' := LT u z f) 2 (b178_5 call x1 1 6 _) ?_
        obtain ⟨r5, z5, f5, hc, H⟩ := H
        refine rc_call (t := 19) (ls' := [some (vR 0), some (vI x1)]) (st' := []) (b178_6 call 6 1 0 x1 _ z f) hc ?_
        show RC call (mP 178) 19 [some (vR 0), some (vI x1)] [vI r5] (LT u z5 f5) res
        subst H
        exact rc_ret (b178_7 call _ _ _)
      · have H := H.2 (cI4f q5 rfl rfl)
        refine rc_b (i' := 18) (ls' := [some (vR 0), some (vI x1)]) (st' := [vI x1, vI 1, vI 1, vI 6, vR 1]) (L' := LT u z f) 3 (b178_10 call x1 1 6 _) ?_
        obtain ⟨r6, z6, f6, hc, H⟩ := H
        refine rc_call (t := 19) (ls' := [some (vR 0), some (vI x1)]) (st' := []) (b178_6 call 6 1 1 x1 _ z f) hc ?_
        show RC call (mP 178) 19 [some (vR 0), some (vI x1)] [vI r6] (LT u z6 f6) res
        subst H
        exact rc_ret (b178_7 call _ _ _)
theorem c_stands_e (d : Nat) {x1 : Int32} {z : Nat → Int32} {f : Nat → FA} (h : x1 = -1) : mcall (d + 3) 178 [vR 0, vI x1] (LT u z f) = some (some (vI 0), LT u (uZ z 15 0) f) := by
  have go : ∀ res, _ → mcall (d + 3) 178 [vR 0, vI x1] (LT u z f) = some res := fun res H => mcall_i (mq178 (cu := [])).2.2 rfl (vc178_0 (mcall (d + 2)) x1 z f res H)
  have hI := im1 h
  have n0 : ¬ x1 = 0 := in0 (by omega)
  have n1 : ¬ x1 = 1 := in1 (by omega)
  refine go _ ?_
  repeat' first
    | exact ⟨_, _, _, c_tl6_e d _ _, rfl⟩
    | contradiction
    | (exfalso; omega)
    | refine ⟨fun q => ?_, fun q => ?_⟩
theorem c_stands_r (d : Nat) {x1 : Int32} {z : Nat → Int32} {f : Nat → FA} (h : ¬ x1 = -1) (hb : ¬ (0 ≤ I x1 ∧ I x1 ≤ 30)) : mcall (d + 3) 178 [vR 0, vI x1] (LT u z f) = some (some (vI (-1)), LT u z f) := by
  have go : ∀ res, _ → mcall (d + 3) 178 [vR 0, vI x1] (LT u z f) = some res := fun res H => mcall_i (mq178 (cu := [])).2.2 rfl (vc178_0 (mcall (d + 2)) x1 z f res H)
  refine go _ ?_
  repeat' first
    | exact ⟨_, _, _, c_tl6_r d _, rfl⟩
    | contradiction
    | (exfalso; omega)
    | refine ⟨fun q => ?_, fun q => ?_⟩
theorem c_stands_p (d : Nat) {x1 : Int32} {z : Nat → Int32} {f : Nat → FA} {n : Nat} (hb : 0 ≤ I x1 ∧ I x1 ≤ 30) (hz : z 15 = nI n) (hn : n < 12) : mcall (d + 3) 178 [vR 0, vI x1] (LT u z f) = some (some (vI (nI (n + 1))), LT u (uZ z 15 (nI (n + 1))) (uA f 16 (upd (f 16) n x1))) := by
  have go : ∀ res, _ → mcall (d + 3) 178 [vR 0, vI x1] (LT u z f) = some res := fun res H => mcall_i (mq178 (cu := [])).2.2 rfl (vc178_0 (mcall (d + 2)) x1 z f res H)
  have h : ¬ x1 = -1 := im1n (by omega)
  refine go _ ?_
  repeat' first
    | exact ⟨_, _, _, c_tl6_p d _ hz hn, rfl⟩
    | contradiction
    | (exfalso; omega)
    | refine ⟨fun q => ?_, fun q => ?_⟩
theorem c_stands_f (d : Nat) {x1 : Int32} {z : Nat → Int32} {f : Nat → FA} (hb : 0 ≤ I x1 ∧ I x1 ≤ 30) (hz : z 15 = nI 12) : mcall (d + 3) 178 [vR 0, vI x1] (LT u z f) = some (some (vI (-1)), LT u z f) := by
  have go : ∀ res, _ → mcall (d + 3) 178 [vR 0, vI x1] (LT u z f) = some res := fun res H => mcall_i (mq178 (cu := [])).2.2 rfl (vc178_0 (mcall (d + 2)) x1 z f res H)
  have h : ¬ x1 = -1 := im1n (by omega)
  refine go _ ?_
  repeat' first
    | exact ⟨_, _, _, c_tl6_f d _ hz, rfl⟩
    | contradiction
    | (exfalso; omega)
    | refine ⟨fun q => ?_, fun q => ?_⟩
set_option maxRecDepth 100000 in
theorem b150_1 (call : QC FA) (x1 : Int32) (x2 : Int32) (z : Nat → Int32) (f : Nat → FA) (F : Nat) : rnG call 150 (F + 5) 0 [some (vR 0), some (vI x1), some (vI x2)] [] (LT u z f) = rnG call 150 F 5 [some (vR 0), some (vI x1), some (vI x2)] [vI ((-1)), vI x1, vI 7, vR 1] (LT u z f) := rfl
set_option maxRecDepth 100000 in
theorem b150_2 (call : QC FA) (x y : Int32) (s0 : Int32) (ls : List (Option PV)) (L : QH FA) (F : Nat) : rnG call 150 (F + 1) 5 ls [vI y, vI x, vI s0, vR 1] L = bif pcmp 1 x y then rnG call 150 F 8 ls [vI s0, vR 1] L else rnG call 150 F 6 ls [vI s0, vR 1] L := rfl
set_option maxRecDepth 100000 in
theorem b150_3 (call : QC FA) (x1 : Int32) (x2 : Int32) (s0 : Int32) (L : QH FA) (F : Nat) : rnG call 150 (F + 3) 8 [some (vR 0), some (vI x1), some (vI x2)] [vI s0, vR 1] L = rnG call 150 F 11 [some (vR 0), some (vI x1), some (vI x2)] [vI x2, vI x1, vI 0, vI s0, vR 1] L := rfl
set_option maxRecDepth 100000 in
theorem b150_4 (call : QC FA) (a0 : Int32) (a1 : Int32) (s0 : Int32) (s1 : Int32) (ls : List (Option PV)) (z : Nat → Int32) (f : Nat → FA) (F : Nat) : rnG call 150 (F + 1) 11 ls [vI a1, vI a0, vI s0, vI s1, vR 1] (LT u z f) = cbd (call 183 [vI a0, vI a1] (LT u z f)) (fun r L' => rnG call 150 F 12 ls (r.toList ++ [vI s0, vI s1, vR 1]) L') := pcZ (ih := rnG call 150 F) (call := call) (a := 183) (b := 2) (t := 12) (ls := ls) (As := [vI a0, vI a1]) (st' := [vI s0, vI s1, vR 1]) (L := LT u z f) rfl rfl
set_option maxRecDepth 100000 in
theorem b150_5 (call : QC FA) (x1 : Int32) (x2 : Int32) (s0 : Int32) (s1 : Int32) (s2 : Int32) (L : QH FA) (F : Nat) : rnG call 150 (F + 5) 12 [some (vR 0), some (vI x1), some (vI x2)] [vI s0, vI s1, vI s2, vR 1] L = rnG call 150 F 17 [some (vR 0), some (vI x1), some (vI x2)] [vI ((x1 * 256) + x2), vI s0, vI s1, vI s2, vR 1] L := rfl
set_option maxRecDepth 100000 in
theorem b150_6 (call : QC FA) (a0 : Int32) (a1 : Int32) (a2 : Int32) (a3 : Int32) (ls : List (Option PV)) (z : Nat → Int32) (f : Nat → FA) (F : Nat) : rnG call 150 (F + 1) 17 ls [vI a3, vI a2, vI a1, vI a0, vR 1] (LT u z f) = cbd (call 147 [vR 1, vI a0, vI a1, vI a2, vI a3] (LT u z f)) (fun r L' => rnG call 150 F 18 ls (r.toList ++ []) L') := pcY (ih := rnG call 150 F) (call := call) (a := 147) (b := 4) (v := 10) (t := 18) (x := 1) (ls := ls) (As := [vI a0, vI a1, vI a2, vI a3]) (st' := []) (L := LT u z f) rfl rfl rfl
set_option maxRecDepth 100000 in
theorem b150_7 (call : QC FA) (x : Int32) (ls : List (Option PV)) (L : QH FA) (F : Nat) : rnG call 150 (F + 1) 18 ls [vI x] L = some (some (vI x), L) := rfl
set_option maxRecDepth 100000 in
theorem b150_8 (call : QC FA) (x1 : Int32) (x2 : Int32) (s0 : Int32) (L : QH FA) (F : Nat) : rnG call 150 (F + 4) 6 [some (vR 0), some (vI x1), some (vI x2)] [vI s0, vR 1] L = rnG call 150 F 11 [some (vR 0), some (vI x1), some (vI x2)] [vI x2, vI x1, vI 1, vI s0, vR 1] L := rfl
theorem vc150_0 (call : QC FA) (x1 : Int32) (x2 : Int32) (z : Nat → Int32) (f : Nat → FA) (res : Option PV × QH FA) (H : ((¬ x1 = (-1) → (∃ (r1 : Int32) (z1 : Nat → Int32) (f1 : Nat → FA), call 183 [vI x1, vI x2] (LT u z f) = some (some (vI r1), LT u z1 f1) ∧ (∃ (r2 : Int32) (z2 : Nat → Int32) (f2 : Nat → FA), call 147 [vR 1, vI 7, vI 0, vI r1, vI ((x1 * 256) + x2)] (LT u z1 f1) = some (some (vI r2), LT u z2 f2) ∧ res = (some (vI r2), LT u z2 f2)))) ∧ (x1 = (-1) → (∃ (r3 : Int32) (z3 : Nat → Int32) (f3 : Nat → FA), call 183 [vI x1, vI x2] (LT u z f) = some (some (vI r3), LT u z3 f3) ∧ (∃ (r4 : Int32) (z4 : Nat → Int32) (f4 : Nat → FA), call 147 [vR 1, vI 7, vI 1, vI r3, vI ((x1 * 256) + x2)] (LT u z3 f3) = some (some (vI r4), LT u z4 f4) ∧ res = (some (vI r4), LT u z4 f4)))))) : RC call (mP 150) 0 [some (vR 0), some (vI x1), some (vI x2)] [] (LT u z f) res := by
  refine rc_b (i' := 5) (ls' := [some (vR 0), some (vI x1), some (vI x2)]) (st' := [vI ((-1)), vI x1, vI 7, vR 1]) (L' := LT u z f) 5 (b150_1 call x1 x2 z f) ?_
  refine rc_if (it := 8) (ie := 6) (ls' := [some (vR 0), some (vI x1), some (vI x2)]) (st' := [vI 7, vR 1]) (b150_2 call x1 ((-1)) 7 _ _) (fun q1 => ?_) (fun q1 => ?_)
  · have H := H.1 (cI1t q1)
    refine rc_b (i' := 11) (ls' := [some (vR 0), some (vI x1), some (vI x2)]) (st' := [vI x2, vI x1, vI 0, vI 7, vR 1]) (L' := LT u z f) 3 (b150_3 call x1 x2 7 _) ?_
    obtain ⟨r1, z1, f1, hc, H⟩ := H
    refine rc_call (t := 12) (ls' := [some (vR 0), some (vI x1), some (vI x2)]) (st' := [vI 0, vI 7, vR 1]) (b150_4 call x1 x2 0 7 _ z f) hc ?_
    show RC call (mP 150) 12 [some (vR 0), some (vI x1), some (vI x2)] [vI r1, vI 0, vI 7, vR 1] (LT u z1 f1) res
    refine rc_b (i' := 17) (ls' := [some (vR 0), some (vI x1), some (vI x2)]) (st' := [vI ((x1 * 256) + x2), vI r1, vI 0, vI 7, vR 1]) (L' := LT u z1 f1) 5 (b150_5 call x1 x2 r1 0 7 _) ?_
    obtain ⟨r2, z2, f2, hc, H⟩ := H
    refine rc_call (t := 18) (ls' := [some (vR 0), some (vI x1), some (vI x2)]) (st' := []) (b150_6 call 7 0 r1 ((x1 * 256) + x2) _ z1 f1) hc ?_
    show RC call (mP 150) 18 [some (vR 0), some (vI x1), some (vI x2)] [vI r2] (LT u z2 f2) res
    subst H
    exact rc_ret (b150_7 call _ _ _)
  · have H := H.2 (cI1f q1)
    refine rc_b (i' := 11) (ls' := [some (vR 0), some (vI x1), some (vI x2)]) (st' := [vI x2, vI x1, vI 1, vI 7, vR 1]) (L' := LT u z f) 4 (b150_8 call x1 x2 7 _) ?_
    obtain ⟨r3, z3, f3, hc, H⟩ := H
    refine rc_call (t := 12) (ls' := [some (vR 0), some (vI x1), some (vI x2)]) (st' := [vI 1, vI 7, vR 1]) (b150_4 call x1 x2 1 7 _ z f) hc ?_
    show RC call (mP 150) 12 [some (vR 0), some (vI x1), some (vI x2)] [vI r3, vI 1, vI 7, vR 1] (LT u z3 f3) res
    refine rc_b (i' := 17) (ls' := [some (vR 0), some (vI x1), some (vI x2)]) (st' := [vI ((x1 * 256) + x2), vI r3, vI 1, vI 7, vR 1]) (L' := LT u z3 f3) 5 (b150_5 call x1 x2 r3 1 7 _) ?_
    obtain ⟨r4, z4, f4, hc, H⟩ := H
    refine rc_call (t := 18) (ls' := [some (vR 0), some (vI x1), some (vI x2)]) (st' := []) (b150_6 call 7 1 r3 ((x1 * 256) + x2) _ z3 f3) hc ?_
    show RC call (mP 150) 18 [some (vR 0), some (vI x1), some (vI x2)] [vI r4] (LT u z4 f4) res
    subst H
    exact rc_ret (b150_7 call _ _ _)
theorem c_bill_e (d : Nat) {x1 x2 : Int32} {z : Nat → Int32} {f : Nat → FA} (h : x1 = -1) : mcall (d + 3) 150 [vR 0, vI x1, vI x2] (LT u z f) = some (some (vI 0), LT u (uZ z 17 0) f) := by
  have go : ∀ res, _ → mcall (d + 3) 150 [vR 0, vI x1, vI x2] (LT u z f) = some res := fun res H => mcall_i (mq150 (cu := [])).2.2 rfl (vc150_0 (mcall (d + 2)) x1 x2 z f res H)
  have hb : ¬ (0 ≤ I x1 ∧ I x1 < 8 ∧ 0 ≤ I x2 ∧ I x2 < 8 ∧ ¬ x1 = x2) := fun q => by have := im1 h; omega
  exact go _ ⟨fun q => absurd h q, fun _ => ⟨_, _, _, c_ul_n (d + 1) hb, _, _, _, c_tl7_e d _ _, rfl⟩⟩
theorem c_bill_r (d : Nat) {x1 x2 : Int32} {z : Nat → Int32} {f : Nat → FA} (h : ¬ x1 = -1) (hb : ¬ (0 ≤ I x1 ∧ I x1 < 8 ∧ 0 ≤ I x2 ∧ I x2 < 8 ∧ ¬ x1 = x2)) : mcall (d + 3) 150 [vR 0, vI x1, vI x2] (LT u z f) = some (some (vI (-1)), LT u z f) := by
  have go : ∀ res, _ → mcall (d + 3) 150 [vR 0, vI x1, vI x2] (LT u z f) = some res := fun res H => mcall_i (mq150 (cu := [])).2.2 rfl (vc150_0 (mcall (d + 2)) x1 x2 z f res H)
  exact go _ ⟨fun _ => ⟨_, _, _, c_ul_n (d + 1) hb, _, _, _, c_tl7_r d _, rfl⟩, fun q => absurd q h⟩
theorem c_bill_p (d : Nat) {x1 x2 : Int32} {z : Nat → Int32} {f : Nat → FA} {n : Nat} (hb : 0 ≤ I x1 ∧ I x1 < 8 ∧ 0 ≤ I x2 ∧ I x2 < 8 ∧ ¬ x1 = x2) (hz : z 17 = nI n) (hn : n < 12) : mcall (d + 3) 150 [vR 0, vI x1, vI x2] (LT u z f) = some (some (vI (nI (n + 1))), LT u (uZ z 17 (nI (n + 1))) (uA f 18 (upd (f 18) n (x1 * 256 + x2)))) := by
  have go : ∀ res, _ → mcall (d + 3) 150 [vR 0, vI x1, vI x2] (LT u z f) = some res := fun res H => mcall_i (mq150 (cu := [])).2.2 rfl (vc150_0 (mcall (d + 2)) x1 x2 z f res H)
  have h : ¬ x1 = -1 := im1n (by omega)
  exact go _ ⟨fun _ => ⟨_, _, _, c_ul_y (d + 1) hb, _, _, _, c_tl7_p d _ hz hn, rfl⟩, fun q => absurd q h⟩
theorem c_bill_f (d : Nat) {x1 x2 : Int32} {z : Nat → Int32} {f : Nat → FA} (hb : 0 ≤ I x1 ∧ I x1 < 8 ∧ 0 ≤ I x2 ∧ I x2 < 8 ∧ ¬ x1 = x2) (hz : z 17 = nI 12) : mcall (d + 3) 150 [vR 0, vI x1, vI x2] (LT u z f) = some (some (vI (-1)), LT u z f) := by
  have go : ∀ res, _ → mcall (d + 3) 150 [vR 0, vI x1, vI x2] (LT u z f) = some res := fun res H => mcall_i (mq150 (cu := [])).2.2 rfl (vc150_0 (mcall (d + 2)) x1 x2 z f res H)
  have h : ¬ x1 = -1 := im1n (by omega)
  exact go _ ⟨fun _ => ⟨_, _, _, c_ul_y (d + 1) hb, _, _, _, c_tl7_f d _ hz, rfl⟩, fun q => absurd q h⟩
set_option maxRecDepth 100000 in
theorem b149_1 (call : QC FA) (x1 : Int32) (x2 : Int32) (z : Nat → Int32) (f : Nat → FA) (F : Nat) : rnG call 149 (F + 5) 0 [some (vR 0), some (vI x1), some (vI x2)] [] (LT u z f) = rnG call 149 F 5 [some (vR 0), some (vI x1), some (vI x2)] [vI ((-1)), vI x1, vI 8, vR 1] (LT u z f) := rfl
set_option maxRecDepth 100000 in
theorem b149_2 (call : QC FA) (x y : Int32) (s0 : Int32) (ls : List (Option PV)) (L : QH FA) (F : Nat) : rnG call 149 (F + 1) 5 ls [vI y, vI x, vI s0, vR 1] L = bif pcmp 1 x y then rnG call 149 F 8 ls [vI s0, vR 1] L else rnG call 149 F 6 ls [vI s0, vR 1] L := rfl
set_option maxRecDepth 100000 in
theorem b149_3 (call : QC FA) (x1 : Int32) (x2 : Int32) (s0 : Int32) (L : QH FA) (F : Nat) : rnG call 149 (F + 3) 8 [some (vR 0), some (vI x1), some (vI x2)] [vI s0, vR 1] L = rnG call 149 F 11 [some (vR 0), some (vI x1), some (vI x2)] [vI x2, vI x1, vI 0, vI s0, vR 1] L := rfl
set_option maxRecDepth 100000 in
theorem b149_4 (call : QC FA) (a0 : Int32) (a1 : Int32) (s0 : Int32) (s1 : Int32) (ls : List (Option PV)) (z : Nat → Int32) (f : Nat → FA) (F : Nat) : rnG call 149 (F + 1) 11 ls [vI a1, vI a0, vI s0, vI s1, vR 1] (LT u z f) = cbd (call 183 [vI a0, vI a1] (LT u z f)) (fun r L' => rnG call 149 F 12 ls (r.toList ++ [vI s0, vI s1, vR 1]) L') := pcZ (ih := rnG call 149 F) (call := call) (a := 183) (b := 2) (t := 12) (ls := ls) (As := [vI a0, vI a1]) (st' := [vI s0, vI s1, vR 1]) (L := LT u z f) rfl rfl
set_option maxRecDepth 100000 in
theorem b149_5 (call : QC FA) (x1 : Int32) (x2 : Int32) (s0 : Int32) (s1 : Int32) (s2 : Int32) (L : QH FA) (F : Nat) : rnG call 149 (F + 5) 12 [some (vR 0), some (vI x1), some (vI x2)] [vI s0, vI s1, vI s2, vR 1] L = rnG call 149 F 17 [some (vR 0), some (vI x1), some (vI x2)] [vI ((x1 * 256) + x2), vI s0, vI s1, vI s2, vR 1] L := rfl
set_option maxRecDepth 100000 in
theorem b149_6 (call : QC FA) (a0 : Int32) (a1 : Int32) (a2 : Int32) (a3 : Int32) (ls : List (Option PV)) (z : Nat → Int32) (f : Nat → FA) (F : Nat) : rnG call 149 (F + 1) 17 ls [vI a3, vI a2, vI a1, vI a0, vR 1] (LT u z f) = cbd (call 147 [vR 1, vI a0, vI a1, vI a2, vI a3] (LT u z f)) (fun r L' => rnG call 149 F 18 ls (r.toList ++ []) L') := pcY (ih := rnG call 149 F) (call := call) (a := 147) (b := 4) (v := 10) (t := 18) (x := 1) (ls := ls) (As := [vI a0, vI a1, vI a2, vI a3]) (st' := []) (L := LT u z f) rfl rfl rfl
set_option maxRecDepth 100000 in
theorem b149_7 (call : QC FA) (x : Int32) (ls : List (Option PV)) (L : QH FA) (F : Nat) : rnG call 149 (F + 1) 18 ls [vI x] L = some (some (vI x), L) := rfl
set_option maxRecDepth 100000 in
theorem b149_8 (call : QC FA) (x1 : Int32) (x2 : Int32) (s0 : Int32) (L : QH FA) (F : Nat) : rnG call 149 (F + 4) 6 [some (vR 0), some (vI x1), some (vI x2)] [vI s0, vR 1] L = rnG call 149 F 11 [some (vR 0), some (vI x1), some (vI x2)] [vI x2, vI x1, vI 1, vI s0, vR 1] L := rfl
theorem vc149_0 (call : QC FA) (x1 : Int32) (x2 : Int32) (z : Nat → Int32) (f : Nat → FA) (res : Option PV × QH FA) (H : ((¬ x1 = (-1) → (∃ (r1 : Int32) (z1 : Nat → Int32) (f1 : Nat → FA), call 183 [vI x1, vI x2] (LT u z f) = some (some (vI r1), LT u z1 f1) ∧ (∃ (r2 : Int32) (z2 : Nat → Int32) (f2 : Nat → FA), call 147 [vR 1, vI 8, vI 0, vI r1, vI ((x1 * 256) + x2)] (LT u z1 f1) = some (some (vI r2), LT u z2 f2) ∧ res = (some (vI r2), LT u z2 f2)))) ∧ (x1 = (-1) → (∃ (r3 : Int32) (z3 : Nat → Int32) (f3 : Nat → FA), call 183 [vI x1, vI x2] (LT u z f) = some (some (vI r3), LT u z3 f3) ∧ (∃ (r4 : Int32) (z4 : Nat → Int32) (f4 : Nat → FA), call 147 [vR 1, vI 8, vI 1, vI r3, vI ((x1 * 256) + x2)] (LT u z3 f3) = some (some (vI r4), LT u z4 f4) ∧ res = (some (vI r4), LT u z4 f4)))))) : RC call (mP 149) 0 [some (vR 0), some (vI x1), some (vI x2)] [] (LT u z f) res := by
  refine rc_b (i' := 5) (ls' := [some (vR 0), some (vI x1), some (vI x2)]) (st' := [vI ((-1)), vI x1, vI 8, vR 1]) (L' := LT u z f) 5 (b149_1 call x1 x2 z f) ?_
  refine rc_if (it := 8) (ie := 6) (ls' := [some (vR 0), some (vI x1), some (vI x2)]) (st' := [vI 8, vR 1]) (b149_2 call x1 ((-1)) 8 _ _) (fun q1 => ?_) (fun q1 => ?_)
  · have H := H.1 (cI1t q1)
    refine rc_b (i' := 11) (ls' := [some (vR 0), some (vI x1), some (vI x2)]) (st' := [vI x2, vI x1, vI 0, vI 8, vR 1]) (L' := LT u z f) 3 (b149_3 call x1 x2 8 _) ?_
    obtain ⟨r1, z1, f1, hc, H⟩ := H
    refine rc_call (t := 12) (ls' := [some (vR 0), some (vI x1), some (vI x2)]) (st' := [vI 0, vI 8, vR 1]) (b149_4 call x1 x2 0 8 _ z f) hc ?_
    show RC call (mP 149) 12 [some (vR 0), some (vI x1), some (vI x2)] [vI r1, vI 0, vI 8, vR 1] (LT u z1 f1) res
    refine rc_b (i' := 17) (ls' := [some (vR 0), some (vI x1), some (vI x2)]) (st' := [vI ((x1 * 256) + x2), vI r1, vI 0, vI 8, vR 1]) (L' := LT u z1 f1) 5 (b149_5 call x1 x2 r1 0 8 _) ?_
    obtain ⟨r2, z2, f2, hc, H⟩ := H
    refine rc_call (t := 18) (ls' := [some (vR 0), some (vI x1), some (vI x2)]) (st' := []) (b149_6 call 8 0 r1 ((x1 * 256) + x2) _ z1 f1) hc ?_
    show RC call (mP 149) 18 [some (vR 0), some (vI x1), some (vI x2)] [vI r2] (LT u z2 f2) res
    subst H
    exact rc_ret (b149_7 call _ _ _)
  · have H := H.2 (cI1f q1)
    refine rc_b (i' := 11) (ls' := [some (vR 0), some (vI x1), some (vI x2)]) (st' := [vI x2, vI x1, vI 1, vI 8, vR 1]) (L' := LT u z f) 4 (b149_8 call x1 x2 8 _) ?_
    obtain ⟨r3, z3, f3, hc, H⟩ := H
    refine rc_call (t := 12) (ls' := [some (vR 0), some (vI x1), some (vI x2)]) (st' := [vI 1, vI 8, vR 1]) (b149_4 call x1 x2 1 8 _ z f) hc ?_
    show RC call (mP 149) 12 [some (vR 0), some (vI x1), some (vI x2)] [vI r3, vI 1, vI 8, vR 1] (LT u z3 f3) res
    refine rc_b (i' := 17) (ls' := [some (vR 0), some (vI x1), some (vI x2)]) (st' := [vI ((x1 * 256) + x2), vI r3, vI 1, vI 8, vR 1]) (L' := LT u z3 f3) 5 (b149_5 call x1 x2 r3 1 8 _) ?_
    obtain ⟨r4, z4, f4, hc, H⟩ := H
    refine rc_call (t := 18) (ls' := [some (vR 0), some (vI x1), some (vI x2)]) (st' := []) (b149_6 call 8 1 r3 ((x1 * 256) + x2) _ z3 f3) hc ?_
    show RC call (mP 149) 18 [some (vR 0), some (vI x1), some (vI x2)] [vI r4] (LT u z4 f4) res
    subst H
    exact rc_ret (b149_7 call _ _ _)
theorem c_before_e (d : Nat) {x1 x2 : Int32} {z : Nat → Int32} {f : Nat → FA} (h : x1 = -1) : mcall (d + 3) 149 [vR 0, vI x1, vI x2] (LT u z f) = some (some (vI 0), LT u (uZ z 19 0) f) := by
  have go : ∀ res, _ → mcall (d + 3) 149 [vR 0, vI x1, vI x2] (LT u z f) = some res := fun res H => mcall_i (mq149 (cu := [])).2.2 rfl (vc149_0 (mcall (d + 2)) x1 x2 z f res H)
  have hb : ¬ (0 ≤ I x1 ∧ I x1 < 8 ∧ 0 ≤ I x2 ∧ I x2 < 8 ∧ ¬ x1 = x2) := fun q => by have := im1 h; omega
  exact go _ ⟨fun q => absurd h q, fun _ => ⟨_, _, _, c_ul_n (d + 1) hb, _, _, _, c_tl8_e d _ _, rfl⟩⟩
theorem c_before_r (d : Nat) {x1 x2 : Int32} {z : Nat → Int32} {f : Nat → FA} (h : ¬ x1 = -1) (hb : ¬ (0 ≤ I x1 ∧ I x1 < 8 ∧ 0 ≤ I x2 ∧ I x2 < 8 ∧ ¬ x1 = x2)) : mcall (d + 3) 149 [vR 0, vI x1, vI x2] (LT u z f) = some (some (vI (-1)), LT u z f) := by
  have go : ∀ res, _ → mcall (d + 3) 149 [vR 0, vI x1, vI x2] (LT u z f) = some res := fun res H => mcall_i (mq149 (cu := [])).2.2 rfl (vc149_0 (mcall (d + 2)) x1 x2 z f res H)
  exact go _ ⟨fun _ => ⟨_, _, _, c_ul_n (d + 1) hb, _, _, _, c_tl8_r d _, rfl⟩, fun q => absurd q h⟩
theorem c_before_p (d : Nat) {x1 x2 : Int32} {z : Nat → Int32} {f : Nat → FA} {n : Nat} (hb : 0 ≤ I x1 ∧ I x1 < 8 ∧ 0 ≤ I x2 ∧ I x2 < 8 ∧ ¬ x1 = x2) (hz : z 19 = nI n) (hn : n < 12) : mcall (d + 3) 149 [vR 0, vI x1, vI x2] (LT u z f) = some (some (vI (nI (n + 1))), LT u (uZ z 19 (nI (n + 1))) (uA f 20 (upd (f 20) n (x1 * 256 + x2)))) := by
  have go : ∀ res, _ → mcall (d + 3) 149 [vR 0, vI x1, vI x2] (LT u z f) = some res := fun res H => mcall_i (mq149 (cu := [])).2.2 rfl (vc149_0 (mcall (d + 2)) x1 x2 z f res H)
  have h : ¬ x1 = -1 := im1n (by omega)
  exact go _ ⟨fun _ => ⟨_, _, _, c_ul_y (d + 1) hb, _, _, _, c_tl8_p d _ hz hn, rfl⟩, fun q => absurd q h⟩
theorem c_before_f (d : Nat) {x1 x2 : Int32} {z : Nat → Int32} {f : Nat → FA} (hb : 0 ≤ I x1 ∧ I x1 < 8 ∧ 0 ≤ I x2 ∧ I x2 < 8 ∧ ¬ x1 = x2) (hz : z 19 = nI 12) : mcall (d + 3) 149 [vR 0, vI x1, vI x2] (LT u z f) = some (some (vI (-1)), LT u z f) := by
  have go : ∀ res, _ → mcall (d + 3) 149 [vR 0, vI x1, vI x2] (LT u z f) = some res := fun res H => mcall_i (mq149 (cu := [])).2.2 rfl (vc149_0 (mcall (d + 2)) x1 x2 z f res H)
  have h : ¬ x1 = -1 := im1n (by omega)
  exact go _ ⟨fun _ => ⟨_, _, _, c_ul_y (d + 1) hb, _, _, _, c_tl8_f d _ hz, rfl⟩, fun q => absurd q h⟩
end TLs
