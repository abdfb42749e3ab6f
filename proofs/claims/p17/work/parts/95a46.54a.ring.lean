/-! steps back: the reference's rows -/
theorem uZ_uZ (z : Nat → Int32) (j : Nat) (a b : Int32) : uZ (uZ z j a) j b = uZ z j b := by
  funext i
  unfold uZ
  by_cases q : i = j
  · rw [if_pos q, if_pos q]
  · rw [if_neg q, if_neg q, if_neg q]
def kpS (g h : FA) (b x : Nat) : FA := fun j => if b ≤ j ∧ j < b + x then h (j - b) else g j
theorem kpS_0 (g h : FA) (b : Nat) : kpS g h b 0 = g := by
  funext j
  exact if_neg (by omega)
theorem kpS_s (g h : FA) (b x : Nat) : upd (kpS g h b x) (b + x) (h x) = kpS g h b (x + 1) := by
  funext j
  unfold upd kpS
  by_cases e : j = b + x
  · subst e
    rw [if_pos rfl, if_pos ⟨by omega, by omega⟩, Nat.add_sub_cancel_left]
  · rw [if_neg e]
    by_cases q : b ≤ j ∧ j < b + x
    · rw [if_pos q, if_pos ⟨q.1, by omega⟩]
    · rw [if_neg q, if_neg (by omega)]
theorem kpS_in (g h : FA) {b x i : Nat} (hi : i < x) : kpS g h b x (b + i) = h i := by
  unfold kpS
  rw [if_pos ⟨by omega, by omega⟩, Nat.add_sub_cancel_left]
theorem kpS_lo (g h : FA) {b x j : Nat} (hj : j < b) : kpS g h b x j = g j := if_neg (by omega)
def shS (g : FA) (x : Nat) : FA := fun j => if j < x then g (j + 499) else g j
theorem shS_0 (g : FA) : shS g 0 = g := by
  funext j
  exact if_neg (by omega)
theorem shS_s (g : FA) (x : Nat) : upd (shS g x) x (g (x + 499)) = shS g (x + 1) := by
  funext j
  unfold upd shS
  by_cases e : j = x
  · subst e
    rw [if_pos rfl, if_pos (by omega)]
  · rw [if_neg e]
    by_cases q : j < x
    · rw [if_pos q, if_pos (by omega)]
    · rw [if_neg q, if_neg (by omega)]
theorem shS_hi (g : FA) {x j : Nat} (h : x ≤ j) : shS g x j = g j := if_neg (by omega)
def cpU (g h : FA) (b x : Nat) : FA := fun j => if j < x then g (b + j) else h j
theorem cpU_0 (g h : FA) (b : Nat) : cpU g h b 0 = h := by
  funext j
  exact if_neg (by omega)
theorem cpU_s (g h : FA) (b x : Nat) : upd (cpU g h b x) x (g (b + x)) = cpU g h b (x + 1) := by
  funext j
  unfold upd cpU
  by_cases e : j = x
  · subst e
    rw [if_pos rfl, if_pos (by omega)]
  · rw [if_neg e]
    by_cases q : j < x
    · rw [if_pos q, if_pos (by omega)]
    · rw [if_neg q, if_neg (by omega)]
set_option maxRecDepth 100000 in
theorem b230_1 (call : QC FA) (o1 : Option PV) (z : Nat → Int32) (f : Nat → FA) (F : Nat) : rnG call 230 (F + 3) 0 [some (vR 0), o1] [] (LR z f) = rnG call 230 F 3 [some (vR 0), o1] [vI 6, vI (z 3)] (LR z f) := rfl
set_option maxRecDepth 100000 in
theorem b230_2 (call : QC FA) (x y : Int32) (ls : List (Option PV)) (L : QH FA) (F : Nat) : rnG call 230 (F + 1) 3 ls [vI y, vI x] L = bif pcmp 1 x y then rnG call 230 F 30 ls [] L else rnG call 230 F 4 ls [] L := rfl
set_option maxRecDepth 100000 in
theorem b230_3 (call : QC FA) (o1 : Option PV) (L : QH FA) (F : Nat) : rnG call 230 (F + 2) 30 [some (vR 0), o1] [] L = rnG call 230 F 32 [some (vR 0), some (vI 0)] [] L := rfl
set_option maxRecDepth 100000 in
theorem b230_4 (call : QC FA) (o1 : Option PV) (z : Nat → Int32) (f : Nat → FA) (F : Nat) : rnG call 230 (F + 5) 4 [some (vR 0), o1] [] (LR z f) = rnG call 230 F 9 [some (vR 0), o1] [vI ((z 3) - 1), vR 0] (LR z f) := rfl
set_option maxRecDepth 100000 in
theorem b230_5 (call : QC FA) (y : Int32) (ls : List (Option PV)) (z : Nat → Int32) (f : Nat → FA) (F : Nat) : rnG call 230 (F + 1) 9 ls [vI y, vR 0] (LR z f) = rnG call 230 F 10 ls [] (LR (uZ z 3 y) f) := rfl
set_option maxRecDepth 100000 in
theorem b230_6 (call : QC FA) (o1 : Option PV) (L : QH FA) (F : Nat) : rnG call 230 (F + 2) 10 [some (vR 0), o1] [] L = rnG call 230 F 12 [some (vR 0), some (vI 0)] [] L := rfl
theorem vc230_0 (d : Nat) (o1 : Option PV) (z : Nat → Int32) (f : Nat → FA) (res : Option PV × QH FA) (H : ((¬ z 3 = 6 → RC (mcall (d + 2)) (mP 230) 32 [some (vR 0), some (vI 0)] [] (LR z f) res) ∧ (z 3 = 6 → RC (mcall (d + 2)) (mP 230) 12 [some (vR 0), some (vI 0)] [] (LR (uZ z 3 ((z 3) - 1)) f) res))) : RC (mcall (d + 2)) (mP 230) 0 [some (vR 0), o1] [] (LR z f) res := by
  refine rc_b (i' := 3) (ls' := [some (vR 0), o1]) (st' := [vI 6, vI (z 3)]) (L' := LR z f) 3 (b230_1 (mcall (d + 2)) o1 z f) ?_
  refine rc_if (it := 30) (ie := 4) (ls' := [some (vR 0), o1]) (st' := []) (b230_2 (mcall (d + 2)) (z 3) 6 _ _) (fun q1 => ?_) (fun q1 => ?_)
  · have H := H.1 (cI1t q1)
    refine rc_b (i' := 32) (ls' := [some (vR 0), some (vI 0)]) (st' := []) (L' := LR z f) 2 (b230_3 (mcall (d + 2)) o1 _) ?_
    exact H
  · have H := H.2 (cI1f q1)
    refine rc_b (i' := 9) (ls' := [some (vR 0), o1]) (st' := [vI ((z 3) - 1), vR 0]) (L' := LR z f) 5 (b230_4 (mcall (d + 2)) o1 z f) ?_
    refine rc_b (i' := 10) (ls' := [some (vR 0), o1]) (st' := []) (L' := LR (uZ z 3 ((z 3) - 1)) f) 1 (b230_5 (mcall (d + 2)) ((z 3) - 1) _ z f) ?_
    refine rc_b (i' := 12) (ls' := [some (vR 0), some (vI 0)]) (st' := []) (L' := LR (uZ z 3 ((z 3) - 1)) f) 2 (b230_6 (mcall (d + 2)) o1 _) ?_
    exact H
set_option maxRecDepth 100000 in
theorem bc12_230_1 (call : QC FA) (x1 : Int32) (z : Nat → Int32) (f : Nat → FA) (F : Nat) : rnG call 230 (F + 5) 12 [some (vR 0), some (vI x1)] [] (LR z f) = rnG call 230 F 17 [some (vR 0), some (vI x1)] [vI (499 * (z 3)), vI x1] (LR z f) := rfl
set_option maxRecDepth 100000 in
theorem bc12_230_2 (call : QC FA) (x y : Int32) (ls : List (Option PV)) (L : QH FA) (F : Nat) : rnG call 230 (F + 1) 17 ls [vI y, vI x] L = bif pcmp 3 x y then rnG call 230 F 30 ls [] L else rnG call 230 F 18 ls [] L := rfl
set_option maxRecDepth 100000 in
theorem bc12_230_3 (call : QC FA) (x1 : Int32) (L : QH FA) (F : Nat) : rnG call 230 (F + 2) 30 [some (vR 0), some (vI x1)] [] L = rnG call 230 F 32 [some (vR 0), some (vI 0)] [] L := rfl
set_option maxRecDepth 100000 in
theorem bc12_230_4 (call : QC FA) (x1 : Int32) (z : Nat → Int32) (f : Nat → FA) (F : Nat) : rnG call 230 (F + 8) 18 [some (vR 0), some (vI x1)] [] (LR z f) = rnG call 230 F 26 [some (vR 0), some (vI x1)] [vI (x1 + 499), vR 2, vI x1, vR 2] (LR z f) := rfl
set_option maxRecDepth 100000 in
theorem bc12_230_5 (call : QC FA) (x : Int32) (s0 : Int32) (ls : List (Option PV)) (z : Nat → Int32) (f : Nat → FA) (F : Nat) : rnG call 230 (F + 1) 26 ls [vI x, vR 2, vI s0, vR 2] (LR z f) = bif (Nat.beq 0 0 && pin x 2994) then rnG call 230 F 27 ls [vI (f 2 (ix x)), vI s0, vR 2] (LR z f) else none := rfl
set_option maxRecDepth 100000 in
theorem bc12_230_6 (call : QC FA) (x y : Int32) (ls : List (Option PV)) (z : Nat → Int32) (f : Nat → FA) (F : Nat) : rnG call 230 (F + 1) 27 ls [vI y, vI x, vR 2] (LR z f) = bif (Nat.beq 0 0 && pin x 2994) then rnG call 230 F 28 ls [] (LR z (uA f 2 (upd (f 2) (ix x) y))) else none := rfl
set_option maxRecDepth 100000 in
theorem bc12_230_7 (call : QC FA) (x1 : Int32) (L : QH FA) (F : Nat) : rnG call 230 (F + 1) 28 [some (vR 0), some (vI x1)] [] L = rnG call 230 F 29 [some (vR 0), some (vI (x1 + 1))] [] L := rfl
set_option maxRecDepth 100000 in
theorem bc12_230_8 (call : QC FA) (x1 : Int32) (L : QH FA) (F : Nat) : rnG call 230 (F + 1) 29 [some (vR 0), some (vI x1)] [] L = rnG call 230 F 12 [some (vR 0), some (vI x1)] [] L := rfl
theorem vcc12_230_12 (d : Nat) (x1 : Int32) (z : Nat → Int32) (f : Nat → FA) (res : Option PV × QH FA) (H : ((I (499 * (z 3)) ≤ I x1 → RC (mcall (d + 2)) (mP 230) 32 [some (vR 0), some (vI 0)] [] (LR z f) res) ∧ (I x1 < I (499 * (z 3)) → (pin (x1 + 499) 2994 = true ∧ (pin x1 2994 = true ∧ RC (mcall (d + 2)) (mP 230) 12 [some (vR 0), some (vI (x1 + 1))] [] (LR z (uA f 2 (upd (f 2) (ix x1) (f 2 (ix (x1 + 499)))))) res))))) : RC (mcall (d + 2)) (mP 230) 12 [some (vR 0), some (vI x1)] [] (LR z f) res := by
  refine rc_b (i' := 17) (ls' := [some (vR 0), some (vI x1)]) (st' := [vI (499 * (z 3)), vI x1]) (L' := LR z f) 5 (bc12_230_1 (mcall (d + 2)) x1 z f) ?_
  refine rc_if (it := 30) (ie := 18) (ls' := [some (vR 0), some (vI x1)]) (st' := []) (bc12_230_2 (mcall (d + 2)) x1 (499 * (z 3)) _ _) (fun q1 => ?_) (fun q1 => ?_)
  · have H := H.1 (cI3t q1 rfl rfl)
    refine rc_b (i' := 32) (ls' := [some (vR 0), some (vI 0)]) (st' := []) (L' := LR z f) 2 (bc12_230_3 (mcall (d + 2)) x1 _) ?_
    exact H
  · have H := H.2 (cI3f q1 rfl rfl)
    refine rc_b (i' := 26) (ls' := [some (vR 0), some (vI x1)]) (st' := [vI (x1 + 499), vR 2, vI x1, vR 2]) (L' := LR z f) 8 (bc12_230_4 (mcall (d + 2)) x1 z f) ?_
    obtain ⟨g1, H⟩ := H
    refine rc_g (i' := 27) (ls' := [some (vR 0), some (vI x1)]) (st' := [vI (f 2 (ix (x1 + 499))), vI x1, vR 2]) (L' := LR z f) (bc12_230_5 (mcall (d + 2)) (x1 + 499) x1 _ z f) (pinG g1) ?_
    obtain ⟨g1, H⟩ := H
    refine rc_g (i' := 28) (ls' := [some (vR 0), some (vI x1)]) (st' := []) (L' := LR z (uA f 2 (upd (f 2) (ix x1) (f 2 (ix (x1 + 499)))))) (bc12_230_6 (mcall (d + 2)) x1 (f 2 (ix (x1 + 499))) _ z f) (pinG g1) ?_
    refine rc_b (i' := 29) (ls' := [some (vR 0), some (vI (x1 + 1))]) (st' := []) (L' := LR z (uA f 2 (upd (f 2) (ix x1) (f 2 (ix (x1 + 499)))))) 1 (bc12_230_7 (mcall (d + 2)) x1 _) ?_
    refine rc_b (i' := 12) (ls' := [some (vR 0), some (vI (x1 + 1))]) (st' := []) (L' := LR z (uA f 2 (upd (f 2) (ix x1) (f 2 (ix (x1 + 499)))))) 1 (bc12_230_8 (mcall (d + 2)) (x1 + 1) _) ?_
    exact H
set_option maxRecDepth 100000 in
theorem bc32_230_1 (call : QC FA) (x1 : Int32) (L : QH FA) (F : Nat) : rnG call 230 (F + 2) 32 [some (vR 0), some (vI x1)] [] L = rnG call 230 F 34 [some (vR 0), some (vI x1)] [vI 499, vI x1] L := rfl
set_option maxRecDepth 100000 in
theorem bc32_230_2 (call : QC FA) (x y : Int32) (ls : List (Option PV)) (L : QH FA) (F : Nat) : rnG call 230 (F + 1) 34 ls [vI y, vI x] L = bif pcmp 3 x y then rnG call 230 F 50 ls [] L else rnG call 230 F 35 ls [] L := rfl
set_option maxRecDepth 100000 in
theorem bc32_230_3 (call : QC FA) (x1 : Int32) (z : Nat → Int32) (f : Nat → FA) (F : Nat) : rnG call 230 (F + 5) 50 [some (vR 0), some (vI x1)] [] (LR z f) = rnG call 230 F 55 [some (vR 0), some (vI x1)] [vI ((z 3) + 1), vR 0] (LR z f) := rfl
set_option maxRecDepth 100000 in
theorem bc32_230_4 (call : QC FA) (y : Int32) (ls : List (Option PV)) (z : Nat → Int32) (f : Nat → FA) (F : Nat) : rnG call 230 (F + 1) 55 ls [vI y, vR 0] (LR z f) = rnG call 230 F 56 ls [] (LR (uZ z 3 y) f) := rfl
set_option maxRecDepth 100000 in
theorem bc32_230_5 (call : QC FA) (ls : List (Option PV)) (L : QH FA) (F : Nat) : rnG call 230 (F + 1) 56 ls [] L = some (none, L) := rfl
set_option maxRecDepth 100000 in
theorem bc32_230_6 (call : QC FA) (x1 : Int32) (z : Nat → Int32) (f : Nat → FA) (F : Nat) : rnG call 230 (F + 11) 35 [some (vR 0), some (vI x1)] [] (LR z f) = rnG call 230 F 46 [some (vR 0), some (vI x1)] [vI x1, vR 1, vI ((499 * (z 3)) + x1), vR 2] (LR z f) := rfl
set_option maxRecDepth 100000 in
theorem bc32_230_7 (call : QC FA) (x : Int32) (s0 : Int32) (ls : List (Option PV)) (z : Nat → Int32) (f : Nat → FA) (F : Nat) : rnG call 230 (F + 1) 46 ls [vI x, vR 1, vI s0, vR 2] (LR z f) = bif (Nat.beq 0 0 && pin x 499) then rnG call 230 F 47 ls [vI (f 1 (ix x)), vI s0, vR 2] (LR z f) else none := rfl
set_option maxRecDepth 100000 in
theorem bc32_230_8 (call : QC FA) (x y : Int32) (ls : List (Option PV)) (z : Nat → Int32) (f : Nat → FA) (F : Nat) : rnG call 230 (F + 1) 47 ls [vI y, vI x, vR 2] (LR z f) = bif (Nat.beq 0 0 && pin x 2994) then rnG call 230 F 48 ls [] (LR z (uA f 2 (upd (f 2) (ix x) y))) else none := rfl
set_option maxRecDepth 100000 in
theorem bc32_230_9 (call : QC FA) (x1 : Int32) (L : QH FA) (F : Nat) : rnG call 230 (F + 1) 48 [some (vR 0), some (vI x1)] [] L = rnG call 230 F 49 [some (vR 0), some (vI (x1 + 1))] [] L := rfl
set_option maxRecDepth 100000 in
theorem bc32_230_10 (call : QC FA) (x1 : Int32) (L : QH FA) (F : Nat) : rnG call 230 (F + 1) 49 [some (vR 0), some (vI x1)] [] L = rnG call 230 F 32 [some (vR 0), some (vI x1)] [] L := rfl
theorem vcc32_230_32 (d : Nat) (x1 : Int32) (z : Nat → Int32) (f : Nat → FA) (res : Option PV × QH FA) (H : ((499 ≤ I x1 → res = (none, LR (uZ z 3 ((z 3) + 1)) f)) ∧ (I x1 < 499 → (pin x1 499 = true ∧ (pin ((499 * (z 3)) + x1) 2994 = true ∧ RC (mcall (d + 2)) (mP 230) 32 [some (vR 0), some (vI (x1 + 1))] [] (LR z (uA f 2 (upd (f 2) (ix ((499 * (z 3)) + x1)) (f 1 (ix x1))))) res))))) : RC (mcall (d + 2)) (mP 230) 32 [some (vR 0), some (vI x1)] [] (LR z f) res := by
  refine rc_b (i' := 34) (ls' := [some (vR 0), some (vI x1)]) (st' := [vI 499, vI x1]) (L' := LR z f) 2 (bc32_230_1 (mcall (d + 2)) x1 _) ?_
  refine rc_if (it := 50) (ie := 35) (ls' := [some (vR 0), some (vI x1)]) (st' := []) (bc32_230_2 (mcall (d + 2)) x1 499 _ _) (fun q1 => ?_) (fun q1 => ?_)
  · have H := H.1 (cI3t q1 rfl rfl)
    refine rc_b (i' := 55) (ls' := [some (vR 0), some (vI x1)]) (st' := [vI ((z 3) + 1), vR 0]) (L' := LR z f) 5 (bc32_230_3 (mcall (d + 2)) x1 z f) ?_
    refine rc_b (i' := 56) (ls' := [some (vR 0), some (vI x1)]) (st' := []) (L' := LR (uZ z 3 ((z 3) + 1)) f) 1 (bc32_230_4 (mcall (d + 2)) ((z 3) + 1) _ z f) ?_
    subst H
    exact rc_ret (bc32_230_5 (mcall (d + 2)) _ _)
  · have H := H.2 (cI3f q1 rfl rfl)
    refine rc_b (i' := 46) (ls' := [some (vR 0), some (vI x1)]) (st' := [vI x1, vR 1, vI ((499 * (z 3)) + x1), vR 2]) (L' := LR z f) 11 (bc32_230_6 (mcall (d + 2)) x1 z f) ?_
    obtain ⟨g1, H⟩ := H
    refine rc_g (i' := 47) (ls' := [some (vR 0), some (vI x1)]) (st' := [vI (f 1 (ix x1)), vI ((499 * (z 3)) + x1), vR 2]) (L' := LR z f) (bc32_230_7 (mcall (d + 2)) x1 ((499 * (z 3)) + x1) _ z f) (pinG g1) ?_
    obtain ⟨g1, H⟩ := H
    refine rc_g (i' := 48) (ls' := [some (vR 0), some (vI x1)]) (st' := []) (L' := LR z (uA f 2 (upd (f 2) (ix ((499 * (z 3)) + x1)) (f 1 (ix x1))))) (bc32_230_8 (mcall (d + 2)) ((499 * (z 3)) + x1) (f 1 (ix x1)) _ z f) (pinG g1) ?_
    refine rc_b (i' := 49) (ls' := [some (vR 0), some (vI (x1 + 1))]) (st' := []) (L' := LR z (uA f 2 (upd (f 2) (ix ((499 * (z 3)) + x1)) (f 1 (ix x1))))) 1 (bc32_230_9 (mcall (d + 2)) x1 _) ?_
    refine rc_b (i' := 32) (ls' := [some (vR 0), some (vI (x1 + 1))]) (st' := []) (L' := LR z (uA f 2 (upd (f 2) (ix ((499 * (z 3)) + x1)) (f 1 (ix x1))))) 1 (bc32_230_10 (mcall (d + 2)) (x1 + 1) _) ?_
    exact H
set_option maxRecDepth 100000 in
theorem b283_1 (call : QC FA) (o1 : Option PV) (L : QH FA) (F : Nat) : rnG call 283 (F + 2) 0 [some (vR 0), o1] [] L = rnG call 283 F 2 [some (vR 0), o1] [vI 0, vR 0] L := rfl
set_option maxRecDepth 100000 in
theorem b283_2 (call : QC FA) (y : Int32) (ls : List (Option PV)) (z : Nat → Int32) (f : Nat → FA) (F : Nat) : rnG call 283 (F + 1) 2 ls [vI y, vR 0] (LR z f) = rnG call 283 F 3 ls [] (LR (uZ z 0 y) f) := rfl
set_option maxRecDepth 100000 in
theorem b283_3 (call : QC FA) (o1 : Option PV) (z : Nat → Int32) (f : Nat → FA) (F : Nat) : rnG call 283 (F + 2) 3 [some (vR 0), o1] [] (LR z f) = rnG call 283 F 5 [some (vR 0), o1] [vI (z 3)] (LR z f) := rfl
set_option maxRecDepth 100000 in
theorem b283_4 (call : QC FA) (x : Int32) (ls : List (Option PV)) (L : QH FA) (F : Nat) : rnG call 283 (F + 1) 5 ls [vI x] L = bif pcmp 1 x 0 then rnG call 283 F 8 ls [] L else rnG call 283 F 6 ls [] L := rfl
set_option maxRecDepth 100000 in
theorem b283_5 (call : QC FA) (o1 : Option PV) (z : Nat → Int32) (f : Nat → FA) (F : Nat) : rnG call 283 (F + 5) 8 [some (vR 0), o1] [] (LR z f) = rnG call 283 F 13 [some (vR 0), o1] [vI ((z 3) - 1), vR 0] (LR z f) := rfl
set_option maxRecDepth 100000 in
theorem b283_6 (call : QC FA) (y : Int32) (ls : List (Option PV)) (z : Nat → Int32) (f : Nat → FA) (F : Nat) : rnG call 283 (F + 1) 13 ls [vI y, vR 0] (LR z f) = rnG call 283 F 14 ls [] (LR (uZ z 3 y) f) := rfl
set_option maxRecDepth 100000 in
theorem b283_7 (call : QC FA) (o1 : Option PV) (L : QH FA) (F : Nat) : rnG call 283 (F + 2) 14 [some (vR 0), o1] [] L = rnG call 283 F 16 [some (vR 0), some (vI 0)] [] L := rfl
set_option maxRecDepth 100000 in
theorem b283_8 (call : QC FA) (o1 : Option PV) (L : QH FA) (F : Nat) : rnG call 283 (F + 1) 6 [some (vR 0), o1] [] L = rnG call 283 F 7 [some (vR 0), o1] [vI 0] L := rfl
set_option maxRecDepth 100000 in
theorem b283_9 (call : QC FA) (ls : List (Option PV)) (L : QH FA) (F : Nat) : rnG call 283 (F + 1) 7 ls [vI 0] L = some (some (vI 0), L) := rfl
theorem vc283_0 (d : Nat) (o1 : Option PV) (z : Nat → Int32) (f : Nat → FA) (res : Option PV × QH FA) (H : ((¬ z 3 = 0 → RC (mcall (d + 1)) (mP 283) 16 [some (vR 0), some (vI 0)] [] (LR (uZ (uZ z 0 0) 3 ((z 3) - 1)) f) res) ∧ (z 3 = 0 → res = (some (vI 0), LR (uZ z 0 0) f)))) : RC (mcall (d + 1)) (mP 283) 0 [some (vR 0), o1] [] (LR z f) res := by
  refine rc_b (i' := 2) (ls' := [some (vR 0), o1]) (st' := [vI 0, vR 0]) (L' := LR z f) 2 (b283_1 (mcall (d + 1)) o1 _) ?_
  refine rc_b (i' := 3) (ls' := [some (vR 0), o1]) (st' := []) (L' := LR (uZ z 0 0) f) 1 (b283_2 (mcall (d + 1)) 0 _ z f) ?_
  refine rc_b (i' := 5) (ls' := [some (vR 0), o1]) (st' := [vI (z 3)]) (L' := LR (uZ z 0 0) f) 2 (b283_3 (mcall (d + 1)) o1 (uZ z 0 0) f) ?_
  refine rc_if (it := 8) (ie := 6) (ls' := [some (vR 0), o1]) (st' := []) (b283_4 (mcall (d + 1)) (z 3) _ _) (fun q1 => ?_) (fun q1 => ?_)
  · have H := H.1 (cI1t q1)
    refine rc_b (i' := 13) (ls' := [some (vR 0), o1]) (st' := [vI ((z 3) - 1), vR 0]) (L' := LR (uZ z 0 0) f) 5 (b283_5 (mcall (d + 1)) o1 (uZ z 0 0) f) ?_
    refine rc_b (i' := 14) (ls' := [some (vR 0), o1]) (st' := []) (L' := LR (uZ (uZ z 0 0) 3 ((z 3) - 1)) f) 1 (b283_6 (mcall (d + 1)) ((z 3) - 1) _ (uZ z 0 0) f) ?_
    refine rc_b (i' := 16) (ls' := [some (vR 0), some (vI 0)]) (st' := []) (L' := LR (uZ (uZ z 0 0) 3 ((z 3) - 1)) f) 2 (b283_7 (mcall (d + 1)) o1 _) ?_
    exact H
  · have H := H.2 (cI1f q1)
    refine rc_b (i' := 7) (ls' := [some (vR 0), o1]) (st' := [vI 0]) (L' := LR (uZ z 0 0) f) 1 (b283_8 (mcall (d + 1)) o1 _) ?_
    subst H
    exact rc_ret (b283_9 (mcall (d + 1)) _ _)
set_option maxRecDepth 100000 in
theorem bc16_283_1 (call : QC FA) (x1 : Int32) (L : QH FA) (F : Nat) : rnG call 283 (F + 2) 16 [some (vR 0), some (vI x1)] [] L = rnG call 283 F 18 [some (vR 0), some (vI x1)] [vI 499, vI x1] L := rfl
set_option maxRecDepth 100000 in
theorem bc16_283_2 (call : QC FA) (x y : Int32) (ls : List (Option PV)) (L : QH FA) (F : Nat) : rnG call 283 (F + 1) 18 ls [vI y, vI x] L = bif pcmp 3 x y then rnG call 283 F 34 ls [] L else rnG call 283 F 19 ls [] L := rfl
set_option maxRecDepth 100000 in
theorem bc16_283_3 (call : QC FA) (x1 : Int32) (L : QH FA) (F : Nat) : rnG call 283 (F + 1) 34 [some (vR 0), some (vI x1)] [] L = rnG call 283 F 35 [some (vR 0), some (vI x1)] [vI 1] L := rfl
set_option maxRecDepth 100000 in
theorem bc16_283_4 (call : QC FA) (ls : List (Option PV)) (L : QH FA) (F : Nat) : rnG call 283 (F + 1) 35 ls [vI 1] L = some (some (vI 1), L) := rfl
set_option maxRecDepth 100000 in
theorem bc16_283_5 (call : QC FA) (x1 : Int32) (z : Nat → Int32) (f : Nat → FA) (F : Nat) : rnG call 283 (F + 11) 19 [some (vR 0), some (vI x1)] [] (LR z f) = rnG call 283 F 30 [some (vR 0), some (vI x1)] [vI ((499 * (z 3)) + x1), vR 2, vI x1, vR 1] (LR z f) := rfl
set_option maxRecDepth 100000 in
theorem bc16_283_6 (call : QC FA) (x : Int32) (s0 : Int32) (ls : List (Option PV)) (z : Nat → Int32) (f : Nat → FA) (F : Nat) : rnG call 283 (F + 1) 30 ls [vI x, vR 2, vI s0, vR 1] (LR z f) = bif (Nat.beq 0 0 && pin x 2994) then rnG call 283 F 31 ls [vI (f 2 (ix x)), vI s0, vR 1] (LR z f) else none := rfl
set_option maxRecDepth 100000 in
theorem bc16_283_7 (call : QC FA) (x y : Int32) (ls : List (Option PV)) (z : Nat → Int32) (f : Nat → FA) (F : Nat) : rnG call 283 (F + 1) 31 ls [vI y, vI x, vR 1] (LR z f) = bif (Nat.beq 0 0 && pin x 499) then rnG call 283 F 32 ls [] (LR z (uA f 1 (upd (f 1) (ix x) y))) else none := rfl
set_option maxRecDepth 100000 in
theorem bc16_283_8 (call : QC FA) (x1 : Int32) (L : QH FA) (F : Nat) : rnG call 283 (F + 1) 32 [some (vR 0), some (vI x1)] [] L = rnG call 283 F 33 [some (vR 0), some (vI (x1 + 1))] [] L := rfl
set_option maxRecDepth 100000 in
theorem bc16_283_9 (call : QC FA) (x1 : Int32) (L : QH FA) (F : Nat) : rnG call 283 (F + 1) 33 [some (vR 0), some (vI x1)] [] L = rnG call 283 F 16 [some (vR 0), some (vI x1)] [] L := rfl
theorem vcc16_283_16 (d : Nat) (x1 : Int32) (z : Nat → Int32) (f : Nat → FA) (res : Option PV × QH FA) (H : ((499 ≤ I x1 → res = (some (vI 1), LR z f)) ∧ (I x1 < 499 → (pin ((499 * (z 3)) + x1) 2994 = true ∧ (pin x1 499 = true ∧ RC (mcall (d + 1)) (mP 283) 16 [some (vR 0), some (vI (x1 + 1))] [] (LR z (uA f 1 (upd (f 1) (ix x1) (f 2 (ix ((499 * (z 3)) + x1)))))) res))))) : RC (mcall (d + 1)) (mP 283) 16 [some (vR 0), some (vI x1)] [] (LR z f) res := by
  refine rc_b (i' := 18) (ls' := [some (vR 0), some (vI x1)]) (st' := [vI 499, vI x1]) (L' := LR z f) 2 (bc16_283_1 (mcall (d + 1)) x1 _) ?_
  refine rc_if (it := 34) (ie := 19) (ls' := [some (vR 0), some (vI x1)]) (st' := []) (bc16_283_2 (mcall (d + 1)) x1 499 _ _) (fun q1 => ?_) (fun q1 => ?_)
  · have H := H.1 (cI3t q1 rfl rfl)
    refine rc_b (i' := 35) (ls' := [some (vR 0), some (vI x1)]) (st' := [vI 1]) (L' := LR z f) 1 (bc16_283_3 (mcall (d + 1)) x1 _) ?_
    subst H
    exact rc_ret (bc16_283_4 (mcall (d + 1)) _ _)
  · have H := H.2 (cI3f q1 rfl rfl)
    refine rc_b (i' := 30) (ls' := [some (vR 0), some (vI x1)]) (st' := [vI ((499 * (z 3)) + x1), vR 2, vI x1, vR 1]) (L' := LR z f) 11 (bc16_283_5 (mcall (d + 1)) x1 z f) ?_
    obtain ⟨g1, H⟩ := H
    refine rc_g (i' := 31) (ls' := [some (vR 0), some (vI x1)]) (st' := [vI (f 2 (ix ((499 * (z 3)) + x1))), vI x1, vR 1]) (L' := LR z f) (bc16_283_6 (mcall (d + 1)) ((499 * (z 3)) + x1) x1 _ z f) (pinG g1) ?_
    obtain ⟨g1, H⟩ := H
    refine rc_g (i' := 32) (ls' := [some (vR 0), some (vI x1)]) (st' := []) (L' := LR z (uA f 1 (upd (f 1) (ix x1) (f 2 (ix ((499 * (z 3)) + x1)))))) (bc16_283_7 (mcall (d + 1)) x1 (f 2 (ix ((499 * (z 3)) + x1))) _ z f) (pinG g1) ?_
    refine rc_b (i' := 33) (ls' := [some (vR 0), some (vI (x1 + 1))]) (st' := []) (L' := LR z (uA f 1 (upd (f 1) (ix x1) (f 2 (ix ((499 * (z 3)) + x1)))))) 1 (bc16_283_8 (mcall (d + 1)) x1 _) ?_
    refine rc_b (i' := 16) (ls' := [some (vR 0), some (vI (x1 + 1))]) (st' := []) (L' := LR z (uA f 1 (upd (f 1) (ix x1) (f 2 (ix ((499 * (z 3)) + x1)))))) 1 (bc16_283_9 (mcall (d + 1)) (x1 + 1) _) ?_
    exact H
theorem mKeepL (d c : Nat) (hc : c ≤ 5) {z : Nat → Int32} {r : Nat → FA} (hz : z 3 = nI c) (g : FA) : ∀ t x, x + t = 499 → RC (mcall (d + 2)) (mP 230) 32 [some (vR 0), some (vI (nI x))] [] (LR z (uA r 2 (kpS g (r 1) (499 * c) x))) (none, LR (uZ z 3 (nI (c + 1))) (uA r 2 (kpS g (r 1) (499 * c) 499))) := by
  intro t
  induction t with
  | zero =>
    intro x hx
    obtain rfl : x = 499 := by omega
    exact vcc32_230_32 d _ _ _ _ ⟨fun _ => by rw [hz, show nI c + 1 = nI (c + 1) from nI_add c 1], fun q => absurd q (by decide)⟩
  | succ t ih =>
    intro x hx
    have h := ih (x + 1) (by omega)
    rw [← nI_add x 1, ← kpS_s] at h
    have e : (499 : Int32) * z 3 + nI x = nI (499 * c + x) := by rw [hz, show (499 : Int32) = nI 499 from rfl, mul_nI, nI_add]
    refine vcc32_230_32 d _ _ _ _ ⟨fun q => ?_, fun _ => ⟨pin_nI (by omega) (by omega), ?_, ?_⟩⟩
    · rw [I_nI (n := x) (by omega)] at q
      omega
    · rw [e]
      exact pin_nI (by omega) (by omega)
    · rw [e, ix_nI (j := x) (by omega), ix_nI (j := 499 * c + x) (by omega), uA_uA, uA_self, uA_ne (show (1 : Nat) ≠ 2 by decide)]
      exact h
theorem mKeepS (d : Nat) {z : Nat → Int32} {r : Nat → FA} (hz : z 3 = nI 5) (res : Option PV × QH FA) (H : RC (mcall (d + 2)) (mP 230) 32 [some (vR 0), some (vI 0)] [] (LR z (uA r 2 (shS (r 2) 2495))) res) : ∀ t x, x + t = 2495 → RC (mcall (d + 2)) (mP 230) 12 [some (vR 0), some (vI (nI x))] [] (LR z (uA r 2 (shS (r 2) x))) res := by
  have e : I (499 * z 3) = 2495 := by rw [hz]; decide
  intro t
  induction t with
  | zero =>
    intro x hx
    obtain rfl : x = 2495 := by omega
    exact vcc12_230_12 d _ _ _ _ ⟨fun _ => H, fun q => by rw [e] at q; exact absurd q (by decide)⟩
  | succ t ih =>
    intro x hx
    have h := ih (x + 1) (by omega)
    rw [← nI_add x 1, ← shS_s] at h
    have e2 : nI x + 499 = nI (x + 499) := nI_add x 499
    refine vcc12_230_12 d _ _ _ _ ⟨fun q => ?_, fun _ => ⟨?_, pin_nI (by omega) (by omega), ?_⟩⟩
    · rw [e, I_nI (n := x) (by omega)] at q
      omega
    · rw [e2]
      exact pin_nI (by omega) (by omega)
    · rw [e2, ix_nI (j := x) (by omega), ix_nI (j := x + 499) (by omega), uA_uA, uA_self, shS_hi _ (show x ≤ x + 499 by omega)]
      exact h
/-- one row more, the oldest gone where there are six -/
theorem mKeep (d : Nat) {c : Nat} (hc : c ≤ 6) {z : Nat → Int32} {r : Nat → FA} (hz : z 3 = nI c) : ∃ G, mcall (d + 3) 230 [vR 0] (LR z r) = some (none, LR (uZ z 3 (nI (min (c + 1) 6))) (uA r 2 G)) ∧ (∀ x, x < 499 → G (499 * (min (c + 1) 6 - 1) + x) = r 1 x) ∧ ∀ i x, i + 1 < min (c + 1) 6 → x < 499 → G (499 * (min (c + 1) 6 - 2 - i) + x) = r 2 (499 * (c - 1 - i) + x) := by
  by_cases c6 : c = 6
  · subst c6
    have z5 : uZ z 3 (z 3 - 1) 3 = nI 5 := uZ_s.trans (by rw [hz]; decide)
    have h := mKeepL d 5 (by decide) z5 (r := uA r 2 (shS (r 2) 2495)) (shS (r 2) 2495) 499 0 rfl
    rw [kpS_0, uA_uA, uA_uA, uA_ne (show (1 : Nat) ≠ 2 by decide), uZ_uZ] at h
    have h2 := mKeepS d z5 _ h 2495 0 rfl
    rw [shS_0, uA_id rfl] at h2
    refine ⟨kpS (shS (r 2) 2495) (r 1) (499 * 5) 499, mcall_i (mq230 (cu := [])).2.2 rfl (vc230_0 d none z r _ ⟨fun q => absurd hz q, fun _ => h2⟩), fun x hx => kpS_in _ _ hx, fun i x hi hx => ?_⟩
    have hi' : i < 5 := by omega
    rw [kpS_lo _ _ (show 499 * (min (6 + 1) 6 - 2 - i) + x < 499 * 5 by omega)]
    unfold shS
    rw [if_pos (by omega)]
    congr 1
    omega
  · have h := mKeepL d c (by omega) hz (r := r) (r 2) 499 0 rfl
    rw [kpS_0, uA_id rfl] at h
    have e : min (c + 1) 6 = c + 1 := by omega
    rw [e]
    refine ⟨kpS (r 2) (r 1) (499 * c) 499, mcall_i (mq230 (cu := [])).2.2 rfl (vc230_0 d none z r _ ⟨fun _ => h, fun q => ?_⟩), fun x hx => kpS_in _ _ hx, fun i x hi hx => ?_⟩
    · rw [hz] at q
      have := congrArg I q
      rw [I_nI (by omega), show I 6 = 6 by decide] at this
      omega
    · rw [kpS_lo _ _ (show 499 * (c + 1 - 2 - i) + x < 499 * c by omega), show c + 1 - 2 - i = c - 1 - i by omega]
theorem mUndo0 (d : Nat) {z : Nat → Int32} {r : Nat → FA} (hz : z 3 = 0) : mcall (d + 2) 283 [vR 0] (LR z r) = some (some (vI 0), LR (uZ z 0 0) r) := mcall_i (mq283 (cu := [])).2.2 rfl (vc283_0 d none z r _ ⟨fun q => absurd hz q, fun _ => rfl⟩)
theorem mUndo (d : Nat) {c : Nat} (h1 : 1 ≤ c) (hc : c ≤ 6) {z : Nat → Int32} {r : Nat → FA} (hz : z 3 = nI c) : ∃ G, mcall (d + 2) 283 [vR 0] (LR z r) = some (some (vI 1), LR (uZ (uZ z 0 0) 3 (nI (c - 1))) (uA r 1 G)) ∧ ∀ x, x < 499 → G x = r 2 (499 * (c - 1) + x) := by
  have zc : uZ (uZ z 0 0) 3 (nI (c - 1)) 3 = nI (c - 1) := uZ_s
  have lp : ∀ t x, x + t = 499 → RC (mcall (d + 1)) (mP 283) 16 [some (vR 0), some (vI (nI x))] [] (LR (uZ (uZ z 0 0) 3 (nI (c - 1))) (uA r 1 (cpU (r 2) (r 1) (499 * (c - 1)) x))) (some (vI 1), LR (uZ (uZ z 0 0) 3 (nI (c - 1))) (uA r 1 (cpU (r 2) (r 1) (499 * (c - 1)) 499))) := by
    intro t
    induction t with
    | zero =>
      intro x hx
      obtain rfl : x = 499 := by omega
      exact vcc16_283_16 d _ _ _ _ ⟨fun _ => rfl, fun q => absurd q (by decide)⟩
    | succ t ih =>
      intro x hx
      have h := ih (x + 1) (by omega)
      rw [← nI_add x 1, ← cpU_s] at h
      have e : (499 : Int32) * nI (c - 1) + nI x = nI (499 * (c - 1) + x) := by rw [show (499 : Int32) = nI 499 from rfl, mul_nI, nI_add]
      refine vcc16_283_16 d _ _ _ _ ⟨fun q => ?_, fun _ => ⟨?_, pin_nI (by omega) (by omega), ?_⟩⟩
      · rw [I_nI (n := x) (by omega)] at q
        omega
      · rw [zc, e]
        exact pin_nI (by omega) (by omega)
      · rw [zc, e, ix_nI (j := x) (by omega), ix_nI (j := 499 * (c - 1) + x) (by omega), uA_uA, uA_self, uA_ne (show (2 : Nat) ≠ 1 by decide)]
        exact h
  have h := lp 499 0 rfl
  rw [cpU_0, uA_id rfl] at h
  have e : z 3 - 1 = nI (c - 1) := by rw [hz]; exact nI_sub (b := 1) h1
  refine ⟨_, mcall_i (mq283 (cu := [])).2.2 rfl (vc283_0 d none z r _ ⟨fun _ => by rw [e]; exact h, fun q => ?_⟩), fun x hx => if_pos hx⟩
  rw [hz] at q
  have := congrArg I q
  rw [I_nI (by omega), show I 0 = 0 by decide] at this
  omega
