/-! game of the class: four cells of its heap -/
def LG (z : Nat → Int32) (f : Nat → FA) : QH FA := [.inr (11, [vR 4, vR 5, vI (z 0), vR 6, vR 7, vR 8, vR 9, vR 10, vR 11, vR 12, vR 1]), .inr (2, [vR 2, vR 3, vI (z 1), vI (z 2)]), .inl (.inl (0, 1231, f 2)), .inl (.inl (0, 9, f 3))]
theorem pcZ {ih : QK FA} {call : QC FA} {a b t : Nat} {ls : List (Option PV)} {As st' : List PV} {L : QH FA} (hb : As.length = b) (h8 : Nat.ble st'.length 8 = true) : p_callS ih call a b t ls (As.reverse ++ st') L = cbd (call a As L) (fun r L' => ih t ls (r.toList ++ st') L') := by
  have hl : As.reverse.length = b := by rw [List.length_reverse]; exact hb
  have h1 : (As.reverse ++ st').drop b = st' := by rw [← hl]; exact List.drop_left
  have h2 : (As.reverse ++ st').take b = As.reverse := by rw [← hl]; exact List.take_left
  have h3 : Nat.ble b (As.reverse ++ st').length = true := by rw [Nat.ble_eq, List.length_append, hl]; omega
  unfold p_callS
  rw [h1, h2, h3, h8, List.reverse_reverse]
  simp only [Bool.and_self, cond_true]
  cases call a As L with
  | none => rfl
  | some q => rfl
theorem rc_if2 {call : QC FA} {c : List PO} {i : Nat} {ls ls' : List (Option PV)} {st st1 st2 : List PV} {L : QH FA} {res : Option PV × QH FA} {b it ie : Nat} {x y : Int32} (hs : ∀ F, run (mkc rdF wrF fzF call c 0) (F + 1) i ls st L = bif pcmp b x y then run (mkc rdF wrF fzF call c 0) F it ls' st1 L else run (mkc rdF wrF fzF call c 0) F ie ls' st2 L) (h1 : pcmp b x y = true → RC call c it ls' st1 L res) (h2 : pcmp b x y = false → RC call c ie ls' st2 L res) : RC call c i ls st L res := by
  cases h : pcmp b x y with
  | true => exact rc_b 1 (fun F => by rw [hs, h]; rfl) (h1 h)
  | false => exact rc_b 1 (fun F => by rw [hs, h]; rfl) (h2 h)
theorem pmx (ih : QK FA) (t : Nat) (x y : Int32) (ls : List (Option PV)) (L : QH FA) : p_max ih t ls [vI y, vI x] L = bif pcmp 2 x y then ih t ls [vI y] L else ih t ls [vI x] L := by
  unfold p_max
  simp only [List.length_nil]
  rw [show Nat.ble 0 8 = true from rfl, cond_true]
theorem sF2 : ∀ j, j < 24 → pin (sF 2 j) 9 = true := by decide
set_option maxRecDepth 100000 in
theorem b36_1 (call : QC FA) (x1 : Int32) (o2 : Option PV) (L : QH FA) (F : Nat) : rnG call 36 (F + 2) 0 [some (vR 1), some (vI x1), o2] [] L = rnG call 36 F 2 [some (vR 1), some (vI x1), some (vI 0)] [] L := rfl
theorem vc36_0 (call : QC FA) (x1 : Int32) (o2 : Option PV) (z : Nat → Int32) (f : Nat → FA) (res : Option PV × QH FA) (H : RC call (mP 36) 2 [some (vR 1), some (vI x1), some (vI 0)] [] (LG z f) res) : RC call (mP 36) 0 [some (vR 1), some (vI x1), o2] [] (LG z f) res := by
  refine rc_b (i' := 2) (ls' := [some (vR 1), some (vI x1), some (vI 0)]) (st' := []) (L' := LG z f) 2 (b36_1 call x1 o2 _) ?_
  exact H
set_option maxRecDepth 100000 in
theorem bc2_36_1 (call : QC FA) (x1 : Int32) (x2 : Int32) (L : QH FA) (F : Nat) : rnG call 36 (F + 5) 2 [some (vR 1), some (vI x1), some (vI x2)] [] L = rnG call 36 F 7 [some (vR 1), some (vI x1), some (vI x2)] [vI (nI 24), vI (x2 + 2)] L := rfl
set_option maxRecDepth 100000 in
theorem bc2_36_2 (call : QC FA) (x y : Int32) (ls : List (Option PV)) (L : QH FA) (F : Nat) : rnG call 36 (F + 1) 7 ls [vI y, vI x] L = bif pcmp 3 x y then rnG call 36 F 40 ls [] L else rnG call 36 F 8 ls [] L := rfl
set_option maxRecDepth 100000 in
theorem bc2_36_3 (call : QC FA) (x1 : Int32) (x2 : Int32) (L : QH FA) (F : Nat) : rnG call 36 (F + 1) 40 [some (vR 1), some (vI x1), some (vI x2)] [] L = rnG call 36 F 41 [some (vR 1), some (vI x1), some (vI x2)] [vI 0] L := rfl
set_option maxRecDepth 100000 in
theorem bc2_36_4 (call : QC FA) (ls : List (Option PV)) (L : QH FA) (F : Nat) : rnG call 36 (F + 1) 41 ls [vI 0] L = some (some (vI 0), L) := rfl
set_option maxRecDepth 100000 in
theorem bc2_36_5 (call : QC FA) (x1 : Int32) (x2 : Int32) (z : Nat → Int32) (f : Nat → FA) (F : Nat) : rnG call 36 (F + 4) 8 [some (vR 1), some (vI x1), some (vI x2)] [] (LG z f) = rnG call 36 F 12 [some (vR 1), some (vI x1), some (vI x2)] [vI x2, vS 2, vR 3] (LG z f) := rfl
set_option maxRecDepth 100000 in
theorem bc2_36_6 (call : QC FA) (x : Int32) (ls : List (Option PV)) (L : QH FA) (F : Nat) : rnG call 36 (F + 1) 12 ls [vI x, vS 2, vR 3] L = bif (Nat.blt 2 3 && pin x (sN 2)) then rnG call 36 F 13 ls [vI (sF 2 (ix x)), vR 3] L else none := rfl
set_option maxRecDepth 100000 in
theorem bc2_36_7 (call : QC FA) (x : Int32) (ls : List (Option PV)) (z : Nat → Int32) (f : Nat → FA) (F : Nat) : rnG call 36 (F + 1) 13 ls [vI x, vR 3] (LG z f) = bif (Nat.beq 0 0 && pin x 9) then rnG call 36 F 14 ls [vI (f 3 (ix x))] (LG z f) else none := rfl
set_option maxRecDepth 100000 in
theorem bc2_36_8 (call : QC FA) (x1 : Int32) (x2 : Int32) (s0 : Int32) (L : QH FA) (F : Nat) : rnG call 36 (F + 1) 14 [some (vR 1), some (vI x1), some (vI x2)] [vI s0] L = rnG call 36 F 15 [some (vR 1), some (vI x1), some (vI x2)] [vI x1, vI s0] L := rfl
set_option maxRecDepth 100000 in
theorem bc2_36_9 (call : QC FA) (x y : Int32) (ls : List (Option PV)) (L : QH FA) (F : Nat) : rnG call 36 (F + 1) 15 ls [vI y, vI x] L = bif pcmp 1 x y then rnG call 36 F 38 ls [] L else rnG call 36 F 16 ls [] L := rfl
set_option maxRecDepth 100000 in
theorem bc2_36_10 (call : QC FA) (x1 : Int32) (x2 : Int32) (L : QH FA) (F : Nat) : rnG call 36 (F + 1) 38 [some (vR 1), some (vI x1), some (vI x2)] [] L = rnG call 36 F 39 [some (vR 1), some (vI x1), some (vI (x2 + 3))] [] L := rfl
set_option maxRecDepth 100000 in
theorem bc2_36_11 (call : QC FA) (x1 : Int32) (x2 : Int32) (L : QH FA) (F : Nat) : rnG call 36 (F + 1) 39 [some (vR 1), some (vI x1), some (vI x2)] [] L = rnG call 36 F 2 [some (vR 1), some (vI x1), some (vI x2)] [] L := rfl
set_option maxRecDepth 100000 in
theorem bc2_36_12 (call : QC FA) (x1 : Int32) (x2 : Int32) (z : Nat → Int32) (f : Nat → FA) (F : Nat) : rnG call 36 (F + 6) 16 [some (vR 1), some (vI x1), some (vI x2)] [] (LG z f) = rnG call 36 F 22 [some (vR 1), some (vI x1), some (vI x2)] [vI (x2 + 1), vS 2, vR 3] (LG z f) := rfl
set_option maxRecDepth 100000 in
theorem bc2_36_13 (call : QC FA) (x : Int32) (ls : List (Option PV)) (L : QH FA) (F : Nat) : rnG call 36 (F + 1) 22 ls [vI x, vS 2, vR 3] L = bif (Nat.blt 2 3 && pin x (sN 2)) then rnG call 36 F 23 ls [vI (sF 2 (ix x)), vR 3] L else none := rfl
set_option maxRecDepth 100000 in
theorem bc2_36_14 (call : QC FA) (x : Int32) (ls : List (Option PV)) (z : Nat → Int32) (f : Nat → FA) (F : Nat) : rnG call 36 (F + 1) 23 ls [vI x, vR 3] (LG z f) = bif (Nat.beq 0 0 && pin x 9) then rnG call 36 F 24 ls [vI (f 3 (ix x))] (LG z f) else none := rfl
set_option maxRecDepth 100000 in
theorem bc2_36_15 (call : QC FA) (x1 : Int32) (x2 : Int32) (s0 : Int32) (L : QH FA) (F : Nat) : rnG call 36 (F + 1) 24 [some (vR 1), some (vI x1), some (vI x2)] [vI s0] L = rnG call 36 F 25 [some (vR 1), some (vI x1), some (vI x2)] [vI x1, vI s0] L := rfl
set_option maxRecDepth 100000 in
theorem bc2_36_16 (call : QC FA) (x y : Int32) (ls : List (Option PV)) (L : QH FA) (F : Nat) : rnG call 36 (F + 1) 25 ls [vI y, vI x] L = bif pcmp 1 x y then rnG call 36 F 38 ls [] L else rnG call 36 F 26 ls [] L := rfl
set_option maxRecDepth 100000 in
theorem bc2_36_17 (call : QC FA) (x1 : Int32) (x2 : Int32) (z : Nat → Int32) (f : Nat → FA) (F : Nat) : rnG call 36 (F + 6) 26 [some (vR 1), some (vI x1), some (vI x2)] [] (LG z f) = rnG call 36 F 32 [some (vR 1), some (vI x1), some (vI x2)] [vI (x2 + 2), vS 2, vR 3] (LG z f) := rfl
set_option maxRecDepth 100000 in
theorem bc2_36_18 (call : QC FA) (x : Int32) (ls : List (Option PV)) (L : QH FA) (F : Nat) : rnG call 36 (F + 1) 32 ls [vI x, vS 2, vR 3] L = bif (Nat.blt 2 3 && pin x (sN 2)) then rnG call 36 F 33 ls [vI (sF 2 (ix x)), vR 3] L else none := rfl
set_option maxRecDepth 100000 in
theorem bc2_36_19 (call : QC FA) (x : Int32) (ls : List (Option PV)) (z : Nat → Int32) (f : Nat → FA) (F : Nat) : rnG call 36 (F + 1) 33 ls [vI x, vR 3] (LG z f) = bif (Nat.beq 0 0 && pin x 9) then rnG call 36 F 34 ls [vI (f 3 (ix x))] (LG z f) else none := rfl
set_option maxRecDepth 100000 in
theorem bc2_36_20 (call : QC FA) (x1 : Int32) (x2 : Int32) (s0 : Int32) (L : QH FA) (F : Nat) : rnG call 36 (F + 1) 34 [some (vR 1), some (vI x1), some (vI x2)] [vI s0] L = rnG call 36 F 35 [some (vR 1), some (vI x1), some (vI x2)] [vI x1, vI s0] L := rfl
set_option maxRecDepth 100000 in
theorem bc2_36_21 (call : QC FA) (x y : Int32) (ls : List (Option PV)) (L : QH FA) (F : Nat) : rnG call 36 (F + 1) 35 ls [vI y, vI x] L = bif pcmp 1 x y then rnG call 36 F 38 ls [] L else rnG call 36 F 36 ls [] L := rfl
set_option maxRecDepth 100000 in
theorem bc2_36_22 (call : QC FA) (x1 : Int32) (x2 : Int32) (L : QH FA) (F : Nat) : rnG call 36 (F + 1) 36 [some (vR 1), some (vI x1), some (vI x2)] [] L = rnG call 36 F 37 [some (vR 1), some (vI x1), some (vI x2)] [vI 1] L := rfl
set_option maxRecDepth 100000 in
theorem bc2_36_23 (call : QC FA) (ls : List (Option PV)) (L : QH FA) (F : Nat) : rnG call 36 (F + 1) 37 ls [vI 1] L = some (some (vI 1), L) := rfl
theorem vcc2_36_2 (call : QC FA) (x1 : Int32) (x2 : Int32) (z : Nat → Int32) (f : Nat → FA) (res : Option PV × QH FA) (H : ((I (nI 24) ≤ I (x2 + 2) → res = (some (vI 0), LG z f)) ∧ (I (x2 + 2) < I (nI 24) → (pin x2 24 = true ∧ (pin (sF 2 (ix x2)) 9 = true ∧ ((¬ f 3 (ix (sF 2 (ix x2))) = x1 → RC call (mP 36) 2 [some (vR 1), some (vI x1), some (vI (x2 + 3))] [] (LG z f) res) ∧ (f 3 (ix (sF 2 (ix x2))) = x1 → (pin (x2 + 1) 24 = true ∧ (pin (sF 2 (ix (x2 + 1))) 9 = true ∧ ((¬ f 3 (ix (sF 2 (ix (x2 + 1)))) = x1 → RC call (mP 36) 2 [some (vR 1), some (vI x1), some (vI (x2 + 3))] [] (LG z f) res) ∧ (f 3 (ix (sF 2 (ix (x2 + 1)))) = x1 → (pin (x2 + 2) 24 = true ∧ (pin (sF 2 (ix (x2 + 2))) 9 = true ∧ ((¬ f 3 (ix (sF 2 (ix (x2 + 2)))) = x1 → RC call (mP 36) 2 [some (vR 1), some (vI x1), some (vI (x2 + 3))] [] (LG z f) res) ∧ (f 3 (ix (sF 2 (ix (x2 + 2)))) = x1 → res = (some (vI 1), LG z f)))))))))))))))) : RC call (mP 36) 2 [some (vR 1), some (vI x1), some (vI x2)] [] (LG z f) res := by
  refine rc_b (i' := 7) (ls' := [some (vR 1), some (vI x1), some (vI x2)]) (st' := [vI (nI 24), vI (x2 + 2)]) (L' := LG z f) 5 (bc2_36_1 call x1 x2 _) ?_
  refine rc_if (it := 40) (ie := 8) (ls' := [some (vR 1), some (vI x1), some (vI x2)]) (st' := []) (bc2_36_2 call (x2 + 2) (nI 24) _ _) (fun q1 => ?_) (fun q1 => ?_)
  · have H := H.1 (cI3t q1 rfl rfl)
    refine rc_b (i' := 41) (ls' := [some (vR 1), some (vI x1), some (vI x2)]) (st' := [vI 0]) (L' := LG z f) 1 (bc2_36_3 call x1 x2 _) ?_
    subst H
    exact rc_ret (bc2_36_4 call _ _)
  · have H := H.2 (cI3f q1 rfl rfl)
    refine rc_b (i' := 12) (ls' := [some (vR 1), some (vI x1), some (vI x2)]) (st' := [vI x2, vS 2, vR 3]) (L' := LG z f) 4 (bc2_36_5 call x1 x2 z f) ?_
    obtain ⟨g1, H⟩ := H
    refine rc_g (i' := 13) (ls' := [some (vR 1), some (vI x1), some (vI x2)]) (st' := [vI (sF 2 (ix x2)), vR 3]) (L' := LG z f) (bc2_36_6 call x2 _ _) (show (Nat.blt 2 3 && pin x2 (sN 2)) = true from g1) ?_
    obtain ⟨g1, H⟩ := H
    refine rc_g (i' := 14) (ls' := [some (vR 1), some (vI x1), some (vI x2)]) (st' := [vI (f 3 (ix (sF 2 (ix x2))))]) (L' := LG z f) (bc2_36_7 call (sF 2 (ix x2)) _ z f) (pinG g1) ?_
    refine rc_b (i' := 15) (ls' := [some (vR 1), some (vI x1), some (vI x2)]) (st' := [vI x1, vI (f 3 (ix (sF 2 (ix x2))))]) (L' := LG z f) 1 (bc2_36_8 call x1 x2 (f 3 (ix (sF 2 (ix x2)))) _) ?_
    refine rc_if (it := 38) (ie := 16) (ls' := [some (vR 1), some (vI x1), some (vI x2)]) (st' := []) (bc2_36_9 call (f 3 (ix (sF 2 (ix x2)))) x1 _ _) (fun q2 => ?_) (fun q2 => ?_)
    · have H := H.1 (cI1t q2)
      refine rc_b (i' := 39) (ls' := [some (vR 1), some (vI x1), some (vI (x2 + 3))]) (st' := []) (L' := LG z f) 1 (bc2_36_10 call x1 x2 _) ?_
      refine rc_b (i' := 2) (ls' := [some (vR 1), some (vI x1), some (vI (x2 + 3))]) (st' := []) (L' := LG z f) 1 (bc2_36_11 call x1 (x2 + 3) _) ?_
      exact H
    · have H := H.2 (cI1f q2)
      refine rc_b (i' := 22) (ls' := [some (vR 1), some (vI x1), some (vI x2)]) (st' := [vI (x2 + 1), vS 2, vR 3]) (L' := LG z f) 6 (bc2_36_12 call x1 x2 z f) ?_
      obtain ⟨g1, H⟩ := H
      refine rc_g (i' := 23) (ls' := [some (vR 1), some (vI x1), some (vI x2)]) (st' := [vI (sF 2 (ix (x2 + 1))), vR 3]) (L' := LG z f) (bc2_36_13 call (x2 + 1) _ _) (show (Nat.blt 2 3 && pin (x2 + 1) (sN 2)) = true from g1) ?_
      obtain ⟨g1, H⟩ := H
      refine rc_g (i' := 24) (ls' := [some (vR 1), some (vI x1), some (vI x2)]) (st' := [vI (f 3 (ix (sF 2 (ix (x2 + 1)))))]) (L' := LG z f) (bc2_36_14 call (sF 2 (ix (x2 + 1))) _ z f) (pinG g1) ?_
      refine rc_b (i' := 25) (ls' := [some (vR 1), some (vI x1), some (vI x2)]) (st' := [vI x1, vI (f 3 (ix (sF 2 (ix (x2 + 1)))))]) (L' := LG z f) 1 (bc2_36_15 call x1 x2 (f 3 (ix (sF 2 (ix (x2 + 1))))) _) ?_
      refine rc_if (it := 38) (ie := 26) (ls' := [some (vR 1), some (vI x1), some (vI x2)]) (st' := []) (bc2_36_16 call (f 3 (ix (sF 2 (ix (x2 + 1))))) x1 _ _) (fun q3 => ?_) (fun q3 => ?_)
      · have H := H.1 (cI1t q3)
        refine rc_b (i' := 39) (ls' := [some (vR 1), some (vI x1), some (vI (x2 + 3))]) (st' := []) (L' := LG z f) 1 (bc2_36_10 call x1 x2 _) ?_
        refine rc_b (i' := 2) (ls' := [some (vR 1), some (vI x1), some (vI (x2 + 3))]) (st' := []) (L' := LG z f) 1 (bc2_36_11 call x1 (x2 + 3) _) ?_
        exact H
      · have H := H.2 (cI1f q3)
        refine rc_b (i' := 32) (ls' := [some (vR 1), some (vI x1), some (vI x2)]) (st' := [vI (x2 + 2), vS 2, vR 3]) (L' := LG z f) 6 (bc2_36_17 call x1 x2 z f) ?_
        obtain ⟨g1, H⟩ := H
        refine rc_g (i' := 33) (ls' := [some (vR 1), some (vI x1), some (vI x2)]) (st' := [vI (sF 2 (ix (x2 + 2))), vR 3]) (L' := LG z f) (bc2_36_18 call (x2 + 2) _ _) (show (Nat.blt 2 3 && pin (x2 + 2) (sN 2)) = true from g1) ?_
        obtain ⟨g1, H⟩ := H
        refine rc_g (i' := 34) (ls' := [some (vR 1), some (vI x1), some (vI x2)]) (st' := [vI (f 3 (ix (sF 2 (ix (x2 + 2)))))]) (L' := LG z f) (bc2_36_19 call (sF 2 (ix (x2 + 2))) _ z f) (pinG g1) ?_
        refine rc_b (i' := 35) (ls' := [some (vR 1), some (vI x1), some (vI x2)]) (st' := [vI x1, vI (f 3 (ix (sF 2 (ix (x2 + 2)))))]) (L' := LG z f) 1 (bc2_36_20 call x1 x2 (f 3 (ix (sF 2 (ix (x2 + 2))))) _) ?_
        refine rc_if (it := 38) (ie := 36) (ls' := [some (vR 1), some (vI x1), some (vI x2)]) (st' := []) (bc2_36_21 call (f 3 (ix (sF 2 (ix (x2 + 2))))) x1 _ _) (fun q4 => ?_) (fun q4 => ?_)
        · have H := H.1 (cI1t q4)
          refine rc_b (i' := 39) (ls' := [some (vR 1), some (vI x1), some (vI (x2 + 3))]) (st' := []) (L' := LG z f) 1 (bc2_36_10 call x1 x2 _) ?_
          refine rc_b (i' := 2) (ls' := [some (vR 1), some (vI x1), some (vI (x2 + 3))]) (st' := []) (L' := LG z f) 1 (bc2_36_11 call x1 (x2 + 3) _) ?_
          exact H
        · have H := H.2 (cI1f q4)
          refine rc_b (i' := 37) (ls' := [some (vR 1), some (vI x1), some (vI x2)]) (st' := [vI 1]) (L' := LG z f) 1 (bc2_36_22 call x1 x2 _) ?_
          subst H
          exact rc_ret (bc2_36_23 call _ _)
theorem c_ht2 (call : QC FA) (v : Int32) (z : Nat → Int32) (f : Nat → FA) : ∀ t k, k + t = 8 → ∃ r, RC call (mP 36) 2 [some (vR 1), some (vI v), some (vI (nI (3 * k)))] [] (LG z f) (some (vI r), LG z f) := by
  intro t
  induction t with
  | zero =>
    intro k hk
    obtain rfl : k = 8 := by omega
    exact ⟨0, vcc2_36_2 _ _ _ _ _ _ ⟨fun _ => rfl, fun q => absurd q (by decide)⟩⟩
  | succ t ih =>
    intro k hk
    obtain ⟨r, hr⟩ := ih (k + 1) (by omega)
    have go : ∀ res, _ → RC call (mP 36) 2 [some (vR 1), some (vI v), some (vI (nI (3 * k)))] [] (LG z f) res := fun res H => vcc2_36_2 call v (nI (3 * k)) z f res H
    rw [show nI (3 * k) + 1 = nI (3 * k + 1) from nI_add _ 1, show nI (3 * k) + 2 = nI (3 * k + 2) from nI_add _ 2, show nI (3 * k) + 3 = nI (3 * (k + 1)) from nI_add _ 3, I_nI (n := 24) (by omega), I_nI (n := 3 * k + 2) (by omega), ix_nI (j := 3 * k) (by omega), ix_nI (j := 3 * k + 1) (by omega), ix_nI (j := 3 * k + 2) (by omega)] at go
    have p0 := sF2 (3 * k) (by omega)
    have p1 := sF2 (3 * k + 1) (by omega)
    have p2 := sF2 (3 * k + 2) (by omega)
    by_cases c0 : f 3 (ix (sF 2 (3 * k))) = v
    · by_cases c1 : f 3 (ix (sF 2 (3 * k + 1))) = v
      · by_cases c2 : f 3 (ix (sF 2 (3 * k + 2))) = v
        · exact ⟨1, go _ ⟨fun q => by omega, fun _ => ⟨pin_nI (by omega) (by omega), p0, fun q => absurd c0 q, fun _ => ⟨pin_nI (by omega) (by omega), p1, fun q => absurd c1 q, fun _ => ⟨pin_nI (by omega) (by omega), p2, fun q => absurd c2 q, fun _ => rfl⟩⟩⟩⟩⟩
        · exact ⟨r, go _ ⟨fun q => by omega, fun _ => ⟨pin_nI (by omega) (by omega), p0, fun q => absurd c0 q, fun _ => ⟨pin_nI (by omega) (by omega), p1, fun q => absurd c1 q, fun _ => ⟨pin_nI (by omega) (by omega), p2, fun _ => hr, fun q => absurd q c2⟩⟩⟩⟩⟩
      · exact ⟨r, go _ ⟨fun q => by omega, fun _ => ⟨pin_nI (by omega) (by omega), p0, fun q => absurd c0 q, fun _ => ⟨pin_nI (by omega) (by omega), p1, fun _ => hr, fun q => absurd q c1⟩⟩⟩⟩
    · exact ⟨r, go _ ⟨fun q => by omega, fun _ => ⟨pin_nI (by omega) (by omega), p0, fun _ => hr, fun q => absurd q c0⟩⟩⟩
theorem c_hasThree (d0 : Nat) (v : Int32) (z : Nat → Int32) (f : Nat → FA) : ∃ r, mcall (d0 + 1) 36 [vR 1, vI v] (LG z f) = some (some (vI r), LG z f) := by
  obtain ⟨r, hr⟩ := c_ht2 (mcall d0) v z f 8 0 (by omega)
  exact ⟨r, mcall_i (mq36 (cu := [])).2.2 rfl (vc36_0 _ _ _ _ _ _ hr)⟩
set_option maxRecDepth 100000 in
theorem b40_1 (call : QC FA) (x0 : Int32) (L : QH FA) (F : Nat) : rnG call 40 (F + 2) 0 [some (vI x0)] [] L = rnG call 40 F 2 [some (vI x0)] [vI 2, vI x0] L := rfl
set_option maxRecDepth 100000 in
theorem b40_2 (call : QC FA) (x y : Int32) (ls : List (Option PV)) (L : QH FA) (F : Nat) : rnG call 40 (F + 1) 2 ls [vI y, vI x] L = bif pcmp 1 y 0 then rnG call 40 F 3 ls [vI (x - x / y * y)] L else none := rfl
set_option maxRecDepth 100000 in
theorem b40_3 (call : QC FA) (x : Int32) (ls : List (Option PV)) (L : QH FA) (F : Nat) : rnG call 40 (F + 1) 3 ls [vI x] L = bif pcmp 1 x 0 then rnG call 40 F 6 ls [] L else rnG call 40 F 4 ls [] L := rfl
set_option maxRecDepth 100000 in
theorem b40_4 (call : QC FA) (x0 : Int32) (L : QH FA) (F : Nat) : rnG call 40 (F + 1) 6 [some (vI x0)] [] L = rnG call 40 F 7 [some (vI x0)] [vI 2] L := rfl
set_option maxRecDepth 100000 in
theorem b40_5 (call : QC FA) (x : Int32) (ls : List (Option PV)) (L : QH FA) (F : Nat) : rnG call 40 (F + 1) 7 ls [vI x] L = some (some (vI x), L) := rfl
set_option maxRecDepth 100000 in
theorem b40_6 (call : QC FA) (x0 : Int32) (L : QH FA) (F : Nat) : rnG call 40 (F + 2) 4 [some (vI x0)] [] L = rnG call 40 F 7 [some (vI x0)] [vI 1] L := rfl
theorem vc40_0 (call : QC FA) (x0 : Int32) (z : Nat → Int32) (f : Nat → FA) (res : Option PV × QH FA) (H : (¬ (2 : Int32) = 0 ∧ ((¬ x0 - x0 / 2 * 2 = 0 → res = (some (vI 2), LG z f)) ∧ (x0 - x0 / 2 * 2 = 0 → res = (some (vI 1), LG z f))))) : RC call (mP 40) 0 [some (vI x0)] [] (LG z f) res := by
  refine rc_b (i' := 2) (ls' := [some (vI x0)]) (st' := [vI 2, vI x0]) (L' := LG z f) 2 (b40_1 call x0 _) ?_
  obtain ⟨g1, H⟩ := H
  refine rc_g (i' := 3) (ls' := [some (vI x0)]) (st' := [vI (x0 - x0 / 2 * 2)]) (L' := LG z f) (b40_2 call x0 2 _ _) (cmp_ne.trans (decide_eq_true g1)) ?_
  refine rc_if (it := 6) (ie := 4) (ls' := [some (vI x0)]) (st' := []) (b40_3 call (x0 - x0 / 2 * 2) _ _) (fun q1 => ?_) (fun q1 => ?_)
  · have H := H.1 (cI1t q1)
    refine rc_b (i' := 7) (ls' := [some (vI x0)]) (st' := [vI 2]) (L' := LG z f) 1 (b40_4 call x0 _) ?_
    subst H
    exact rc_ret (b40_5 call _ _ _)
  · have H := H.2 (cI1f q1)
    refine rc_b (i' := 7) (ls' := [some (vI x0)]) (st' := [vI 1]) (L' := LG z f) 2 (b40_6 call x0 _) ?_
    subst H
    exact rc_ret (b40_5 call _ _ _)
theorem c_who (d0 : Nat) (x : Int32) (z : Nat → Int32) (f : Nat → FA) : ∃ r, mcall (d0 + 1) 40 [vI x] (LG z f) = some (some (vI r), LG z f) := by
  by_cases c : x - x / 2 * 2 = 0
  · exact ⟨1, mcall_i (mq40 (cu := [])).2.2 rfl (vc40_0 _ _ _ _ _ ⟨by decide, fun q => absurd c q, fun _ => rfl⟩)⟩
  · exact ⟨2, mcall_i (mq40 (cu := [])).2.2 rfl (vc40_0 _ _ _ _ _ ⟨by decide, fun _ => rfl, fun q => absurd q c⟩)⟩
theorem div16 {x : Int32} (h : 0 ≤ I x) : ∃ n, x / 16 = nI n ∧ n < 2147483648 := by
  obtain ⟨m, m1, m2, m3⟩ := nI_ofI h
  exact ⟨m / 16, by rw [m1]; exact ndiv (x := nI m) (y := 16) (a := m) (b := 16) rfl (by omega) (by omega) (by omega) rfl, by omega⟩
set_option maxRecDepth 100000 in
theorem b39_1 (call : QC FA) (x1 : Int32) (o2 : Option PV) (L : QH FA) (F : Nat) : rnG call 39 (F + 2) 0 [some (vR 1), some (vI x1), o2] [] L = rnG call 39 F 2 [some (vR 1), some (vI x1), o2] [vI 16, vI x1] L := rfl
set_option maxRecDepth 100000 in
theorem b39_2 (call : QC FA) (x y : Int32) (ls : List (Option PV)) (L : QH FA) (F : Nat) : rnG call 39 (F + 1) 2 ls [vI y, vI x] L = bif pcmp 1 y 0 then rnG call 39 F 3 ls [vI (x / y)] L else none := rfl
set_option maxRecDepth 100000 in
theorem b39_3 (call : QC FA) (x1 : Int32) (o2 : Option PV) (s0 : Int32) (L : QH FA) (F : Nat) : rnG call 39 (F + 2) 3 [some (vR 1), some (vI x1), o2] [vI s0] L = rnG call 39 F 5 [some (vR 1), some (vI x1), some (vI s0)] [vI x1] L := rfl
set_option maxRecDepth 100000 in
theorem b39_4 (call : QC FA) (x : Int32) (ls : List (Option PV)) (L : QH FA) (F : Nat) : rnG call 39 (F + 1) 5 ls [vI x] L = bif pcmp 2 x 0 then rnG call 39 F 11 ls [] L else rnG call 39 F 6 ls [] L := rfl
set_option maxRecDepth 100000 in
theorem b39_5 (call : QC FA) (x1 : Int32) (x2 : Int32) (L : QH FA) (F : Nat) : rnG call 39 (F + 1) 11 [some (vR 1), some (vI x1), some (vI x2)] [] L = rnG call 39 F 12 [some (vR 1), some (vI x1), some (vI x2)] [vI ((-2))] L := rfl
set_option maxRecDepth 100000 in
theorem b39_6 (call : QC FA) (x : Int32) (ls : List (Option PV)) (L : QH FA) (F : Nat) : rnG call 39 (F + 1) 12 ls [vI x] L = some (some (vI x), L) := rfl
set_option maxRecDepth 100000 in
theorem b39_7 (call : QC FA) (x1 : Int32) (x2 : Int32) (z : Nat → Int32) (f : Nat → FA) (F : Nat) : rnG call 39 (F + 4) 6 [some (vR 1), some (vI x1), some (vI x2)] [] (LG z f) = rnG call 39 F 10 [some (vR 1), some (vI x1), some (vI x2)] [vI (nI 1231), vI x2] (LG z f) := rfl
set_option maxRecDepth 100000 in
theorem b39_8 (call : QC FA) (x y : Int32) (ls : List (Option PV)) (L : QH FA) (F : Nat) : rnG call 39 (F + 1) 10 ls [vI y, vI x] L = bif pcmp 2 x y then rnG call 39 F 13 ls [] L else rnG call 39 F 11 ls [] L := rfl
set_option maxRecDepth 100000 in
theorem b39_9 (call : QC FA) (x1 : Int32) (x2 : Int32) (z : Nat → Int32) (f : Nat → FA) (F : Nat) : rnG call 39 (F + 3) 13 [some (vR 1), some (vI x1), some (vI x2)] [] (LG z f) = rnG call 39 F 16 [some (vR 1), some (vI x1), some (vI x2)] [vI x2, vR 2] (LG z f) := rfl
set_option maxRecDepth 100000 in
theorem b39_10 (call : QC FA) (x : Int32) (ls : List (Option PV)) (z : Nat → Int32) (f : Nat → FA) (F : Nat) : rnG call 39 (F + 1) 16 ls [vI x, vR 2] (LG z f) = bif (Nat.beq 0 0 && pin x 1231) then rnG call 39 F 17 ls [vI (f 2 (ix x))] (LG z f) else none := rfl
set_option maxRecDepth 100000 in
theorem b39_11 (call : QC FA) (x1 : Int32) (x2 : Int32) (s0 : Int32) (L : QH FA) (F : Nat) : rnG call 39 (F + 3) 17 [some (vR 1), some (vI x1), some (vI x2)] [vI s0] L = rnG call 39 F 20 [some (vR 1), some (vI x1), some (vI x2)] [vI 16, vI x1, vI 2, vI s0] L := rfl
set_option maxRecDepth 100000 in
theorem b39_12 (call : QC FA) (x y : Int32) (s0 : Int32) (s1 : Int32) (ls : List (Option PV)) (L : QH FA) (F : Nat) : rnG call 39 (F + 1) 20 ls [vI y, vI x, vI s0, vI s1] L = bif pcmp 1 y 0 then rnG call 39 F 21 ls [vI (x - x / y * y), vI s0, vI s1] L else none := rfl
set_option maxRecDepth 100000 in
theorem b39_13 (call : QC FA) (x1 : Int32) (x2 : Int32) (s0 : Int32) (s1 : Int32) (s2 : Int32) (L : QH FA) (F : Nat) : rnG call 39 (F + 6) 21 [some (vR 1), some (vI x1), some (vI x2)] [vI s0, vI s1, vI s2] L = rnG call 39 F 27 [some (vR 1), some (vI x1), some (vI x2)] [vI (((s2 >>> ((s1 * s0) &&& 31)) &&& 3) - 2)] L := rfl
set_option maxRecDepth 100000 in
theorem b39_14 (call : QC FA) (x : Int32) (ls : List (Option PV)) (L : QH FA) (F : Nat) : rnG call 39 (F + 1) 27 ls [vI x] L = some (some (vI x), L) := rfl
theorem vc39_0 (call : QC FA) (x1 : Int32) (o2 : Option PV) (z : Nat → Int32) (f : Nat → FA) (res : Option PV × QH FA) (H : (¬ (16 : Int32) = 0 ∧ ((I x1 < 0 → res = (some (vI ((-2))), LG z f)) ∧ (0 ≤ I x1 → ((I (x1 / 16) < I (nI 1231) → (pin (x1 / 16) 1231 = true ∧ (¬ (16 : Int32) = 0 ∧ res = (some (vI ((((f 2 (ix (x1 / 16))) >>> ((2 * (x1 - x1 / 16 * 16)) &&& 31)) &&& 3) - 2)), LG z f)))) ∧ (I (nI 1231) ≤ I (x1 / 16) → res = (some (vI ((-2))), LG z f))))))) : RC call (mP 39) 0 [some (vR 1), some (vI x1), o2] [] (LG z f) res := by
  refine rc_b (i' := 2) (ls' := [some (vR 1), some (vI x1), o2]) (st' := [vI 16, vI x1]) (L' := LG z f) 2 (b39_1 call x1 o2 _) ?_
  obtain ⟨g1, H⟩ := H
  refine rc_g (i' := 3) (ls' := [some (vR 1), some (vI x1), o2]) (st' := [vI (x1 / 16)]) (L' := LG z f) (b39_2 call x1 16 _ _) (cmp_ne.trans (decide_eq_true g1)) ?_
  refine rc_b (i' := 5) (ls' := [some (vR 1), some (vI x1), some (vI (x1 / 16))]) (st' := [vI x1]) (L' := LG z f) 2 (b39_3 call x1 o2 (x1 / 16) _) ?_
  refine rc_if (it := 11) (ie := 6) (ls' := [some (vR 1), some (vI x1), some (vI (x1 / 16))]) (st' := []) (b39_4 call x1 _ _) (fun q1 => ?_) (fun q1 => ?_)
  · have H := H.1 (cI2t q1 rfl rfl)
    refine rc_b (i' := 12) (ls' := [some (vR 1), some (vI x1), some (vI (x1 / 16))]) (st' := [vI ((-2))]) (L' := LG z f) 1 (b39_5 call x1 (x1 / 16) _) ?_
    subst H
    exact rc_ret (b39_6 call _ _ _)
  · have H := H.2 (cI2f q1 rfl rfl)
    refine rc_b (i' := 10) (ls' := [some (vR 1), some (vI x1), some (vI (x1 / 16))]) (st' := [vI (nI 1231), vI (x1 / 16)]) (L' := LG z f) 4 (b39_7 call x1 (x1 / 16) z f) ?_
    refine rc_if (it := 13) (ie := 11) (ls' := [some (vR 1), some (vI x1), some (vI (x1 / 16))]) (st' := []) (b39_8 call (x1 / 16) (nI 1231) _ _) (fun q2 => ?_) (fun q2 => ?_)
    · have H := H.1 (cI2t q2 rfl rfl)
      refine rc_b (i' := 16) (ls' := [some (vR 1), some (vI x1), some (vI (x1 / 16))]) (st' := [vI (x1 / 16), vR 2]) (L' := LG z f) 3 (b39_9 call x1 (x1 / 16) z f) ?_
      obtain ⟨g1, H⟩ := H
      refine rc_g (i' := 17) (ls' := [some (vR 1), some (vI x1), some (vI (x1 / 16))]) (st' := [vI (f 2 (ix (x1 / 16)))]) (L' := LG z f) (b39_10 call (x1 / 16) _ z f) (pinG g1) ?_
      refine rc_b (i' := 20) (ls' := [some (vR 1), some (vI x1), some (vI (x1 / 16))]) (st' := [vI 16, vI x1, vI 2, vI (f 2 (ix (x1 / 16)))]) (L' := LG z f) 3 (b39_11 call x1 (x1 / 16) (f 2 (ix (x1 / 16))) _) ?_
      obtain ⟨g1, H⟩ := H
      refine rc_g (i' := 21) (ls' := [some (vR 1), some (vI x1), some (vI (x1 / 16))]) (st' := [vI (x1 - x1 / 16 * 16), vI 2, vI (f 2 (ix (x1 / 16)))]) (L' := LG z f) (b39_12 call x1 16 2 (f 2 (ix (x1 / 16))) _ _) (cmp_ne.trans (decide_eq_true g1)) ?_
      refine rc_b (i' := 27) (ls' := [some (vR 1), some (vI x1), some (vI (x1 / 16))]) (st' := [vI ((((f 2 (ix (x1 / 16))) >>> ((2 * (x1 - x1 / 16 * 16)) &&& 31)) &&& 3) - 2)]) (L' := LG z f) 6 (b39_13 call x1 (x1 / 16) (x1 - x1 / 16 * 16) 2 (f 2 (ix (x1 / 16))) _) ?_
      subst H
      exact rc_ret (b39_14 call _ _ _)
    · have H := H.2 (cI2f q2 rfl rfl)
      refine rc_b (i' := 12) (ls' := [some (vR 1), some (vI x1), some (vI (x1 / 16))]) (st' := [vI ((-2))]) (L' := LG z f) 1 (b39_5 call x1 (x1 / 16) _) ?_
      subst H
      exact rc_ret (b39_6 call _ _ _)
theorem c_recall (d0 : Nat) (x : Int32) (z : Nat → Int32) (f : Nat → FA) : ∃ r, mcall (d0 + 1) 39 [vR 1, vI x] (LG z f) = some (some (vI r), LG z f) := by
  have go : ∀ res, _ → mcall (d0 + 1) 39 [vR 1, vI x] (LG z f) = some res := fun res H => mcall_i (mq39 (cu := [])).2.2 rfl (vc39_0 (mcall d0) x none z f res H)
  by_cases c : 0 ≤ I x
  · obtain ⟨n, n1, n2⟩ := div16 c
    have i1 : I (x / 16) = n := by rw [n1]; exact I_nI n2
    have i2 := I_nI (n := 1231) (by omega)
    by_cases c2 : n < 1231
    · exact ⟨_, go _ ⟨by decide, fun q => by omega, fun _ => ⟨fun _ => ⟨by rw [n1]; exact pin_nI c2 n2, by decide, rfl⟩, fun q => by omega⟩⟩⟩
    · exact ⟨-2, go _ ⟨by decide, fun q => by omega, fun _ => ⟨fun q => by omega, fun _ => rfl⟩⟩⟩
  · exact ⟨-2, go _ ⟨by decide, fun _ => rfl, fun q => absurd q c⟩⟩
set_option maxRecDepth 100000 in
theorem b42_1 (call : QC FA) (x1 : Int32) (x2 : Int32) (o3 : Option PV) (L : QH FA) (F : Nat) : rnG call 42 (F + 2) 0 [some (vR 1), some (vI x1), some (vI x2), o3] [] L = rnG call 42 F 2 [some (vR 1), some (vI x1), some (vI x2), o3] [vI 16, vI x1] L := rfl
set_option maxRecDepth 100000 in
theorem b42_2 (call : QC FA) (x y : Int32) (ls : List (Option PV)) (L : QH FA) (F : Nat) : rnG call 42 (F + 1) 2 ls [vI y, vI x] L = bif pcmp 1 y 0 then rnG call 42 F 3 ls [vI (x / y)] L else none := rfl
set_option maxRecDepth 100000 in
theorem b42_3 (call : QC FA) (x1 : Int32) (x2 : Int32) (o3 : Option PV) (s0 : Int32) (L : QH FA) (F : Nat) : rnG call 42 (F + 2) 3 [some (vR 1), some (vI x1), some (vI x2), o3] [vI s0] L = rnG call 42 F 5 [some (vR 1), some (vI x1), some (vI x2), some (vI s0)] [vI x1] L := rfl
set_option maxRecDepth 100000 in
theorem b42_4 (call : QC FA) (x : Int32) (ls : List (Option PV)) (L : QH FA) (F : Nat) : rnG call 42 (F + 1) 5 ls [vI x] L = bif pcmp 2 x 0 then rnG call 42 F 27 ls [] L else rnG call 42 F 6 ls [] L := rfl
set_option maxRecDepth 100000 in
theorem b42_5 (call : QC FA) (ls : List (Option PV)) (L : QH FA) (F : Nat) : rnG call 42 (F + 1) 27 ls [] L = some (none, L) := rfl
set_option maxRecDepth 100000 in
theorem b42_6 (call : QC FA) (x1 : Int32) (x2 : Int32) (x3 : Int32) (z : Nat → Int32) (f : Nat → FA) (F : Nat) : rnG call 42 (F + 4) 6 [some (vR 1), some (vI x1), some (vI x2), some (vI x3)] [] (LG z f) = rnG call 42 F 10 [some (vR 1), some (vI x1), some (vI x2), some (vI x3)] [vI (nI 1231), vI x3] (LG z f) := rfl
set_option maxRecDepth 100000 in
theorem b42_7 (call : QC FA) (x y : Int32) (ls : List (Option PV)) (L : QH FA) (F : Nat) : rnG call 42 (F + 1) 10 ls [vI y, vI x] L = bif pcmp 3 x y then rnG call 42 F 27 ls [] L else rnG call 42 F 11 ls [] L := rfl
set_option maxRecDepth 100000 in
theorem b42_8 (call : QC FA) (x1 : Int32) (x2 : Int32) (x3 : Int32) (z : Nat → Int32) (f : Nat → FA) (F : Nat) : rnG call 42 (F + 4) 11 [some (vR 1), some (vI x1), some (vI x2), some (vI x3)] [] (LG z f) = rnG call 42 F 15 [some (vR 1), some (vI x1), some (vI x2), some (vI x3)] [vI x3, vR 2, vI x3, vR 2] (LG z f) := rfl
set_option maxRecDepth 100000 in
theorem b42_9 (call : QC FA) (x : Int32) (s0 : Int32) (ls : List (Option PV)) (z : Nat → Int32) (f : Nat → FA) (F : Nat) : rnG call 42 (F + 1) 15 ls [vI x, vR 2, vI s0, vR 2] (LG z f) = bif (Nat.beq 0 0 && pin x 1231) then rnG call 42 F 16 ls [vI (f 2 (ix x)), vI s0, vR 2] (LG z f) else none := rfl
set_option maxRecDepth 100000 in
theorem b42_10 (call : QC FA) (x1 : Int32) (x2 : Int32) (x3 : Int32) (s0 : Int32) (s1 : Int32) (L : QH FA) (F : Nat) : rnG call 42 (F + 6) 16 [some (vR 1), some (vI x1), some (vI x2), some (vI x3)] [vI s0, vI s1, vR 2] L = rnG call 42 F 22 [some (vR 1), some (vI x1), some (vI x2), some (vI x3)] [vI 16, vI x1, vI 2, vI (x2 + 2), vI s0, vI s1, vR 2] L := rfl
set_option maxRecDepth 100000 in
theorem b42_11 (call : QC FA) (x y : Int32) (s0 : Int32) (s1 : Int32) (s2 : Int32) (s3 : Int32) (ls : List (Option PV)) (L : QH FA) (F : Nat) : rnG call 42 (F + 1) 22 ls [vI y, vI x, vI s0, vI s1, vI s2, vI s3, vR 2] L = bif pcmp 1 y 0 then rnG call 42 F 23 ls [vI (x - x / y * y), vI s0, vI s1, vI s2, vI s3, vR 2] L else none := rfl
set_option maxRecDepth 100000 in
theorem b42_12 (call : QC FA) (x1 : Int32) (x2 : Int32) (x3 : Int32) (s0 : Int32) (s1 : Int32) (s2 : Int32) (s3 : Int32) (s4 : Int32) (L : QH FA) (F : Nat) : rnG call 42 (F + 3) 23 [some (vR 1), some (vI x1), some (vI x2), some (vI x3)] [vI s0, vI s1, vI s2, vI s3, vI s4, vR 2] L = rnG call 42 F 26 [some (vR 1), some (vI x1), some (vI x2), some (vI x3)] [vI (s3 ||| (s2 <<< ((s1 * s0) &&& 31))), vI s4, vR 2] L := rfl
set_option maxRecDepth 100000 in
theorem b42_13 (call : QC FA) (x y : Int32) (ls : List (Option PV)) (z : Nat → Int32) (f : Nat → FA) (F : Nat) : rnG call 42 (F + 1) 26 ls [vI y, vI x, vR 2] (LG z f) = bif (Nat.beq 0 0 && pin x 1231) then rnG call 42 F 27 ls [] (LG z (uA f 2 (upd (f 2) (ix x) y))) else none := rfl
theorem vc42_0 (call : QC FA) (x1 : Int32) (x2 : Int32) (o3 : Option PV) (z : Nat → Int32) (f : Nat → FA) (res : Option PV × QH FA) (H : (¬ (16 : Int32) = 0 ∧ ((I x1 < 0 → res = (none, LG z f)) ∧ (0 ≤ I x1 → ((I (nI 1231) ≤ I (x1 / 16) → res = (none, LG z f)) ∧ (I (x1 / 16) < I (nI 1231) → (pin (x1 / 16) 1231 = true ∧ (¬ (16 : Int32) = 0 ∧ (pin (x1 / 16) 1231 = true ∧ res = (none, LG z (uA f 2 (upd (f 2) (ix (x1 / 16)) ((f 2 (ix (x1 / 16))) ||| ((x2 + 2) <<< ((2 * (x1 - x1 / 16 * 16)) &&& 31))))))))))))))) : RC call (mP 42) 0 [some (vR 1), some (vI x1), some (vI x2), o3] [] (LG z f) res := by
  refine rc_b (i' := 2) (ls' := [some (vR 1), some (vI x1), some (vI x2), o3]) (st' := [vI 16, vI x1]) (L' := LG z f) 2 (b42_1 call x1 x2 o3 _) ?_
  obtain ⟨g1, H⟩ := H
  refine rc_g (i' := 3) (ls' := [some (vR 1), some (vI x1), some (vI x2), o3]) (st' := [vI (x1 / 16)]) (L' := LG z f) (b42_2 call x1 16 _ _) (cmp_ne.trans (decide_eq_true g1)) ?_
  refine rc_b (i' := 5) (ls' := [some (vR 1), some (vI x1), some (vI x2), some (vI (x1 / 16))]) (st' := [vI x1]) (L' := LG z f) 2 (b42_3 call x1 x2 o3 (x1 / 16) _) ?_
  refine rc_if (it := 27) (ie := 6) (ls' := [some (vR 1), some (vI x1), some (vI x2), some (vI (x1 / 16))]) (st' := []) (b42_4 call x1 _ _) (fun q1 => ?_) (fun q1 => ?_)
  · have H := H.1 (cI2t q1 rfl rfl)
    subst H
    exact rc_ret (b42_5 call _ _)
  · have H := H.2 (cI2f q1 rfl rfl)
    refine rc_b (i' := 10) (ls' := [some (vR 1), some (vI x1), some (vI x2), some (vI (x1 / 16))]) (st' := [vI (nI 1231), vI (x1 / 16)]) (L' := LG z f) 4 (b42_6 call x1 x2 (x1 / 16) z f) ?_
    refine rc_if (it := 27) (ie := 11) (ls' := [some (vR 1), some (vI x1), some (vI x2), some (vI (x1 / 16))]) (st' := []) (b42_7 call (x1 / 16) (nI 1231) _ _) (fun q2 => ?_) (fun q2 => ?_)
    · have H := H.1 (cI3t q2 rfl rfl)
      subst H
      exact rc_ret (b42_5 call _ _)
    · have H := H.2 (cI3f q2 rfl rfl)
      refine rc_b (i' := 15) (ls' := [some (vR 1), some (vI x1), some (vI x2), some (vI (x1 / 16))]) (st' := [vI (x1 / 16), vR 2, vI (x1 / 16), vR 2]) (L' := LG z f) 4 (b42_8 call x1 x2 (x1 / 16) z f) ?_
      obtain ⟨g1, H⟩ := H
      refine rc_g (i' := 16) (ls' := [some (vR 1), some (vI x1), some (vI x2), some (vI (x1 / 16))]) (st' := [vI (f 2 (ix (x1 / 16))), vI (x1 / 16), vR 2]) (L' := LG z f) (b42_9 call (x1 / 16) (x1 / 16) _ z f) (pinG g1) ?_
      refine rc_b (i' := 22) (ls' := [some (vR 1), some (vI x1), some (vI x2), some (vI (x1 / 16))]) (st' := [vI 16, vI x1, vI 2, vI (x2 + 2), vI (f 2 (ix (x1 / 16))), vI (x1 / 16), vR 2]) (L' := LG z f) 6 (b42_10 call x1 x2 (x1 / 16) (f 2 (ix (x1 / 16))) (x1 / 16) _) ?_
      obtain ⟨g1, H⟩ := H
      refine rc_g (i' := 23) (ls' := [some (vR 1), some (vI x1), some (vI x2), some (vI (x1 / 16))]) (st' := [vI (x1 - x1 / 16 * 16), vI 2, vI (x2 + 2), vI (f 2 (ix (x1 / 16))), vI (x1 / 16), vR 2]) (L' := LG z f) (b42_11 call x1 16 2 (x2 + 2) (f 2 (ix (x1 / 16))) (x1 / 16) _ _) (cmp_ne.trans (decide_eq_true g1)) ?_
      refine rc_b (i' := 26) (ls' := [some (vR 1), some (vI x1), some (vI x2), some (vI (x1 / 16))]) (st' := [vI ((f 2 (ix (x1 / 16))) ||| ((x2 + 2) <<< ((2 * (x1 - x1 / 16 * 16)) &&& 31))), vI (x1 / 16), vR 2]) (L' := LG z f) 3 (b42_12 call x1 x2 (x1 / 16) (x1 - x1 / 16 * 16) 2 (x2 + 2) (f 2 (ix (x1 / 16))) (x1 / 16) _) ?_
      obtain ⟨g1, H⟩ := H
      refine rc_g (i' := 27) (ls' := [some (vR 1), some (vI x1), some (vI x2), some (vI (x1 / 16))]) (st' := []) (L' := LG z (uA f 2 (upd (f 2) (ix (x1 / 16)) ((f 2 (ix (x1 / 16))) ||| ((x2 + 2) <<< ((2 * (x1 - x1 / 16 * 16)) &&& 31)))))) (b42_13 call (x1 / 16) ((f 2 (ix (x1 / 16))) ||| ((x2 + 2) <<< ((2 * (x1 - x1 / 16 * 16)) &&& 31))) _ z f) (pinG g1) ?_
      subst H
      exact rc_ret (b42_5 call _ _)
theorem c_keep (d0 : Nat) (x y : Int32) (z : Nat → Int32) (f : Nat → FA) : ∃ f', mcall (d0 + 1) 42 [vR 1, vI x, vI y] (LG z f) = some (none, LG z f') := by
  have go : ∀ res, _ → mcall (d0 + 1) 42 [vR 1, vI x, vI y] (LG z f) = some res := fun res H => mcall_i (mq42 (cu := [])).2.2 rfl (vc42_0 (mcall d0) x y none z f res H)
  by_cases c : 0 ≤ I x
  · obtain ⟨n, n1, n2⟩ := div16 c
    have i1 : I (x / 16) = n := by rw [n1]; exact I_nI n2
    have i2 := I_nI (n := 1231) (by omega)
    by_cases c2 : n < 1231
    · have p : pin (x / 16) 1231 = true := by rw [n1]; exact pin_nI c2 n2
      exact ⟨_, go _ ⟨by decide, fun q => by omega, fun _ => ⟨fun q => by omega, fun _ => ⟨p, by decide, p, rfl⟩⟩⟩⟩
    · exact ⟨f, go _ ⟨by decide, fun q => by omega, fun _ => ⟨fun _ => rfl, fun q => by omega⟩⟩⟩
  · exact ⟨f, go _ ⟨by decide, fun _ => rfl, fun q => absurd q c⟩⟩
set_option maxRecDepth 100000 in
theorem b38_1 (call : QC FA) (x1 : Int32) (x2 : Int32) (o3 : Option PV) (o4 : Option PV) (o5 : Option PV) (L : QH FA) (F : Nat) : rnG call 38 (F + 2) 0 [some (vR 1), some (vI x1), some (vI x2), o3, o4, o5] [] L = rnG call 38 F 2 [some (vR 1), some (vI x1), some (vI x2), o3, o4, o5] [vI x1, vR 1] L := rfl
set_option maxRecDepth 100000 in
theorem b38_2 (call : QC FA) (a0 : Int32) (ls : List (Option PV)) (z : Nat → Int32) (f : Nat → FA) (F : Nat) : rnG call 38 (F + 1) 2 ls [vI a0, vR 1] (LG z f) = cbd (call 39 [vR 1, vI a0] (LG z f)) (fun r L' => rnG call 38 F 3 ls (r.toList ++ []) L') := pcY (ih := rnG call 38 F) (call := call) (a := 39) (b := 1) (v := 2) (t := 3) (x := 1) (ls := ls) (As := [vI a0]) (st' := []) (L := LG z f) rfl rfl rfl
set_option maxRecDepth 100000 in
theorem b38_3 (call : QC FA) (x1 : Int32) (x2 : Int32) (o3 : Option PV) (o4 : Option PV) (o5 : Option PV) (s0 : Int32) (L : QH FA) (F : Nat) : rnG call 38 (F + 3) 3 [some (vR 1), some (vI x1), some (vI x2), o3, o4, o5] [vI s0] L = rnG call 38 F 6 [some (vR 1), some (vI x1), some (vI x2), some (vI s0), o4, o5] [vI ((-2)), vI s0] L := rfl
set_option maxRecDepth 100000 in
theorem b38_4 (call : QC FA) (x y : Int32) (ls : List (Option PV)) (L : QH FA) (F : Nat) : rnG call 38 (F + 1) 6 ls [vI y, vI x] L = bif pcmp 0 x y then rnG call 38 F 9 ls [] L else rnG call 38 F 7 ls [] L := rfl
set_option maxRecDepth 100000 in
theorem b38_5 (call : QC FA) (x1 : Int32) (x2 : Int32) (x3 : Int32) (o4 : Option PV) (o5 : Option PV) (L : QH FA) (F : Nat) : rnG call 38 (F + 1) 9 [some (vR 1), some (vI x1), some (vI x2), some (vI x3), o4, o5] [] L = rnG call 38 F 10 [some (vR 1), some (vI x1), some (vI x2), some (vI x3), o4, o5] [vI x2] L := rfl
set_option maxRecDepth 100000 in
theorem b38_6 (call : QC FA) (a0 : Int32) (ls : List (Option PV)) (z : Nat → Int32) (f : Nat → FA) (F : Nat) : rnG call 38 (F + 1) 10 ls [vI a0] (LG z f) = cbd (call 40 [vI a0] (LG z f)) (fun r L' => rnG call 38 F 11 ls (r.toList ++ []) L') := pcZ (ih := rnG call 38 F) (call := call) (a := 40) (b := 1) (t := 11) (ls := ls) (As := [vI a0]) (st' := []) (L := LG z f) rfl rfl
set_option maxRecDepth 100000 in
theorem b38_7 (call : QC FA) (x1 : Int32) (x2 : Int32) (x3 : Int32) (o4 : Option PV) (o5 : Option PV) (s0 : Int32) (L : QH FA) (F : Nat) : rnG call 38 (F + 3) 11 [some (vR 1), some (vI x1), some (vI x2), some (vI x3), o4, o5] [vI s0] L = rnG call 38 F 14 [some (vR 1), some (vI x1), some (vI x2), some (vI x3), some (vI s0), o5] [vI s0, vR 1] L := rfl
set_option maxRecDepth 100000 in
theorem b38_8 (call : QC FA) (a0 : Int32) (ls : List (Option PV)) (z : Nat → Int32) (f : Nat → FA) (F : Nat) : rnG call 38 (F + 1) 14 ls [vI a0, vR 1] (LG z f) = cbd (call 36 [vR 1, vI a0] (LG z f)) (fun r L' => rnG call 38 F 15 ls (r.toList ++ []) L') := pcY (ih := rnG call 38 F) (call := call) (a := 36) (b := 1) (v := 2) (t := 15) (x := 1) (ls := ls) (As := [vI a0]) (st' := []) (L := LG z f) rfl rfl rfl
set_option maxRecDepth 100000 in
theorem b38_9 (call : QC FA) (x : Int32) (ls : List (Option PV)) (L : QH FA) (F : Nat) : rnG call 38 (F + 1) 15 ls [vI x] L = bif pcmp 0 x 0 then rnG call 38 F 19 ls [] L else rnG call 38 F 16 ls [] L := rfl
set_option maxRecDepth 100000 in
theorem b38_10 (call : QC FA) (x1 : Int32) (x2 : Int32) (x3 : Int32) (x4 : Int32) (o5 : Option PV) (L : QH FA) (F : Nat) : rnG call 38 (F + 4) 19 [some (vR 1), some (vI x1), some (vI x2), some (vI x3), some (vI x4), o5] [] L = rnG call 38 F 23 [some (vR 1), some (vI x1), some (vI x2), some (vI x3), some (vI x4), o5] [vI (3 - x4), vR 1] L := rfl
set_option maxRecDepth 100000 in
theorem b38_11 (call : QC FA) (a0 : Int32) (ls : List (Option PV)) (z : Nat → Int32) (f : Nat → FA) (F : Nat) : rnG call 38 (F + 1) 23 ls [vI a0, vR 1] (LG z f) = cbd (call 36 [vR 1, vI a0] (LG z f)) (fun r L' => rnG call 38 F 24 ls (r.toList ++ []) L') := pcY (ih := rnG call 38 F) (call := call) (a := 36) (b := 1) (v := 2) (t := 24) (x := 1) (ls := ls) (As := [vI a0]) (st' := []) (L := LG z f) rfl rfl rfl
set_option maxRecDepth 100000 in
theorem b38_12 (call : QC FA) (x : Int32) (ls : List (Option PV)) (L : QH FA) (F : Nat) : rnG call 38 (F + 1) 24 ls [vI x] L = bif pcmp 0 x 0 then rnG call 38 F 28 ls [] L else rnG call 38 F 25 ls [] L := rfl
set_option maxRecDepth 100000 in
theorem b38_13 (call : QC FA) (x1 : Int32) (x2 : Int32) (x3 : Int32) (x4 : Int32) (o5 : Option PV) (L : QH FA) (F : Nat) : rnG call 38 (F + 2) 28 [some (vR 1), some (vI x1), some (vI x2), some (vI x3), some (vI x4), o5] [] L = rnG call 38 F 30 [some (vR 1), some (vI x1), some (vI x2), some (vI x3), some (vI x4), o5] [vI 9, vI x2] L := rfl
set_option maxRecDepth 100000 in
theorem b38_14 (call : QC FA) (x y : Int32) (ls : List (Option PV)) (L : QH FA) (F : Nat) : rnG call 38 (F + 1) 30 ls [vI y, vI x] L = bif pcmp 2 x y then rnG call 38 F 34 ls [] L else rnG call 38 F 31 ls [] L := rfl
set_option maxRecDepth 100000 in
theorem b38_15 (call : QC FA) (x1 : Int32) (x2 : Int32) (x3 : Int32) (x4 : Int32) (o5 : Option PV) (L : QH FA) (F : Nat) : rnG call 38 (F + 4) 34 [some (vR 1), some (vI x1), some (vI x2), some (vI x3), some (vI x4), o5] [] L = rnG call 38 F 38 [some (vR 1), some (vI x1), some (vI x2), some (vI ((-1))), some (vI x4), some (vI 0)] [] L := rfl
set_option maxRecDepth 100000 in
theorem b38_16 (call : QC FA) (x1 : Int32) (x2 : Int32) (x3 : Int32) (x4 : Int32) (o5 : Option PV) (L : QH FA) (F : Nat) : rnG call 38 (F + 3) 31 [some (vR 1), some (vI x1), some (vI x2), some (vI x3), some (vI x4), o5] [] L = rnG call 38 F 59 [some (vR 1), some (vI x1), some (vI x2), some (vI 0), some (vI x4), o5] [] L := rfl
set_option maxRecDepth 100000 in
theorem b38_17 (call : QC FA) (x1 : Int32) (x2 : Int32) (x3 : Int32) (x4 : Int32) (o5 : Option PV) (L : QH FA) (F : Nat) : rnG call 38 (F + 3) 25 [some (vR 1), some (vI x1), some (vI x2), some (vI x3), some (vI x4), o5] [] L = rnG call 38 F 59 [some (vR 1), some (vI x1), some (vI x2), some (vI ((-1))), some (vI x4), o5] [] L := rfl
set_option maxRecDepth 100000 in
theorem b38_18 (call : QC FA) (x1 : Int32) (x2 : Int32) (x3 : Int32) (x4 : Int32) (o5 : Option PV) (L : QH FA) (F : Nat) : rnG call 38 (F + 3) 16 [some (vR 1), some (vI x1), some (vI x2), some (vI x3), some (vI x4), o5] [] L = rnG call 38 F 59 [some (vR 1), some (vI x1), some (vI x2), some (vI 1), some (vI x4), o5] [] L := rfl
set_option maxRecDepth 100000 in
theorem b38_19 (call : QC FA) (x1 : Int32) (x2 : Int32) (x3 : Int32) (o4 : Option PV) (o5 : Option PV) (L : QH FA) (F : Nat) : rnG call 38 (F + 1) 7 [some (vR 1), some (vI x1), some (vI x2), some (vI x3), o4, o5] [] L = rnG call 38 F 8 [some (vR 1), some (vI x1), some (vI x2), some (vI x3), o4, o5] [vI x3] L := rfl
set_option maxRecDepth 100000 in
theorem b38_20 (call : QC FA) (x : Int32) (ls : List (Option PV)) (L : QH FA) (F : Nat) : rnG call 38 (F + 1) 8 ls [vI x] L = some (some (vI x), L) := rfl
theorem vc38_0 (call : QC FA) (x1 : Int32) (x2 : Int32) (o3 : Option PV) (o4 : Option PV) (o5 : Option PV) (z : Nat → Int32) (f : Nat → FA) (res : Option PV × QH FA) (H : (∃ (r1 : Int32) (z1 : Nat → Int32) (f1 : Nat → FA), call 39 [vR 1, vI x1] (LG z f) = some (some (vI r1), LG z1 f1) ∧ ((r1 = (-2) → (∃ (r2 : Int32) (z2 : Nat → Int32) (f2 : Nat → FA), call 40 [vI x2] (LG z1 f1) = some (some (vI r2), LG z2 f2) ∧ (∃ (r3 : Int32) (z3 : Nat → Int32) (f3 : Nat → FA), call 36 [vR 1, vI r2] (LG z2 f2) = some (some (vI r3), LG z3 f3) ∧ ((r3 = 0 → (∃ (r4 : Int32) (z4 : Nat → Int32) (f4 : Nat → FA), call 36 [vR 1, vI (3 - r2)] (LG z3 f3) = some (some (vI r4), LG z4 f4) ∧ ((r4 = 0 → ((I x2 < 9 → RC call (mP 38) 38 [some (vR 1), some (vI x1), some (vI x2), some (vI ((-1))), some (vI r2), some (vI 0)] [] (LG z4 f4) res) ∧ (9 ≤ I x2 → RC call (mP 38) 59 [some (vR 1), some (vI x1), some (vI x2), some (vI 0), some (vI r2), o5] [] (LG z4 f4) res))) ∧ (¬ r4 = 0 → RC call (mP 38) 59 [some (vR 1), some (vI x1), some (vI x2), some (vI ((-1))), some (vI r2), o5] [] (LG z4 f4) res)))) ∧ (¬ r3 = 0 → RC call (mP 38) 59 [some (vR 1), some (vI x1), some (vI x2), some (vI 1), some (vI r2), o5] [] (LG z3 f3) res))))) ∧ (¬ r1 = (-2) → res = (some (vI r1), LG z1 f1))))) : RC call (mP 38) 0 [some (vR 1), some (vI x1), some (vI x2), o3, o4, o5] [] (LG z f) res := by
  refine rc_b (i' := 2) (ls' := [some (vR 1), some (vI x1), some (vI x2), o3, o4, o5]) (st' := [vI x1, vR 1]) (L' := LG z f) 2 (b38_1 call x1 x2 o3 o4 o5 _) ?_
  obtain ⟨r1, z1, f1, hc, H⟩ := H
  refine rc_call (t := 3) (ls' := [some (vR 1), some (vI x1), some (vI x2), o3, o4, o5]) (st' := []) (b38_2 call x1 _ z f) hc ?_
  show RC call (mP 38) 3 [some (vR 1), some (vI x1), some (vI x2), o3, o4, o5] [vI r1] (LG z1 f1) res
  refine rc_b (i' := 6) (ls' := [some (vR 1), some (vI x1), some (vI x2), some (vI r1), o4, o5]) (st' := [vI ((-2)), vI r1]) (L' := LG z1 f1) 3 (b38_3 call x1 x2 o3 o4 o5 r1 _) ?_
  refine rc_if (it := 9) (ie := 7) (ls' := [some (vR 1), some (vI x1), some (vI x2), some (vI r1), o4, o5]) (st' := []) (b38_4 call r1 ((-2)) _ _) (fun q1 => ?_) (fun q1 => ?_)
  · have H := H.1 (cI0t q1)
    refine rc_b (i' := 10) (ls' := [some (vR 1), some (vI x1), some (vI x2), some (vI r1), o4, o5]) (st' := [vI x2]) (L' := LG z1 f1) 1 (b38_5 call x1 x2 r1 o4 o5 _) ?_
    obtain ⟨r2, z2, f2, hc, H⟩ := H
    refine rc_call (t := 11) (ls' := [some (vR 1), some (vI x1), some (vI x2), some (vI r1), o4, o5]) (st' := []) (b38_6 call x2 _ z1 f1) hc ?_
    show RC call (mP 38) 11 [some (vR 1), some (vI x1), some (vI x2), some (vI r1), o4, o5] [vI r2] (LG z2 f2) res
    refine rc_b (i' := 14) (ls' := [some (vR 1), some (vI x1), some (vI x2), some (vI r1), some (vI r2), o5]) (st' := [vI r2, vR 1]) (L' := LG z2 f2) 3 (b38_7 call x1 x2 r1 o4 o5 r2 _) ?_
    obtain ⟨r3, z3, f3, hc, H⟩ := H
    refine rc_call (t := 15) (ls' := [some (vR 1), some (vI x1), some (vI x2), some (vI r1), some (vI r2), o5]) (st' := []) (b38_8 call r2 _ z2 f2) hc ?_
    show RC call (mP 38) 15 [some (vR 1), some (vI x1), some (vI x2), some (vI r1), some (vI r2), o5] [vI r3] (LG z3 f3) res
    refine rc_if (it := 19) (ie := 16) (ls' := [some (vR 1), some (vI x1), some (vI x2), some (vI r1), some (vI r2), o5]) (st' := []) (b38_9 call r3 _ _) (fun q2 => ?_) (fun q2 => ?_)
    · have H := H.1 (cI0t q2)
      refine rc_b (i' := 23) (ls' := [some (vR 1), some (vI x1), some (vI x2), some (vI r1), some (vI r2), o5]) (st' := [vI (3 - r2), vR 1]) (L' := LG z3 f3) 4 (b38_10 call x1 x2 r1 r2 o5 _) ?_
      obtain ⟨r4, z4, f4, hc, H⟩ := H
      refine rc_call (t := 24) (ls' := [some (vR 1), some (vI x1), some (vI x2), some (vI r1), some (vI r2), o5]) (st' := []) (b38_11 call (3 - r2) _ z3 f3) hc ?_
      show RC call (mP 38) 24 [some (vR 1), some (vI x1), some (vI x2), some (vI r1), some (vI r2), o5] [vI r4] (LG z4 f4) res
      refine rc_if (it := 28) (ie := 25) (ls' := [some (vR 1), some (vI x1), some (vI x2), some (vI r1), some (vI r2), o5]) (st' := []) (b38_12 call r4 _ _) (fun q3 => ?_) (fun q3 => ?_)
      · have H := H.1 (cI0t q3)
        refine rc_b (i' := 30) (ls' := [some (vR 1), some (vI x1), some (vI x2), some (vI r1), some (vI r2), o5]) (st' := [vI 9, vI x2]) (L' := LG z4 f4) 2 (b38_13 call x1 x2 r1 r2 o5 _) ?_
        refine rc_if (it := 34) (ie := 31) (ls' := [some (vR 1), some (vI x1), some (vI x2), some (vI r1), some (vI r2), o5]) (st' := []) (b38_14 call x2 9 _ _) (fun q4 => ?_) (fun q4 => ?_)
        · have H := H.1 (cI2t q4 rfl rfl)
          refine rc_b (i' := 38) (ls' := [some (vR 1), some (vI x1), some (vI x2), some (vI ((-1))), some (vI r2), some (vI 0)]) (st' := []) (L' := LG z4 f4) 4 (b38_15 call x1 x2 r1 r2 o5 _) ?_
          exact H
        · have H := H.2 (cI2f q4 rfl rfl)
          refine rc_b (i' := 59) (ls' := [some (vR 1), some (vI x1), some (vI x2), some (vI 0), some (vI r2), o5]) (st' := []) (L' := LG z4 f4) 3 (b38_16 call x1 x2 r1 r2 o5 _) ?_
          exact H
      · have H := H.2 (cI0f q3)
        refine rc_b (i' := 59) (ls' := [some (vR 1), some (vI x1), some (vI x2), some (vI ((-1))), some (vI r2), o5]) (st' := []) (L' := LG z4 f4) 3 (b38_17 call x1 x2 r1 r2 o5 _) ?_
        exact H
    · have H := H.2 (cI0f q2)
      refine rc_b (i' := 59) (ls' := [some (vR 1), some (vI x1), some (vI x2), some (vI 1), some (vI r2), o5]) (st' := []) (L' := LG z3 f3) 3 (b38_18 call x1 x2 r1 r2 o5 _) ?_
      exact H
  · have H := H.2 (cI0f q1)
    refine rc_b (i' := 8) (ls' := [some (vR 1), some (vI x1), some (vI x2), some (vI r1), o4, o5]) (st' := [vI r1]) (L' := LG z1 f1) 1 (b38_19 call x1 x2 r1 o4 o5 _) ?_
    subst H
    exact rc_ret (b38_20 call _ _ _)
set_option maxRecDepth 100000 in
theorem bc38_38_1 (call : QC FA) (x1 : Int32) (x2 : Int32) (x3 : Int32) (o4 : Option PV) (x5 : Int32) (L : QH FA) (F : Nat) : rnG call 38 (F + 2) 38 [some (vR 1), some (vI x1), some (vI x2), some (vI x3), o4, some (vI x5)] [] L = rnG call 38 F 40 [some (vR 1), some (vI x1), some (vI x2), some (vI x3), o4, some (vI x5)] [vI 9, vI x5] L := rfl
set_option maxRecDepth 100000 in
theorem bc38_38_2 (call : QC FA) (x y : Int32) (ls : List (Option PV)) (L : QH FA) (F : Nat) : rnG call 38 (F + 1) 40 ls [vI y, vI x] L = bif pcmp 3 x y then rnG call 38 F 59 ls [] L else rnG call 38 F 41 ls [] L := rfl
set_option maxRecDepth 100000 in
theorem bc38_38_3 (call : QC FA) (x1 : Int32) (x2 : Int32) (x3 : Int32) (o4 : Option PV) (x5 : Int32) (L : QH FA) (F : Nat) : rnG call 38 (F + 2) 41 [some (vR 1), some (vI x1), some (vI x2), some (vI x3), o4, some (vI x5)] [] L = rnG call 38 F 43 [some (vR 1), some (vI x1), some (vI x2), some (vI x3), o4, some (vI x5)] [vI 1, vI x3] L := rfl
set_option maxRecDepth 100000 in
theorem bc38_38_4 (call : QC FA) (x y : Int32) (ls : List (Option PV)) (L : QH FA) (F : Nat) : rnG call 38 (F + 1) 43 ls [vI y, vI x] L = bif pcmp 3 x y then rnG call 38 F 59 ls [] L else rnG call 38 F 44 ls [] L := rfl
set_option maxRecDepth 100000 in
theorem bc38_38_5 (call : QC FA) (x1 : Int32) (x2 : Int32) (x3 : Int32) (o4 : Option PV) (x5 : Int32) (z : Nat → Int32) (f : Nat → FA) (F : Nat) : rnG call 38 (F + 3) 44 [some (vR 1), some (vI x1), some (vI x2), some (vI x3), o4, some (vI x5)] [] (LG z f) = rnG call 38 F 47 [some (vR 1), some (vI x1), some (vI x2), some (vI x3), o4, some (vI x5)] [vI x5, vR 3] (LG z f) := rfl
set_option maxRecDepth 100000 in
theorem bc38_38_6 (call : QC FA) (x : Int32) (ls : List (Option PV)) (z : Nat → Int32) (f : Nat → FA) (F : Nat) : rnG call 38 (F + 1) 47 ls [vI x, vR 3] (LG z f) = bif (Nat.beq 0 0 && pin x 9) then rnG call 38 F 48 ls [vI (f 3 (ix x))] (LG z f) else none := rfl
set_option maxRecDepth 100000 in
theorem bc38_38_7 (call : QC FA) (x : Int32) (ls : List (Option PV)) (L : QH FA) (F : Nat) : rnG call 38 (F + 1) 48 ls [vI x] L = bif pcmp 1 x 0 then rnG call 38 F 57 ls [] L else rnG call 38 F 49 ls [] L := rfl
set_option maxRecDepth 100000 in
theorem bc38_38_8 (call : QC FA) (x1 : Int32) (x2 : Int32) (x3 : Int32) (o4 : Option PV) (x5 : Int32) (L : QH FA) (F : Nat) : rnG call 38 (F + 1) 57 [some (vR 1), some (vI x1), some (vI x2), some (vI x3), o4, some (vI x5)] [] L = rnG call 38 F 58 [some (vR 1), some (vI x1), some (vI x2), some (vI x3), o4, some (vI (x5 + 1))] [] L := rfl
set_option maxRecDepth 100000 in
theorem bc38_38_9 (call : QC FA) (x1 : Int32) (x2 : Int32) (x3 : Int32) (o4 : Option PV) (x5 : Int32) (L : QH FA) (F : Nat) : rnG call 38 (F + 1) 58 [some (vR 1), some (vI x1), some (vI x2), some (vI x3), o4, some (vI x5)] [] L = rnG call 38 F 38 [some (vR 1), some (vI x1), some (vI x2), some (vI x3), o4, some (vI x5)] [] L := rfl
set_option maxRecDepth 100000 in
theorem bc38_38_10 (call : QC FA) (x1 : Int32) (x2 : Int32) (x3 : Int32) (o4 : Option PV) (x5 : Int32) (L : QH FA) (F : Nat) : rnG call 38 (F + 5) 49 [some (vR 1), some (vI x1), some (vI x2), some (vI x3), o4, some (vI x5)] [] L = rnG call 38 F 54 [some (vR 1), some (vI x1), some (vI x2), some (vI x3), o4, some (vI x5)] [vI x2, vI x1, vI x5, vR 1, vI x3] L := rfl
set_option maxRecDepth 100000 in
theorem bc38_38_11 (call : QC FA) (a0 : Int32) (a1 : Int32) (a2 : Int32) (s0 : Int32) (ls : List (Option PV)) (z : Nat → Int32) (f : Nat → FA) (F : Nat) : rnG call 38 (F + 1) 54 ls [vI a2, vI a1, vI a0, vR 1, vI s0] (LG z f) = cbd (call 41 [vR 1, vI a0, vI a1, vI a2] (LG z f)) (fun r L' => rnG call 38 F 55 ls (r.toList ++ [vI s0]) L') := pcY (ih := rnG call 38 F) (call := call) (a := 41) (b := 3) (v := 2) (t := 55) (x := 1) (ls := ls) (As := [vI a0, vI a1, vI a2]) (st' := [vI s0]) (L := LG z f) rfl rfl rfl
set_option maxRecDepth 100000 in
theorem bc38_38_12 (call : QC FA) (x y : Int32) (ls : List (Option PV)) (L : QH FA) (F : Nat) : rnG call 38 (F + 1) 55 ls [vI y, vI x] L = bif pcmp 2 x y then rnG call 38 F 56 ls [vI y] L else rnG call 38 F 56 ls [vI x] L := pmx (rnG call 38 F) 56 x y ls L
set_option maxRecDepth 100000 in
theorem bc38_38_13 (call : QC FA) (x1 : Int32) (x2 : Int32) (x3 : Int32) (o4 : Option PV) (x5 : Int32) (s0 : Int32) (L : QH FA) (F : Nat) : rnG call 38 (F + 1) 56 [some (vR 1), some (vI x1), some (vI x2), some (vI x3), o4, some (vI x5)] [vI s0] L = rnG call 38 F 57 [some (vR 1), some (vI x1), some (vI x2), some (vI s0), o4, some (vI x5)] [] L := rfl
theorem vcc38_38_38 (call : QC FA) (x1 : Int32) (x2 : Int32) (x3 : Int32) (o4 : Option PV) (x5 : Int32) (z : Nat → Int32) (f : Nat → FA) (res : Option PV × QH FA) (H : ((9 ≤ I x5 → RC call (mP 38) 59 [some (vR 1), some (vI x1), some (vI x2), some (vI x3), o4, some (vI x5)] [] (LG z f) res) ∧ (I x5 < 9 → ((1 ≤ I x3 → RC call (mP 38) 59 [some (vR 1), some (vI x1), some (vI x2), some (vI x3), o4, some (vI x5)] [] (LG z f) res) ∧ (I x3 < 1 → (pin x5 9 = true ∧ ((¬ f 3 (ix x5) = 0 → RC call (mP 38) 38 [some (vR 1), some (vI x1), some (vI x2), some (vI x3), o4, some (vI (x5 + 1))] [] (LG z f) res) ∧ (f 3 (ix x5) = 0 → (∃ (r1 : Int32) (z1 : Nat → Int32) (f1 : Nat → FA), call 41 [vR 1, vI x5, vI x1, vI x2] (LG z f) = some (some (vI r1), LG z1 f1) ∧ ((I x3 < I r1 → RC call (mP 38) 38 [some (vR 1), some (vI x1), some (vI x2), some (vI r1), o4, some (vI (x5 + 1))] [] (LG z1 f1) res) ∧ (I r1 ≤ I x3 → RC call (mP 38) 38 [some (vR 1), some (vI x1), some (vI x2), some (vI x3), o4, some (vI (x5 + 1))] [] (LG z1 f1) res))))))))))) : RC call (mP 38) 38 [some (vR 1), some (vI x1), some (vI x2), some (vI x3), o4, some (vI x5)] [] (LG z f) res := by
  refine rc_b (i' := 40) (ls' := [some (vR 1), some (vI x1), some (vI x2), some (vI x3), o4, some (vI x5)]) (st' := [vI 9, vI x5]) (L' := LG z f) 2 (bc38_38_1 call x1 x2 x3 o4 x5 _) ?_
  refine rc_if (it := 59) (ie := 41) (ls' := [some (vR 1), some (vI x1), some (vI x2), some (vI x3), o4, some (vI x5)]) (st' := []) (bc38_38_2 call x5 9 _ _) (fun q1 => ?_) (fun q1 => ?_)
  · have H := H.1 (cI3t q1 rfl rfl)
    exact H
  · have H := H.2 (cI3f q1 rfl rfl)
    refine rc_b (i' := 43) (ls' := [some (vR 1), some (vI x1), some (vI x2), some (vI x3), o4, some (vI x5)]) (st' := [vI 1, vI x3]) (L' := LG z f) 2 (bc38_38_3 call x1 x2 x3 o4 x5 _) ?_
    refine rc_if (it := 59) (ie := 44) (ls' := [some (vR 1), some (vI x1), some (vI x2), some (vI x3), o4, some (vI x5)]) (st' := []) (bc38_38_4 call x3 1 _ _) (fun q2 => ?_) (fun q2 => ?_)
    · have H := H.1 (cI3t q2 rfl rfl)
      exact H
    · have H := H.2 (cI3f q2 rfl rfl)
      refine rc_b (i' := 47) (ls' := [some (vR 1), some (vI x1), some (vI x2), some (vI x3), o4, some (vI x5)]) (st' := [vI x5, vR 3]) (L' := LG z f) 3 (bc38_38_5 call x1 x2 x3 o4 x5 z f) ?_
      obtain ⟨g1, H⟩ := H
      refine rc_g (i' := 48) (ls' := [some (vR 1), some (vI x1), some (vI x2), some (vI x3), o4, some (vI x5)]) (st' := [vI (f 3 (ix x5))]) (L' := LG z f) (bc38_38_6 call x5 _ z f) (pinG g1) ?_
      refine rc_if (it := 57) (ie := 49) (ls' := [some (vR 1), some (vI x1), some (vI x2), some (vI x3), o4, some (vI x5)]) (st' := []) (bc38_38_7 call (f 3 (ix x5)) _ _) (fun q3 => ?_) (fun q3 => ?_)
      · have H := H.1 (cI1t q3)
        refine rc_b (i' := 58) (ls' := [some (vR 1), some (vI x1), some (vI x2), some (vI x3), o4, some (vI (x5 + 1))]) (st' := []) (L' := LG z f) 1 (bc38_38_8 call x1 x2 x3 o4 x5 _) ?_
        refine rc_b (i' := 38) (ls' := [some (vR 1), some (vI x1), some (vI x2), some (vI x3), o4, some (vI (x5 + 1))]) (st' := []) (L' := LG z f) 1 (bc38_38_9 call x1 x2 x3 o4 (x5 + 1) _) ?_
        exact H
      · have H := H.2 (cI1f q3)
        refine rc_b (i' := 54) (ls' := [some (vR 1), some (vI x1), some (vI x2), some (vI x3), o4, some (vI x5)]) (st' := [vI x2, vI x1, vI x5, vR 1, vI x3]) (L' := LG z f) 5 (bc38_38_10 call x1 x2 x3 o4 x5 _) ?_
        obtain ⟨r1, z1, f1, hc, H⟩ := H
        refine rc_call (t := 55) (ls' := [some (vR 1), some (vI x1), some (vI x2), some (vI x3), o4, some (vI x5)]) (st' := [vI x3]) (bc38_38_11 call x5 x1 x2 x3 _ z f) hc ?_
        show RC call (mP 38) 55 [some (vR 1), some (vI x1), some (vI x2), some (vI x3), o4, some (vI x5)] [vI r1, vI x3] (LG z1 f1) res
        refine rc_if2 (it := 56) (ie := 56) (ls' := [some (vR 1), some (vI x1), some (vI x2), some (vI x3), o4, some (vI x5)]) (st1 := [vI r1]) (st2 := [vI x3]) (bc38_38_12 call x3 r1 _ _) (fun q4 => ?_) (fun q4 => ?_)
        · have H := H.1 (cI2t q4 rfl rfl)
          refine rc_b (i' := 57) (ls' := [some (vR 1), some (vI x1), some (vI x2), some (vI r1), o4, some (vI x5)]) (st' := []) (L' := LG z1 f1) 1 (bc38_38_13 call x1 x2 x3 o4 x5 r1 _) ?_
          refine rc_b (i' := 58) (ls' := [some (vR 1), some (vI x1), some (vI x2), some (vI r1), o4, some (vI (x5 + 1))]) (st' := []) (L' := LG z1 f1) 1 (bc38_38_8 call x1 x2 r1 o4 x5 _) ?_
          refine rc_b (i' := 38) (ls' := [some (vR 1), some (vI x1), some (vI x2), some (vI r1), o4, some (vI (x5 + 1))]) (st' := []) (L' := LG z1 f1) 1 (bc38_38_9 call x1 x2 r1 o4 (x5 + 1) _) ?_
          exact H
        · have H := H.2 (cI2f q4 rfl rfl)
          refine rc_b (i' := 57) (ls' := [some (vR 1), some (vI x1), some (vI x2), some (vI x3), o4, some (vI x5)]) (st' := []) (L' := LG z1 f1) 1 (bc38_38_13 call x1 x2 x3 o4 x5 x3 _) ?_
          refine rc_b (i' := 58) (ls' := [some (vR 1), some (vI x1), some (vI x2), some (vI x3), o4, some (vI (x5 + 1))]) (st' := []) (L' := LG z1 f1) 1 (bc38_38_8 call x1 x2 x3 o4 x5 _) ?_
          refine rc_b (i' := 38) (ls' := [some (vR 1), some (vI x1), some (vI x2), some (vI x3), o4, some (vI (x5 + 1))]) (st' := []) (L' := LG z1 f1) 1 (bc38_38_9 call x1 x2 x3 o4 (x5 + 1) _) ?_
          exact H
set_option maxRecDepth 100000 in
theorem bc59_38_1 (call : QC FA) (x1 : Int32) (o2 : Option PV) (x3 : Int32) (o4 : Option PV) (o5 : Option PV) (L : QH FA) (F : Nat) : rnG call 38 (F + 3) 59 [some (vR 1), some (vI x1), o2, some (vI x3), o4, o5] [] L = rnG call 38 F 62 [some (vR 1), some (vI x1), o2, some (vI x3), o4, o5] [vI x3, vI x1, vR 1] L := rfl
set_option maxRecDepth 100000 in
theorem bc59_38_2 (call : QC FA) (a0 : Int32) (a1 : Int32) (ls : List (Option PV)) (z : Nat → Int32) (f : Nat → FA) (F : Nat) : rnG call 38 (F + 1) 62 ls [vI a1, vI a0, vR 1] (LG z f) = cbd (call 42 [vR 1, vI a0, vI a1] (LG z f)) (fun r L' => rnG call 38 F 63 ls (r.toList ++ []) L') := pcY (ih := rnG call 38 F) (call := call) (a := 42) (b := 2) (v := 2) (t := 63) (x := 1) (ls := ls) (As := [vI a0, vI a1]) (st' := []) (L := LG z f) rfl rfl rfl
set_option maxRecDepth 100000 in
theorem bc59_38_3 (call : QC FA) (x1 : Int32) (o2 : Option PV) (x3 : Int32) (o4 : Option PV) (o5 : Option PV) (L : QH FA) (F : Nat) : rnG call 38 (F + 1) 63 [some (vR 1), some (vI x1), o2, some (vI x3), o4, o5] [] L = rnG call 38 F 64 [some (vR 1), some (vI x1), o2, some (vI x3), o4, o5] [vI x3] L := rfl
set_option maxRecDepth 100000 in
theorem bc59_38_4 (call : QC FA) (x : Int32) (ls : List (Option PV)) (L : QH FA) (F : Nat) : rnG call 38 (F + 1) 64 ls [vI x] L = some (some (vI x), L) := rfl
theorem vcc59_38_59 (call : QC FA) (x1 : Int32) (o2 : Option PV) (x3 : Int32) (o4 : Option PV) (o5 : Option PV) (z : Nat → Int32) (f : Nat → FA) (res : Option PV × QH FA) (H : (∃ (z1 : Nat → Int32) (f1 : Nat → FA), call 42 [vR 1, vI x1, vI x3] (LG z f) = some (none, LG z1 f1) ∧ res = (some (vI x3), LG z1 f1))) : RC call (mP 38) 59 [some (vR 1), some (vI x1), o2, some (vI x3), o4, o5] [] (LG z f) res := by
  refine rc_b (i' := 62) (ls' := [some (vR 1), some (vI x1), o2, some (vI x3), o4, o5]) (st' := [vI x3, vI x1, vR 1]) (L' := LG z f) 3 (bc59_38_1 call x1 o2 x3 o4 o5 _) ?_
  obtain ⟨z1, f1, hc, H⟩ := H
  refine rc_call (t := 63) (ls' := [some (vR 1), some (vI x1), o2, some (vI x3), o4, o5]) (st' := []) (bc59_38_2 call x1 x3 _ z f) hc ?_
  show RC call (mP 38) 63 [some (vR 1), some (vI x1), o2, some (vI x3), o4, o5] [] (LG z1 f1) res
  refine rc_b (i' := 64) (ls' := [some (vR 1), some (vI x1), o2, some (vI x3), o4, o5]) (st' := [vI x3]) (L' := LG z1 f1) 1 (bc59_38_3 call x1 o2 x3 o4 o5 _) ?_
  subst H
  exact rc_ret (bc59_38_4 call _ _ _)
set_option maxRecDepth 100000 in
theorem b41_1 (call : QC FA) (x1 : Int32) (x2 : Int32) (x3 : Int32) (o4 : Option PV) (o5 : Option PV) (L : QH FA) (F : Nat) : rnG call 41 (F + 1) 0 [some (vR 1), some (vI x1), some (vI x2), some (vI x3), o4, o5] [] L = rnG call 41 F 1 [some (vR 1), some (vI x1), some (vI x2), some (vI x3), o4, o5] [vI x1] L := rfl
set_option maxRecDepth 100000 in
theorem b41_2 (call : QC FA) (x : Int32) (ls : List (Option PV)) (L : QH FA) (F : Nat) : rnG call 41 (F + 1) 1 ls [vI x] L = bif pcmp 2 x 0 then rnG call 41 F 8 ls [] L else rnG call 41 F 2 ls [] L := rfl
set_option maxRecDepth 100000 in
theorem b41_3 (call : QC FA) (x1 : Int32) (x2 : Int32) (x3 : Int32) (o4 : Option PV) (o5 : Option PV) (L : QH FA) (F : Nat) : rnG call 41 (F + 1) 8 [some (vR 1), some (vI x1), some (vI x2), some (vI x3), o4, o5] [] L = rnG call 41 F 9 [some (vR 1), some (vI x1), some (vI x2), some (vI x3), o4, o5] [vI 0] L := rfl
set_option maxRecDepth 100000 in
theorem b41_4 (call : QC FA) (x : Int32) (ls : List (Option PV)) (L : QH FA) (F : Nat) : rnG call 41 (F + 1) 9 ls [vI x] L = some (some (vI x), L) := rfl
set_option maxRecDepth 100000 in
theorem b41_5 (call : QC FA) (x1 : Int32) (x2 : Int32) (x3 : Int32) (o4 : Option PV) (o5 : Option PV) (L : QH FA) (F : Nat) : rnG call 41 (F + 2) 2 [some (vR 1), some (vI x1), some (vI x2), some (vI x3), o4, o5] [] L = rnG call 41 F 4 [some (vR 1), some (vI x1), some (vI x2), some (vI x3), o4, o5] [vI 9, vI x1] L := rfl
set_option maxRecDepth 100000 in
theorem b41_6 (call : QC FA) (x y : Int32) (ls : List (Option PV)) (L : QH FA) (F : Nat) : rnG call 41 (F + 1) 4 ls [vI y, vI x] L = bif pcmp 3 x y then rnG call 41 F 8 ls [] L else rnG call 41 F 5 ls [] L := rfl
set_option maxRecDepth 100000 in
theorem b41_7 (call : QC FA) (x1 : Int32) (x2 : Int32) (x3 : Int32) (o4 : Option PV) (o5 : Option PV) (L : QH FA) (F : Nat) : rnG call 41 (F + 2) 5 [some (vR 1), some (vI x1), some (vI x2), some (vI x3), o4, o5] [] L = rnG call 41 F 7 [some (vR 1), some (vI x1), some (vI x2), some (vI x3), o4, o5] [vI 9, vI x3] L := rfl
set_option maxRecDepth 100000 in
theorem b41_8 (call : QC FA) (x y : Int32) (ls : List (Option PV)) (L : QH FA) (F : Nat) : rnG call 41 (F + 1) 7 ls [vI y, vI x] L = bif pcmp 2 x y then rnG call 41 F 10 ls [] L else rnG call 41 F 8 ls [] L := rfl
set_option maxRecDepth 100000 in
theorem b41_9 (call : QC FA) (x1 : Int32) (x2 : Int32) (x3 : Int32) (o4 : Option PV) (o5 : Option PV) (L : QH FA) (F : Nat) : rnG call 41 (F + 1) 10 [some (vR 1), some (vI x1), some (vI x2), some (vI x3), o4, o5] [] L = rnG call 41 F 11 [some (vR 1), some (vI x1), some (vI x2), some (vI x3), o4, o5] [vI x3] L := rfl
set_option maxRecDepth 100000 in
theorem b41_10 (call : QC FA) (a0 : Int32) (ls : List (Option PV)) (z : Nat → Int32) (f : Nat → FA) (F : Nat) : rnG call 41 (F + 1) 11 ls [vI a0] (LG z f) = cbd (call 40 [vI a0] (LG z f)) (fun r L' => rnG call 41 F 12 ls (r.toList ++ []) L') := pcZ (ih := rnG call 41 F) (call := call) (a := 40) (b := 1) (t := 12) (ls := ls) (As := [vI a0]) (st' := []) (L := LG z f) rfl rfl
set_option maxRecDepth 100000 in
theorem b41_11 (call : QC FA) (x1 : Int32) (x2 : Int32) (x3 : Int32) (o4 : Option PV) (o5 : Option PV) (s0 : Int32) (z : Nat → Int32) (f : Nat → FA) (F : Nat) : rnG call 41 (F + 5) 12 [some (vR 1), some (vI x1), some (vI x2), some (vI x3), o4, o5] [vI s0] (LG z f) = rnG call 41 F 17 [some (vR 1), some (vI x1), some (vI x2), some (vI x3), some (vI s0), o5] [vI s0, vI x1, vR 3] (LG z f) := rfl
set_option maxRecDepth 100000 in
theorem b41_12 (call : QC FA) (x y : Int32) (ls : List (Option PV)) (z : Nat → Int32) (f : Nat → FA) (F : Nat) : rnG call 41 (F + 1) 17 ls [vI y, vI x, vR 3] (LG z f) = bif (Nat.beq 0 0 && pin x 9) then rnG call 41 F 18 ls [] (LG z (uA f 3 (upd (f 3) (ix x) y))) else none := rfl
set_option maxRecDepth 100000 in
theorem b41_13 (call : QC FA) (x1 : Int32) (x2 : Int32) (x3 : Int32) (x4 : Int32) (o5 : Option PV) (L : QH FA) (F : Nat) : rnG call 41 (F + 5) 18 [some (vR 1), some (vI x1), some (vI x2), some (vI x3), some (vI x4), o5] [] L = rnG call 41 F 23 [some (vR 1), some (vI x1), some (vI x2), some (vI x3), some (vI x4), o5] [vI x1, vS 1, vI x4, vI x2, vR 1] L := rfl
set_option maxRecDepth 100000 in
theorem b41_14 (call : QC FA) (x : Int32) (s0 : Int32) (s1 : Int32) (ls : List (Option PV)) (L : QH FA) (F : Nat) : rnG call 41 (F + 1) 23 ls [vI x, vS 1, vI s0, vI s1, vR 1] L = bif (Nat.blt 1 3 && pin x (sN 1)) then rnG call 41 F 24 ls [vI (sF 1 (ix x)), vI s0, vI s1, vR 1] L else none := rfl
set_option maxRecDepth 100000 in
theorem b41_15 (call : QC FA) (x1 : Int32) (x2 : Int32) (x3 : Int32) (x4 : Int32) (o5 : Option PV) (s0 : Int32) (s1 : Int32) (s2 : Int32) (L : QH FA) (F : Nat) : rnG call 41 (F + 5) 24 [some (vR 1), some (vI x1), some (vI x2), some (vI x3), some (vI x4), o5] [vI s0, vI s1, vI s2, vR 1] L = rnG call 41 F 29 [some (vR 1), some (vI x1), some (vI x2), some (vI x3), some (vI x4), o5] [vI (x3 + 1), vI (s2 + (s1 * s0)), vR 1] L := rfl
set_option maxRecDepth 100000 in
theorem b41_16 (call : QC FA) (a0 : Int32) (a1 : Int32) (ls : List (Option PV)) (z : Nat → Int32) (f : Nat → FA) (F : Nat) : rnG call 41 (F + 1) 29 ls [vI a1, vI a0, vR 1] (LG z f) = cbd (call 38 [vR 1, vI a0, vI a1] (LG z f)) (fun r L' => rnG call 41 F 30 ls (r.toList ++ []) L') := pcY (ih := rnG call 41 F) (call := call) (a := 38) (b := 2) (v := 2) (t := 30) (x := 1) (ls := ls) (As := [vI a0, vI a1]) (st' := []) (L := LG z f) rfl rfl rfl
set_option maxRecDepth 100000 in
theorem b41_17 (call : QC FA) (x1 : Int32) (x2 : Int32) (x3 : Int32) (x4 : Int32) (o5 : Option PV) (s0 : Int32) (z : Nat → Int32) (f : Nat → FA) (F : Nat) : rnG call 41 (F + 6) 30 [some (vR 1), some (vI x1), some (vI x2), some (vI x3), some (vI x4), o5] [vI s0] (LG z f) = rnG call 41 F 36 [some (vR 1), some (vI x1), some (vI x2), some (vI x3), some (vI x4), some (vI (-s0))] [vI 0, vI x1, vR 3] (LG z f) := rfl
set_option maxRecDepth 100000 in
theorem b41_18 (call : QC FA) (x y : Int32) (ls : List (Option PV)) (z : Nat → Int32) (f : Nat → FA) (F : Nat) : rnG call 41 (F + 1) 36 ls [vI y, vI x, vR 3] (LG z f) = bif (Nat.beq 0 0 && pin x 9) then rnG call 41 F 37 ls [] (LG z (uA f 3 (upd (f 3) (ix x) y))) else none := rfl
set_option maxRecDepth 100000 in
theorem b41_19 (call : QC FA) (x1 : Int32) (x2 : Int32) (x3 : Int32) (x4 : Int32) (x5 : Int32) (L : QH FA) (F : Nat) : rnG call 41 (F + 1) 37 [some (vR 1), some (vI x1), some (vI x2), some (vI x3), some (vI x4), some (vI x5)] [] L = rnG call 41 F 38 [some (vR 1), some (vI x1), some (vI x2), some (vI x3), some (vI x4), some (vI x5)] [vI x5] L := rfl
set_option maxRecDepth 100000 in
theorem b41_20 (call : QC FA) (x : Int32) (ls : List (Option PV)) (L : QH FA) (F : Nat) : rnG call 41 (F + 1) 38 ls [vI x] L = some (some (vI x), L) := rfl
theorem vc41_0 (call : QC FA) (x1 : Int32) (x2 : Int32) (x3 : Int32) (o4 : Option PV) (o5 : Option PV) (z : Nat → Int32) (f : Nat → FA) (res : Option PV × QH FA) (H : ((I x1 < 0 → res = (some (vI 0), LG z f)) ∧ (0 ≤ I x1 → ((9 ≤ I x1 → res = (some (vI 0), LG z f)) ∧ (I x1 < 9 → ((I x3 < 9 → (∃ (r1 : Int32) (z1 : Nat → Int32) (f1 : Nat → FA), call 40 [vI x3] (LG z f) = some (some (vI r1), LG z1 f1) ∧ (pin x1 9 = true ∧ (pin x1 9 = true ∧ (∃ (r2 : Int32) (z2 : Nat → Int32) (f2 : Nat → FA), call 38 [vR 1, vI (x2 + (r1 * (sF 1 (ix x1)))), vI (x3 + 1)] (LG z1 (uA f1 3 (upd (f1 3) (ix x1) r1))) = some (some (vI r2), LG z2 f2) ∧ (pin x1 9 = true ∧ res = (some (vI (-r2)), LG z2 (uA f2 3 (upd (f2 3) (ix x1) 0))))))))) ∧ (9 ≤ I x3 → res = (some (vI 0), LG z f)))))))) : RC call (mP 41) 0 [some (vR 1), some (vI x1), some (vI x2), some (vI x3), o4, o5] [] (LG z f) res := by
  refine rc_b (i' := 1) (ls' := [some (vR 1), some (vI x1), some (vI x2), some (vI x3), o4, o5]) (st' := [vI x1]) (L' := LG z f) 1 (b41_1 call x1 x2 x3 o4 o5 _) ?_
  refine rc_if (it := 8) (ie := 2) (ls' := [some (vR 1), some (vI x1), some (vI x2), some (vI x3), o4, o5]) (st' := []) (b41_2 call x1 _ _) (fun q1 => ?_) (fun q1 => ?_)
  · have H := H.1 (cI2t q1 rfl rfl)
    refine rc_b (i' := 9) (ls' := [some (vR 1), some (vI x1), some (vI x2), some (vI x3), o4, o5]) (st' := [vI 0]) (L' := LG z f) 1 (b41_3 call x1 x2 x3 o4 o5 _) ?_
    subst H
    exact rc_ret (b41_4 call _ _ _)
  · have H := H.2 (cI2f q1 rfl rfl)
    refine rc_b (i' := 4) (ls' := [some (vR 1), some (vI x1), some (vI x2), some (vI x3), o4, o5]) (st' := [vI 9, vI x1]) (L' := LG z f) 2 (b41_5 call x1 x2 x3 o4 o5 _) ?_
    refine rc_if (it := 8) (ie := 5) (ls' := [some (vR 1), some (vI x1), some (vI x2), some (vI x3), o4, o5]) (st' := []) (b41_6 call x1 9 _ _) (fun q2 => ?_) (fun q2 => ?_)
    · have H := H.1 (cI3t q2 rfl rfl)
      refine rc_b (i' := 9) (ls' := [some (vR 1), some (vI x1), some (vI x2), some (vI x3), o4, o5]) (st' := [vI 0]) (L' := LG z f) 1 (b41_3 call x1 x2 x3 o4 o5 _) ?_
      subst H
      exact rc_ret (b41_4 call _ _ _)
    · have H := H.2 (cI3f q2 rfl rfl)
      refine rc_b (i' := 7) (ls' := [some (vR 1), some (vI x1), some (vI x2), some (vI x3), o4, o5]) (st' := [vI 9, vI x3]) (L' := LG z f) 2 (b41_7 call x1 x2 x3 o4 o5 _) ?_
      refine rc_if (it := 10) (ie := 8) (ls' := [some (vR 1), some (vI x1), some (vI x2), some (vI x3), o4, o5]) (st' := []) (b41_8 call x3 9 _ _) (fun q3 => ?_) (fun q3 => ?_)
      · have H := H.1 (cI2t q3 rfl rfl)
        refine rc_b (i' := 11) (ls' := [some (vR 1), some (vI x1), some (vI x2), some (vI x3), o4, o5]) (st' := [vI x3]) (L' := LG z f) 1 (b41_9 call x1 x2 x3 o4 o5 _) ?_
        obtain ⟨r1, z1, f1, hc, H⟩ := H
        refine rc_call (t := 12) (ls' := [some (vR 1), some (vI x1), some (vI x2), some (vI x3), o4, o5]) (st' := []) (b41_10 call x3 _ z f) hc ?_
        show RC call (mP 41) 12 [some (vR 1), some (vI x1), some (vI x2), some (vI x3), o4, o5] [vI r1] (LG z1 f1) res
        refine rc_b (i' := 17) (ls' := [some (vR 1), some (vI x1), some (vI x2), some (vI x3), some (vI r1), o5]) (st' := [vI r1, vI x1, vR 3]) (L' := LG z1 f1) 5 (b41_11 call x1 x2 x3 o4 o5 r1 z1 f1) ?_
        obtain ⟨g1, H⟩ := H
        refine rc_g (i' := 18) (ls' := [some (vR 1), some (vI x1), some (vI x2), some (vI x3), some (vI r1), o5]) (st' := []) (L' := LG z1 (uA f1 3 (upd (f1 3) (ix x1) r1))) (b41_12 call x1 r1 _ z1 f1) (pinG g1) ?_
        refine rc_b (i' := 23) (ls' := [some (vR 1), some (vI x1), some (vI x2), some (vI x3), some (vI r1), o5]) (st' := [vI x1, vS 1, vI r1, vI x2, vR 1]) (L' := LG z1 (uA f1 3 (upd (f1 3) (ix x1) r1))) 5 (b41_13 call x1 x2 x3 r1 o5 _) ?_
        obtain ⟨g1, H⟩ := H
        refine rc_g (i' := 24) (ls' := [some (vR 1), some (vI x1), some (vI x2), some (vI x3), some (vI r1), o5]) (st' := [vI (sF 1 (ix x1)), vI r1, vI x2, vR 1]) (L' := LG z1 (uA f1 3 (upd (f1 3) (ix x1) r1))) (b41_14 call x1 r1 x2 _ _) (show (Nat.blt 1 3 && pin x1 (sN 1)) = true from g1) ?_
        refine rc_b (i' := 29) (ls' := [some (vR 1), some (vI x1), some (vI x2), some (vI x3), some (vI r1), o5]) (st' := [vI (x3 + 1), vI (x2 + (r1 * (sF 1 (ix x1)))), vR 1]) (L' := LG z1 (uA f1 3 (upd (f1 3) (ix x1) r1))) 5 (b41_15 call x1 x2 x3 r1 o5 (sF 1 (ix x1)) r1 x2 _) ?_
        obtain ⟨r2, z2, f2, hc, H⟩ := H
        refine rc_call (t := 30) (ls' := [some (vR 1), some (vI x1), some (vI x2), some (vI x3), some (vI r1), o5]) (st' := []) (b41_16 call (x2 + (r1 * (sF 1 (ix x1)))) (x3 + 1) _ z1 (uA f1 3 (upd (f1 3) (ix x1) r1))) hc ?_
        show RC call (mP 41) 30 [some (vR 1), some (vI x1), some (vI x2), some (vI x3), some (vI r1), o5] [vI r2] (LG z2 f2) res
        refine rc_b (i' := 36) (ls' := [some (vR 1), some (vI x1), some (vI x2), some (vI x3), some (vI r1), some (vI (-r2))]) (st' := [vI 0, vI x1, vR 3]) (L' := LG z2 f2) 6 (b41_17 call x1 x2 x3 r1 o5 r2 z2 f2) ?_
        obtain ⟨g1, H⟩ := H
        refine rc_g (i' := 37) (ls' := [some (vR 1), some (vI x1), some (vI x2), some (vI x3), some (vI r1), some (vI (-r2))]) (st' := []) (L' := LG z2 (uA f2 3 (upd (f2 3) (ix x1) 0))) (b41_18 call x1 0 _ z2 f2) (pinG g1) ?_
        refine rc_b (i' := 38) (ls' := [some (vR 1), some (vI x1), some (vI x2), some (vI x3), some (vI r1), some (vI (-r2))]) (st' := [vI (-r2)]) (L' := LG z2 (uA f2 3 (upd (f2 3) (ix x1) 0))) 1 (b41_19 call x1 x2 x3 r1 (-r2) _) ?_
        subst H
        exact rc_ret (b41_20 call _ _ _)
      · have H := H.2 (cI2f q3 rfl rfl)
        refine rc_b (i' := 9) (ls' := [some (vR 1), some (vI x1), some (vI x2), some (vI x3), o4, o5]) (st' := [vI 0]) (L' := LG z f) 1 (b41_3 call x1 x2 x3 o4 o5 _) ?_
        subst H
        exact rc_ret (b41_4 call _ _ _)
/-- a value, where at most m more moves can be done -/
def VRc (d m : Nat) : Prop := ∀ n, 9 ≤ n + m → n ≤ 18 → ∀ (code : Int32) z f, ∃ r f', mcall d 38 [vR 1, vI code, vI (nI n)] (LG z f) = some (some (vI r), LG z f')
def VMc (d m : Nat) : Prop := ∀ n, 9 ≤ n + m → n ≤ 18 → ∀ (x code : Int32) z f, ∃ r f', mcall d 41 [vR 1, vI x, vI code, vI (nI n)] (LG z f) = some (some (vI r), LG z f')
theorem c_move0 (d0 m : Nat) (h : ∀ n, 9 ≤ n + m → n < 9 → VRc d0 (m - 1)) : VMc (d0 + 1) m := by
  intro n hn h18 x code z f
  have go : ∀ res, _ → mcall (d0 + 1) 41 [vR 1, vI x, vI code, vI (nI n)] (LG z f) = some res := fun res H => mcall_i (mq41 (cu := [])).2.2 rfl (vc41_0 (mcall d0) x code (nI n) none none z f res H)
  have i1 := I_nI (n := n) (by omega)
  by_cases c1 : I x < 0
  · exact ⟨0, f, go _ ⟨fun _ => rfl, fun q => by omega⟩⟩
  · by_cases c2 : 9 ≤ I x
    · exact ⟨0, f, go _ ⟨fun q => absurd q c1, fun _ => ⟨fun _ => rfl, fun q => by omega⟩⟩⟩
    · by_cases c3 : 9 ≤ n
      · exact ⟨0, f, go _ ⟨fun q => absurd q c1, fun _ => ⟨fun q => absurd q c2, fun _ => ⟨fun q => by omega, fun _ => rfl⟩⟩⟩⟩
      · obtain ⟨c, e1, e2, e3⟩ := nI_ofI (x := x) (by omega)
        have p : pin x 9 = true := by rw [e1]; exact pin_nI (by omega) (by omega)
        have hV := h n hn (by omega)
        cases d0 with
        | zero =>
          obtain ⟨r, f', hr⟩ := hV (n + 1) (by omega) (by omega) code z f
          cases hr
        | succ d1 =>
          obtain ⟨w, hw⟩ := c_who d1 (nI n) z f
          obtain ⟨r, f', hr⟩ := hV (n + 1) (by omega) (by omega) (code + w * sF 1 (ix x)) z (uA f 3 (upd (f 3) (ix x) w))
          refine ⟨-r, _, go _ ⟨fun q => absurd q c1, fun _ => ⟨fun q => absurd q c2, fun _ => ⟨fun _ => ⟨w, z, f, hw, p, p, r, z, f', ?_, p, rfl⟩, fun q => by omega⟩⟩⟩⟩
          rw [show nI n + 1 = nI (n + 1) from nI_add n 1]
          exact hr
theorem c_v59 (d0 : Nat) (x y : Int32) (o2 o4 o5 : Option PV) (z : Nat → Int32) (f : Nat → FA) : ∃ f', RC (mcall (d0 + 1)) (mP 38) 59 [some (vR 1), some (vI x), o2, some (vI y), o4, o5] [] (LG z f) (some (vI y), LG z f') := by
  obtain ⟨f', hf⟩ := c_keep d0 x y z f
  exact ⟨f', vcc59_38_59 _ _ _ _ _ _ _ _ _ ⟨z, f', hf, rfl⟩⟩
theorem c_v38 (d0 n : Nat) (hn : n ≤ 18) (code : Int32) (o4 : Option PV) (hM : ∀ (x : Int32) z f, ∃ r f', mcall (d0 + 1) 41 [vR 1, vI x, vI code, vI (nI n)] (LG z f) = some (some (vI r), LG z f')) : ∀ t k, k + t = 9 → ∀ (v : Int32) z f, ∃ r f', RC (mcall (d0 + 1)) (mP 38) 38 [some (vR 1), some (vI code), some (vI (nI n)), some (vI v), o4, some (vI (nI k))] [] (LG z f) (some (vI r), LG z f') := by
  intro t
  induction t with
  | zero =>
    intro k hk v z f
    obtain rfl : k = 9 := by omega
    obtain ⟨f', hf⟩ := c_v59 d0 code v (some (vI (nI n))) o4 (some (vI (nI 9))) z f
    exact ⟨v, f', vcc38_38_38 _ _ _ _ _ _ _ _ _ ⟨fun _ => hf, fun q => absurd q (by decide)⟩⟩
  | succ t ih =>
    intro k hk v z f
    have go : ∀ res, _ → RC (mcall (d0 + 1)) (mP 38) 38 [some (vR 1), some (vI code), some (vI (nI n)), some (vI v), o4, some (vI (nI k))] [] (LG z f) res := fun res H => vcc38_38_38 (mcall (d0 + 1)) code (nI n) v o4 (nI k) z f res H
    rw [I_nI (n := k) (by omega), show nI k + 1 = nI (k + 1) from nI_add k 1] at go
    by_cases c1 : 1 ≤ I v
    · obtain ⟨f', hf⟩ := c_v59 d0 code v (some (vI (nI n))) o4 (some (vI (nI k))) z f
      exact ⟨v, f', go _ ⟨fun q => by omega, fun _ => ⟨fun _ => hf, fun q => by omega⟩⟩⟩
    · by_cases c2 : f 3 (ix (nI k)) = 0
      · obtain ⟨r1, f1, h1⟩ := hM (nI k) z f
        by_cases c3 : I v < I r1
        · obtain ⟨r, f', hr⟩ := ih (k + 1) (by omega) r1 z f1
          exact ⟨r, f', go _ ⟨fun q => by omega, fun _ => ⟨fun q => absurd q c1, fun _ => ⟨pin_nI (by omega) (by omega), fun q => absurd c2 q, fun _ => ⟨r1, z, f1, h1, fun _ => hr, fun q => by omega⟩⟩⟩⟩⟩
        · obtain ⟨r, f', hr⟩ := ih (k + 1) (by omega) v z f1
          exact ⟨r, f', go _ ⟨fun q => by omega, fun _ => ⟨fun q => absurd q c1, fun _ => ⟨pin_nI (by omega) (by omega), fun q => absurd c2 q, fun _ => ⟨r1, z, f1, h1, fun q => absurd q c3, fun _ => hr⟩⟩⟩⟩⟩
      · obtain ⟨r, f', hr⟩ := ih (k + 1) (by omega) v z f
        exact ⟨r, f', go _ ⟨fun q => by omega, fun _ => ⟨fun q => absurd q c1, fun _ => ⟨pin_nI (by omega) (by omega), fun _ => hr, fun q => absurd q c2⟩⟩⟩⟩
theorem c_value (d0 m : Nat) (hM : VMc (d0 + 1) m) : VRc (d0 + 2) m := by
  intro n hn h18 code z f
  have go : ∀ res, _ → mcall (d0 + 2) 38 [vR 1, vI code, vI (nI n)] (LG z f) = some res := fun res H => mcall_i (mq38 (cu := [])).2.2 rfl (vc38_0 (mcall (d0 + 1)) code (nI n) none none none z f res H)
  have i1 := I_nI (n := n) (by omega)
  obtain ⟨r1, h1⟩ := c_recall d0 code z f
  by_cases c1 : r1 = -2
  · obtain ⟨w, h2⟩ := c_who d0 (nI n) z f
    obtain ⟨r3, h3⟩ := c_hasThree d0 w z f
    obtain ⟨r4, h4⟩ := c_hasThree d0 (3 - w) z f
    by_cases c3 : r3 = 0
    · by_cases c4 : r4 = 0
      · by_cases c5 : n < 9
        · obtain ⟨r, f', hr⟩ := c_v38 d0 n h18 code (some (vI w)) (fun x z f => hM n hn h18 x code z f) 9 0 (by omega) (-1) z f
          exact ⟨r, f', go _ ⟨r1, z, f, h1, fun _ => ⟨w, z, f, h2, r3, z, f, h3, fun _ => ⟨r4, z, f, h4, fun _ => ⟨fun _ => hr, fun q => by omega⟩, fun q => absurd c4 q⟩, fun q => absurd c3 q⟩, fun q => absurd c1 q⟩⟩
        · obtain ⟨f', hr⟩ := c_v59 d0 code 0 (some (vI (nI n))) (some (vI w)) none z f
          exact ⟨0, f', go _ ⟨r1, z, f, h1, fun _ => ⟨w, z, f, h2, r3, z, f, h3, fun _ => ⟨r4, z, f, h4, fun _ => ⟨fun q => by omega, fun _ => hr⟩, fun q => absurd c4 q⟩, fun q => absurd c3 q⟩, fun q => absurd c1 q⟩⟩
      · obtain ⟨f', hr⟩ := c_v59 d0 code (-1) (some (vI (nI n))) (some (vI w)) none z f
        exact ⟨-1, f', go _ ⟨r1, z, f, h1, fun _ => ⟨w, z, f, h2, r3, z, f, h3, fun _ => ⟨r4, z, f, h4, fun q => absurd q c4, fun _ => hr⟩, fun q => absurd c3 q⟩, fun q => absurd c1 q⟩⟩
    · obtain ⟨f', hr⟩ := c_v59 d0 code 1 (some (vI (nI n))) (some (vI w)) none z f
      exact ⟨1, f', go _ ⟨r1, z, f, h1, fun _ => ⟨w, z, f, h2, r3, z, f, h3, fun q => absurd q c3, fun _ => hr⟩, fun q => absurd c1 q⟩⟩
  · exact ⟨r1, f, go _ ⟨r1, z, f, h1, fun q => absurd q c1, fun _ => rfl⟩⟩
theorem c_all (d0 : Nat) : ∀ m, VMc (d0 + 1 + 2 * m) m ∧ VRc (d0 + 2 + 2 * m) m := by
  intro m
  induction m with
  | zero =>
    have h1 : VMc (d0 + 1) 0 := c_move0 d0 0 (fun n h1 h2 => by omega)
    exact ⟨h1, c_value d0 0 h1⟩
  | succ m ih =>
    have h1 : VMc (d0 + 2 + 2 * m + 1) (m + 1) := c_move0 (d0 + 2 + 2 * m) (m + 1) (fun n _ _ => by rw [Nat.add_sub_cancel]; exact ih.2)
    have e1 : d0 + 1 + 2 * (m + 1) = d0 + 2 + 2 * m + 1 := by omega
    have e2 : d0 + 2 + 2 * (m + 1) = d0 + 2 + 2 * m + 2 := by omega
    rw [e1, e2]
    exact ⟨h1, c_value (d0 + 2 + 2 * m) (m + 1) h1⟩
set_option maxRecDepth 100000 in
theorem b37_1 (call : QC FA) (z : Nat → Int32) (f : Nat → FA) (F : Nat) : rnG call 37 (F + 5) 0 [some (vR 1)] [] (LG z f) = rnG call 37 F 5 [some (vR 1)] [vI (z 2), vI (z 1), vR 1] (LG z f) := rfl
set_option maxRecDepth 100000 in
theorem b37_2 (call : QC FA) (a0 : Int32) (a1 : Int32) (ls : List (Option PV)) (z : Nat → Int32) (f : Nat → FA) (F : Nat) : rnG call 37 (F + 1) 5 ls [vI a1, vI a0, vR 1] (LG z f) = cbd (call 38 [vR 1, vI a0, vI a1] (LG z f)) (fun r L' => rnG call 37 F 6 ls (r.toList ++ []) L') := pcY (ih := rnG call 37 F) (call := call) (a := 38) (b := 2) (v := 2) (t := 6) (x := 1) (ls := ls) (As := [vI a0, vI a1]) (st' := []) (L := LG z f) rfl rfl rfl
set_option maxRecDepth 100000 in
theorem b37_3 (call : QC FA) (x : Int32) (ls : List (Option PV)) (L : QH FA) (F : Nat) : rnG call 37 (F + 1) 6 ls [vI x] L = some (some (vI x), L) := rfl
theorem vc37_0 (call : QC FA) (z : Nat → Int32) (f : Nat → FA) (res : Option PV × QH FA) (H : (∃ (r1 : Int32) (z1 : Nat → Int32) (f1 : Nat → FA), call 38 [vR 1, vI (z 1), vI (z 2)] (LG z f) = some (some (vI r1), LG z1 f1) ∧ res = (some (vI r1), LG z1 f1))) : RC call (mP 37) 0 [some (vR 1)] [] (LG z f) res := by
  refine rc_b (i' := 5) (ls' := [some (vR 1)]) (st' := [vI (z 2), vI (z 1), vR 1]) (L' := LG z f) 5 (b37_1 call z f) ?_
  obtain ⟨r1, z1, f1, hc, H⟩ := H
  refine rc_call (t := 6) (ls' := [some (vR 1)]) (st' := []) (b37_2 call (z 1) (z 2) _ z f) hc ?_
  show RC call (mP 37) 6 [some (vR 1)] [vI r1] (LG z1 f1) res
  subst H
  exact rc_ret (b37_3 call _ _ _)
set_option maxRecDepth 100000 in
theorem b43_1 (call : QC FA) (o1 : Option PV) (o2 : Option PV) (L : QH FA) (F : Nat) : rnG call 43 (F + 2) 0 [some (vR 1), o1, o2] [] L = rnG call 43 F 2 [some (vR 1), o1, o2] [vI 1, vR 1] L := rfl
set_option maxRecDepth 100000 in
theorem b43_2 (call : QC FA) (a0 : Int32) (ls : List (Option PV)) (z : Nat → Int32) (f : Nat → FA) (F : Nat) : rnG call 43 (F + 1) 2 ls [vI a0, vR 1] (LG z f) = cbd (call 36 [vR 1, vI a0] (LG z f)) (fun r L' => rnG call 43 F 3 ls (r.toList ++ []) L') := pcY (ih := rnG call 43 F) (call := call) (a := 36) (b := 1) (v := 2) (t := 3) (x := 1) (ls := ls) (As := [vI a0]) (st' := []) (L := LG z f) rfl rfl rfl
set_option maxRecDepth 100000 in
theorem b43_3 (call : QC FA) (x : Int32) (ls : List (Option PV)) (L : QH FA) (F : Nat) : rnG call 43 (F + 1) 3 ls [vI x] L = bif pcmp 1 x 0 then rnG call 43 F 8 ls [] L else rnG call 43 F 4 ls [] L := rfl
set_option maxRecDepth 100000 in
theorem b43_4 (call : QC FA) (o1 : Option PV) (o2 : Option PV) (L : QH FA) (F : Nat) : rnG call 43 (F + 1) 8 [some (vR 1), o1, o2] [] L = rnG call 43 F 9 [some (vR 1), o1, o2] [vI ((-1))] L := rfl
set_option maxRecDepth 100000 in
theorem b43_5 (call : QC FA) (x : Int32) (ls : List (Option PV)) (L : QH FA) (F : Nat) : rnG call 43 (F + 1) 9 ls [vI x] L = some (some (vI x), L) := rfl
set_option maxRecDepth 100000 in
theorem b43_6 (call : QC FA) (o1 : Option PV) (o2 : Option PV) (L : QH FA) (F : Nat) : rnG call 43 (F + 2) 4 [some (vR 1), o1, o2] [] L = rnG call 43 F 6 [some (vR 1), o1, o2] [vI 2, vR 1] L := rfl
set_option maxRecDepth 100000 in
theorem b43_7 (call : QC FA) (a0 : Int32) (ls : List (Option PV)) (z : Nat → Int32) (f : Nat → FA) (F : Nat) : rnG call 43 (F + 1) 6 ls [vI a0, vR 1] (LG z f) = cbd (call 36 [vR 1, vI a0] (LG z f)) (fun r L' => rnG call 43 F 7 ls (r.toList ++ []) L') := pcY (ih := rnG call 43 F) (call := call) (a := 36) (b := 1) (v := 2) (t := 7) (x := 1) (ls := ls) (As := [vI a0]) (st' := []) (L := LG z f) rfl rfl rfl
set_option maxRecDepth 100000 in
theorem b43_8 (call : QC FA) (x : Int32) (ls : List (Option PV)) (L : QH FA) (F : Nat) : rnG call 43 (F + 1) 7 ls [vI x] L = bif pcmp 0 x 0 then rnG call 43 F 10 ls [] L else rnG call 43 F 8 ls [] L := rfl
set_option maxRecDepth 100000 in
theorem b43_9 (call : QC FA) (o1 : Option PV) (o2 : Option PV) (z : Nat → Int32) (f : Nat → FA) (F : Nat) : rnG call 43 (F + 5) 10 [some (vR 1), o1, o2] [] (LG z f) = rnG call 43 F 15 [some (vR 1), o1, o2] [vI (z 2), vI (z 1), vR 1] (LG z f) := rfl
set_option maxRecDepth 100000 in
theorem b43_10 (call : QC FA) (a0 : Int32) (a1 : Int32) (ls : List (Option PV)) (z : Nat → Int32) (f : Nat → FA) (F : Nat) : rnG call 43 (F + 1) 15 ls [vI a1, vI a0, vR 1] (LG z f) = cbd (call 38 [vR 1, vI a0, vI a1] (LG z f)) (fun r L' => rnG call 43 F 16 ls (r.toList ++ []) L') := pcY (ih := rnG call 43 F) (call := call) (a := 38) (b := 2) (v := 2) (t := 16) (x := 1) (ls := ls) (As := [vI a0, vI a1]) (st' := []) (L := LG z f) rfl rfl rfl
set_option maxRecDepth 100000 in
theorem b43_11 (call : QC FA) (o1 : Option PV) (o2 : Option PV) (s0 : Int32) (L : QH FA) (F : Nat) : rnG call 43 (F + 3) 16 [some (vR 1), o1, o2] [vI s0] L = rnG call 43 F 19 [some (vR 1), some (vI s0), some (vI 0)] [] L := rfl
theorem vc43_0 (call : QC FA) (o1 : Option PV) (o2 : Option PV) (z : Nat → Int32) (f : Nat → FA) (res : Option PV × QH FA) (H : (∃ (r1 : Int32) (z1 : Nat → Int32) (f1 : Nat → FA), call 36 [vR 1, vI 1] (LG z f) = some (some (vI r1), LG z1 f1) ∧ ((¬ r1 = 0 → res = (some (vI ((-1))), LG z1 f1)) ∧ (r1 = 0 → (∃ (r2 : Int32) (z2 : Nat → Int32) (f2 : Nat → FA), call 36 [vR 1, vI 2] (LG z1 f1) = some (some (vI r2), LG z2 f2) ∧ ((r2 = 0 → (∃ (r3 : Int32) (z3 : Nat → Int32) (f3 : Nat → FA), call 38 [vR 1, vI (z2 1), vI (z2 2)] (LG z2 f2) = some (some (vI r3), LG z3 f3) ∧ RC call (mP 43) 19 [some (vR 1), some (vI r3), some (vI 0)] [] (LG z3 f3) res)) ∧ (¬ r2 = 0 → res = (some (vI ((-1))), LG z2 f2)))))))) : RC call (mP 43) 0 [some (vR 1), o1, o2] [] (LG z f) res := by
  refine rc_b (i' := 2) (ls' := [some (vR 1), o1, o2]) (st' := [vI 1, vR 1]) (L' := LG z f) 2 (b43_1 call o1 o2 _) ?_
  obtain ⟨r1, z1, f1, hc, H⟩ := H
  refine rc_call (t := 3) (ls' := [some (vR 1), o1, o2]) (st' := []) (b43_2 call 1 _ z f) hc ?_
  show RC call (mP 43) 3 [some (vR 1), o1, o2] [vI r1] (LG z1 f1) res
  refine rc_if (it := 8) (ie := 4) (ls' := [some (vR 1), o1, o2]) (st' := []) (b43_3 call r1 _ _) (fun q1 => ?_) (fun q1 => ?_)
  · have H := H.1 (cI1t q1)
    refine rc_b (i' := 9) (ls' := [some (vR 1), o1, o2]) (st' := [vI ((-1))]) (L' := LG z1 f1) 1 (b43_4 call o1 o2 _) ?_
    subst H
    exact rc_ret (b43_5 call _ _ _)
  · have H := H.2 (cI1f q1)
    refine rc_b (i' := 6) (ls' := [some (vR 1), o1, o2]) (st' := [vI 2, vR 1]) (L' := LG z1 f1) 2 (b43_6 call o1 o2 _) ?_
    obtain ⟨r2, z2, f2, hc, H⟩ := H
    refine rc_call (t := 7) (ls' := [some (vR 1), o1, o2]) (st' := []) (b43_7 call 2 _ z1 f1) hc ?_
    show RC call (mP 43) 7 [some (vR 1), o1, o2] [vI r2] (LG z2 f2) res
    refine rc_if (it := 10) (ie := 8) (ls' := [some (vR 1), o1, o2]) (st' := []) (b43_8 call r2 _ _) (fun q2 => ?_) (fun q2 => ?_)
    · have H := H.1 (cI0t q2)
      refine rc_b (i' := 15) (ls' := [some (vR 1), o1, o2]) (st' := [vI (z2 2), vI (z2 1), vR 1]) (L' := LG z2 f2) 5 (b43_9 call o1 o2 z2 f2) ?_
      obtain ⟨r3, z3, f3, hc, H⟩ := H
      refine rc_call (t := 16) (ls' := [some (vR 1), o1, o2]) (st' := []) (b43_10 call (z2 1) (z2 2) _ z2 f2) hc ?_
      show RC call (mP 43) 16 [some (vR 1), o1, o2] [vI r3] (LG z3 f3) res
      refine rc_b (i' := 19) (ls' := [some (vR 1), some (vI r3), some (vI 0)]) (st' := []) (L' := LG z3 f3) 3 (b43_11 call o1 o2 r3 _) ?_
      exact H
    · have H := H.2 (cI0f q2)
      refine rc_b (i' := 9) (ls' := [some (vR 1), o1, o2]) (st' := [vI ((-1))]) (L' := LG z2 f2) 1 (b43_4 call o1 o2 _) ?_
      subst H
      exact rc_ret (b43_5 call _ _ _)
set_option maxRecDepth 100000 in
theorem bc19_43_1 (call : QC FA) (x1 : Int32) (x2 : Int32) (L : QH FA) (F : Nat) : rnG call 43 (F + 2) 19 [some (vR 1), some (vI x1), some (vI x2)] [] L = rnG call 43 F 21 [some (vR 1), some (vI x1), some (vI x2)] [vI 9, vI x2] L := rfl
set_option maxRecDepth 100000 in
theorem bc19_43_2 (call : QC FA) (x y : Int32) (ls : List (Option PV)) (L : QH FA) (F : Nat) : rnG call 43 (F + 1) 21 ls [vI y, vI x] L = bif pcmp 3 x y then rnG call 43 F 40 ls [] L else rnG call 43 F 22 ls [] L := rfl
set_option maxRecDepth 100000 in
theorem bc19_43_3 (call : QC FA) (x1 : Int32) (x2 : Int32) (L : QH FA) (F : Nat) : rnG call 43 (F + 1) 40 [some (vR 1), some (vI x1), some (vI x2)] [] L = rnG call 43 F 41 [some (vR 1), some (vI x1), some (vI x2)] [vI ((-1))] L := rfl
set_option maxRecDepth 100000 in
theorem bc19_43_4 (call : QC FA) (x : Int32) (ls : List (Option PV)) (L : QH FA) (F : Nat) : rnG call 43 (F + 1) 41 ls [vI x] L = some (some (vI x), L) := rfl
set_option maxRecDepth 100000 in
theorem bc19_43_5 (call : QC FA) (x1 : Int32) (x2 : Int32) (z : Nat → Int32) (f : Nat → FA) (F : Nat) : rnG call 43 (F + 3) 22 [some (vR 1), some (vI x1), some (vI x2)] [] (LG z f) = rnG call 43 F 25 [some (vR 1), some (vI x1), some (vI x2)] [vI x2, vR 3] (LG z f) := rfl
set_option maxRecDepth 100000 in
theorem bc19_43_6 (call : QC FA) (x : Int32) (ls : List (Option PV)) (z : Nat → Int32) (f : Nat → FA) (F : Nat) : rnG call 43 (F + 1) 25 ls [vI x, vR 3] (LG z f) = bif (Nat.beq 0 0 && pin x 9) then rnG call 43 F 26 ls [vI (f 3 (ix x))] (LG z f) else none := rfl
set_option maxRecDepth 100000 in
theorem bc19_43_7 (call : QC FA) (x : Int32) (ls : List (Option PV)) (L : QH FA) (F : Nat) : rnG call 43 (F + 1) 26 ls [vI x] L = bif pcmp 1 x 0 then rnG call 43 F 38 ls [] L else rnG call 43 F 27 ls [] L := rfl
set_option maxRecDepth 100000 in
theorem bc19_43_8 (call : QC FA) (x1 : Int32) (x2 : Int32) (L : QH FA) (F : Nat) : rnG call 43 (F + 1) 38 [some (vR 1), some (vI x1), some (vI x2)] [] L = rnG call 43 F 39 [some (vR 1), some (vI x1), some (vI (x2 + 1))] [] L := rfl
set_option maxRecDepth 100000 in
theorem bc19_43_9 (call : QC FA) (x1 : Int32) (x2 : Int32) (L : QH FA) (F : Nat) : rnG call 43 (F + 1) 39 [some (vR 1), some (vI x1), some (vI x2)] [] L = rnG call 43 F 19 [some (vR 1), some (vI x1), some (vI x2)] [] L := rfl
set_option maxRecDepth 100000 in
theorem bc19_43_10 (call : QC FA) (x1 : Int32) (x2 : Int32) (z : Nat → Int32) (f : Nat → FA) (F : Nat) : rnG call 43 (F + 6) 27 [some (vR 1), some (vI x1), some (vI x2)] [] (LG z f) = rnG call 43 F 33 [some (vR 1), some (vI x1), some (vI x2)] [vI (z 2), vI (z 1), vI x2, vR 1] (LG z f) := rfl
set_option maxRecDepth 100000 in
theorem bc19_43_11 (call : QC FA) (a0 : Int32) (a1 : Int32) (a2 : Int32) (ls : List (Option PV)) (z : Nat → Int32) (f : Nat → FA) (F : Nat) : rnG call 43 (F + 1) 33 ls [vI a2, vI a1, vI a0, vR 1] (LG z f) = cbd (call 41 [vR 1, vI a0, vI a1, vI a2] (LG z f)) (fun r L' => rnG call 43 F 34 ls (r.toList ++ []) L') := pcY (ih := rnG call 43 F) (call := call) (a := 41) (b := 3) (v := 2) (t := 34) (x := 1) (ls := ls) (As := [vI a0, vI a1, vI a2]) (st' := []) (L := LG z f) rfl rfl rfl
set_option maxRecDepth 100000 in
theorem bc19_43_12 (call : QC FA) (x1 : Int32) (x2 : Int32) (s0 : Int32) (L : QH FA) (F : Nat) : rnG call 43 (F + 1) 34 [some (vR 1), some (vI x1), some (vI x2)] [vI s0] L = rnG call 43 F 35 [some (vR 1), some (vI x1), some (vI x2)] [vI x1, vI s0] L := rfl
set_option maxRecDepth 100000 in
theorem bc19_43_13 (call : QC FA) (x y : Int32) (ls : List (Option PV)) (L : QH FA) (F : Nat) : rnG call 43 (F + 1) 35 ls [vI y, vI x] L = bif pcmp 1 x y then rnG call 43 F 38 ls [] L else rnG call 43 F 36 ls [] L := rfl
set_option maxRecDepth 100000 in
theorem bc19_43_14 (call : QC FA) (x1 : Int32) (x2 : Int32) (L : QH FA) (F : Nat) : rnG call 43 (F + 1) 36 [some (vR 1), some (vI x1), some (vI x2)] [] L = rnG call 43 F 37 [some (vR 1), some (vI x1), some (vI x2)] [vI x2] L := rfl
set_option maxRecDepth 100000 in
theorem bc19_43_15 (call : QC FA) (x : Int32) (ls : List (Option PV)) (L : QH FA) (F : Nat) : rnG call 43 (F + 1) 37 ls [vI x] L = some (some (vI x), L) := rfl
theorem vcc19_43_19 (call : QC FA) (x1 : Int32) (x2 : Int32) (z : Nat → Int32) (f : Nat → FA) (res : Option PV × QH FA) (H : ((9 ≤ I x2 → res = (some (vI ((-1))), LG z f)) ∧ (I x2 < 9 → (pin x2 9 = true ∧ ((¬ f 3 (ix x2) = 0 → RC call (mP 43) 19 [some (vR 1), some (vI x1), some (vI (x2 + 1))] [] (LG z f) res) ∧ (f 3 (ix x2) = 0 → (∃ (r1 : Int32) (z1 : Nat → Int32) (f1 : Nat → FA), call 41 [vR 1, vI x2, vI (z 1), vI (z 2)] (LG z f) = some (some (vI r1), LG z1 f1) ∧ ((¬ r1 = x1 → RC call (mP 43) 19 [some (vR 1), some (vI x1), some (vI (x2 + 1))] [] (LG z1 f1) res) ∧ (r1 = x1 → res = (some (vI x2), LG z1 f1)))))))))) : RC call (mP 43) 19 [some (vR 1), some (vI x1), some (vI x2)] [] (LG z f) res := by
  refine rc_b (i' := 21) (ls' := [some (vR 1), some (vI x1), some (vI x2)]) (st' := [vI 9, vI x2]) (L' := LG z f) 2 (bc19_43_1 call x1 x2 _) ?_
  refine rc_if (it := 40) (ie := 22) (ls' := [some (vR 1), some (vI x1), some (vI x2)]) (st' := []) (bc19_43_2 call x2 9 _ _) (fun q1 => ?_) (fun q1 => ?_)
  · have H := H.1 (cI3t q1 rfl rfl)
    refine rc_b (i' := 41) (ls' := [some (vR 1), some (vI x1), some (vI x2)]) (st' := [vI ((-1))]) (L' := LG z f) 1 (bc19_43_3 call x1 x2 _) ?_
    subst H
    exact rc_ret (bc19_43_4 call _ _ _)
  · have H := H.2 (cI3f q1 rfl rfl)
    refine rc_b (i' := 25) (ls' := [some (vR 1), some (vI x1), some (vI x2)]) (st' := [vI x2, vR 3]) (L' := LG z f) 3 (bc19_43_5 call x1 x2 z f) ?_
    obtain ⟨g1, H⟩ := H
    refine rc_g (i' := 26) (ls' := [some (vR 1), some (vI x1), some (vI x2)]) (st' := [vI (f 3 (ix x2))]) (L' := LG z f) (bc19_43_6 call x2 _ z f) (pinG g1) ?_
    refine rc_if (it := 38) (ie := 27) (ls' := [some (vR 1), some (vI x1), some (vI x2)]) (st' := []) (bc19_43_7 call (f 3 (ix x2)) _ _) (fun q2 => ?_) (fun q2 => ?_)
    · have H := H.1 (cI1t q2)
      refine rc_b (i' := 39) (ls' := [some (vR 1), some (vI x1), some (vI (x2 + 1))]) (st' := []) (L' := LG z f) 1 (bc19_43_8 call x1 x2 _) ?_
      refine rc_b (i' := 19) (ls' := [some (vR 1), some (vI x1), some (vI (x2 + 1))]) (st' := []) (L' := LG z f) 1 (bc19_43_9 call x1 (x2 + 1) _) ?_
      exact H
    · have H := H.2 (cI1f q2)
      refine rc_b (i' := 33) (ls' := [some (vR 1), some (vI x1), some (vI x2)]) (st' := [vI (z 2), vI (z 1), vI x2, vR 1]) (L' := LG z f) 6 (bc19_43_10 call x1 x2 z f) ?_
      obtain ⟨r1, z1, f1, hc, H⟩ := H
      refine rc_call (t := 34) (ls' := [some (vR 1), some (vI x1), some (vI x2)]) (st' := []) (bc19_43_11 call x2 (z 1) (z 2) _ z f) hc ?_
      show RC call (mP 43) 34 [some (vR 1), some (vI x1), some (vI x2)] [vI r1] (LG z1 f1) res
      refine rc_b (i' := 35) (ls' := [some (vR 1), some (vI x1), some (vI x2)]) (st' := [vI x1, vI r1]) (L' := LG z1 f1) 1 (bc19_43_12 call x1 x2 r1 _) ?_
      refine rc_if (it := 38) (ie := 36) (ls' := [some (vR 1), some (vI x1), some (vI x2)]) (st' := []) (bc19_43_13 call r1 x1 _ _) (fun q3 => ?_) (fun q3 => ?_)
      · have H := H.1 (cI1t q3)
        refine rc_b (i' := 39) (ls' := [some (vR 1), some (vI x1), some (vI (x2 + 1))]) (st' := []) (L' := LG z1 f1) 1 (bc19_43_8 call x1 x2 _) ?_
        refine rc_b (i' := 19) (ls' := [some (vR 1), some (vI x1), some (vI (x2 + 1))]) (st' := []) (L' := LG z1 f1) 1 (bc19_43_9 call x1 (x2 + 1) _) ?_
        exact H
      · have H := H.2 (cI1f q3)
        refine rc_b (i' := 37) (ls' := [some (vR 1), some (vI x1), some (vI x2)]) (st' := [vI x2]) (L' := LG z1 f1) 1 (bc19_43_14 call x1 x2 _) ?_
        subst H
        exact rc_ret (bc19_43_15 call _ _ _)
theorem c_next (n : Nat) (hn : n ≤ 18) (z : Nat → Int32) (f : Nat → FA) (hz : z 2 = nI n) : ∃ r f', mcall 21 37 [vR 1] (LG z f) = some (some (vI r), LG z f') := by
  obtain ⟨r, f', hr⟩ := (c_all 0 9).2 n (by omega) hn (z 1) z f
  exact ⟨r, f', mcall_i (mq37 (cu := [])).2.2 rfl (vc37_0 _ _ _ _ ⟨r, z, f', by rw [hz]; exact hr, rfl⟩)⟩
theorem c_f19 (n : Nat) (hn : n ≤ 18) (y : Int32) (z : Nat → Int32) (hz : z 2 = nI n) : ∀ t k, k + t = 9 → ∀ f, ∃ r f', RC (mcall 20) (mP 43) 19 [some (vR 1), some (vI y), some (vI (nI k))] [] (LG z f) (some (vI r), LG z f') := by
  have hM : VMc 20 9 := by
    have h1 := (c_all 1 9).1
    exact h1
  intro t
  induction t with
  | zero =>
    intro k hk f
    obtain rfl : k = 9 := by omega
    exact ⟨-1, f, vcc19_43_19 _ _ _ _ _ _ ⟨fun _ => rfl, fun q => absurd q (by decide)⟩⟩
  | succ t ih =>
    intro k hk f
    have go : ∀ res, _ → RC (mcall 20) (mP 43) 19 [some (vR 1), some (vI y), some (vI (nI k))] [] (LG z f) res := fun res H => vcc19_43_19 (mcall 20) y (nI k) z f res H
    rw [I_nI (n := k) (by omega), show nI k + 1 = nI (k + 1) from nI_add k 1, hz] at go
    by_cases c2 : f 3 (ix (nI k)) = 0
    · obtain ⟨r1, f1, h1⟩ := hM n (by omega) hn (nI k) (z 1) z f
      by_cases c3 : r1 = y
      · exact ⟨nI k, f1, go _ ⟨fun q => by omega, fun _ => ⟨pin_nI (by omega) (by omega), fun q => absurd c2 q, fun _ => ⟨r1, z, f1, h1, fun q => absurd c3 q, fun _ => rfl⟩⟩⟩⟩
      · obtain ⟨r, f', hr⟩ := ih (k + 1) (by omega) f1
        exact ⟨r, f', go _ ⟨fun q => by omega, fun _ => ⟨pin_nI (by omega) (by omega), fun q => absurd c2 q, fun _ => ⟨r1, z, f1, h1, fun _ => hr, fun q => absurd q c3⟩⟩⟩⟩
    · obtain ⟨r, f', hr⟩ := ih (k + 1) (by omega) f
      exact ⟨r, f', go _ ⟨fun q => by omega, fun _ => ⟨pin_nI (by omega) (by omega), fun _ => hr, fun q => absurd q c2⟩⟩⟩
theorem c_first (n : Nat) (hn : n ≤ 18) (z : Nat → Int32) (f : Nat → FA) (hz : z 2 = nI n) : ∃ r f', mcall 21 43 [vR 1] (LG z f) = some (some (vI r), LG z f') := by
  have go : ∀ res, _ → mcall 21 43 [vR 1] (LG z f) = some res := fun res H => mcall_i (mq43 (cu := [])).2.2 rfl (vc43_0 (mcall 20) none none z f res H)
  obtain ⟨r1, h1⟩ := c_hasThree 19 1 z f
  obtain ⟨r2, h2⟩ := c_hasThree 19 2 z f
  by_cases c1 : r1 = 0
  · by_cases c2 : r2 = 0
    · obtain ⟨r3, f3, h3⟩ := (c_all 0 9).2 n (by omega) hn (z 1) z f
      obtain ⟨r, f', hr⟩ := c_f19 n hn r3 z hz 9 0 (by omega) f3
      exact ⟨r, f', go _ ⟨r1, z, f, h1, fun q => absurd c1 q, fun _ => ⟨r2, z, f, h2, fun _ => ⟨r3, z, f3, by rw [hz]; exact h3, hr⟩, fun q => absurd c2 q⟩⟩⟩
    · exact ⟨-1, f, go _ ⟨r1, z, f, h1, fun q => absurd c1 q, fun _ => ⟨r2, z, f, h2, fun q => absurd q c2, fun _ => rfl⟩⟩⟩
  · exact ⟨-1, f, go _ ⟨r1, z, f, h1, fun _ => rfl, fun q => absurd q c1⟩⟩
set_option maxRecDepth 100000 in
theorem b35_1 (call : QC FA) (x1 : Int32) (o2 : Option PV) (o3 : Option PV) (o4 : Option PV) (o5 : Option PV) (o6 : Option PV) (L : QH FA) (F : Nat) : rnG call 35 (F + 1) 0 [some (vR 1), some (vI x1), o2, o3, o4, o5, o6] [] L = rnG call 35 F 1 [some (vR 1), some (vI x1), o2, o3, o4, o5, o6] [vI x1] L := rfl
set_option maxRecDepth 100000 in
theorem b35_2 (call : QC FA) (x : Int32) (ls : List (Option PV)) (L : QH FA) (F : Nat) : rnG call 35 (F + 1) 1 ls [vI x] L = bif pcmp 2 x 0 then rnG call 35 F 5 ls [] L else rnG call 35 F 2 ls [] L := rfl
set_option maxRecDepth 100000 in
theorem b35_3 (call : QC FA) (x1 : Int32) (o2 : Option PV) (o3 : Option PV) (o4 : Option PV) (o5 : Option PV) (o6 : Option PV) (L : QH FA) (F : Nat) : rnG call 35 (F + 1) 5 [some (vR 1), some (vI x1), o2, o3, o4, o5, o6] [] L = rnG call 35 F 6 [some (vR 1), some (vI x1), o2, o3, o4, o5, o6] [vI 0] L := rfl
set_option maxRecDepth 100000 in
theorem b35_4 (call : QC FA) (ls : List (Option PV)) (L : QH FA) (F : Nat) : rnG call 35 (F + 1) 6 ls [vI 0] L = some (some (vI 0), L) := rfl
set_option maxRecDepth 100000 in
theorem b35_5 (call : QC FA) (x1 : Int32) (o2 : Option PV) (o3 : Option PV) (o4 : Option PV) (o5 : Option PV) (o6 : Option PV) (L : QH FA) (F : Nat) : rnG call 35 (F + 2) 2 [some (vR 1), some (vI x1), o2, o3, o4, o5, o6] [] L = rnG call 35 F 4 [some (vR 1), some (vI x1), o2, o3, o4, o5, o6] [vI 222222222, vI x1] L := rfl
set_option maxRecDepth 100000 in
theorem b35_6 (call : QC FA) (x y : Int32) (ls : List (Option PV)) (L : QH FA) (F : Nat) : rnG call 35 (F + 1) 4 ls [vI y, vI x] L = bif pcmp 5 x y then rnG call 35 F 7 ls [] L else rnG call 35 F 5 ls [] L := rfl
set_option maxRecDepth 100000 in
theorem b35_7 (call : QC FA) (x1 : Int32) (o2 : Option PV) (o3 : Option PV) (o4 : Option PV) (o5 : Option PV) (o6 : Option PV) (L : QH FA) (F : Nat) : rnG call 35 (F + 8) 7 [some (vR 1), some (vI x1), o2, o3, o4, o5, o6] [] L = rnG call 35 F 15 [some (vR 1), some (vI x1), some (vI x1), some (vI 0), some (vI 0), o5, o6] [vI 0, vR 1] L := rfl
set_option maxRecDepth 100000 in
theorem b35_8 (call : QC FA) (y : Int32) (ls : List (Option PV)) (z : Nat → Int32) (f : Nat → FA) (F : Nat) : rnG call 35 (F + 1) 15 ls [vI y, vR 1] (LG z f) = rnG call 35 F 16 ls [] (LG (uZ z 1 y) f) := rfl
set_option maxRecDepth 100000 in
theorem b35_9 (call : QC FA) (x1 : Int32) (x2 : Int32) (x3 : Int32) (x4 : Int32) (o5 : Option PV) (o6 : Option PV) (L : QH FA) (F : Nat) : rnG call 35 (F + 2) 16 [some (vR 1), some (vI x1), some (vI x2), some (vI x3), some (vI x4), o5, o6] [] L = rnG call 35 F 18 [some (vR 1), some (vI x1), some (vI x2), some (vI x3), some (vI x4), some (vI 8), o6] [] L := rfl
theorem vc35_0 (call : QC FA) (x1 : Int32) (o2 : Option PV) (o3 : Option PV) (o4 : Option PV) (o5 : Option PV) (o6 : Option PV) (z : Nat → Int32) (f : Nat → FA) (res : Option PV × QH FA) (H : ((I x1 < 0 → res = (some (vI 0), LG z f)) ∧ (0 ≤ I x1 → ((I x1 ≤ 222222222 → RC call (mP 35) 18 [some (vR 1), some (vI x1), some (vI x1), some (vI 0), some (vI 0), some (vI 8), o6] [] (LG (uZ z 1 0) f) res) ∧ (222222222 < I x1 → res = (some (vI 0), LG z f)))))) : RC call (mP 35) 0 [some (vR 1), some (vI x1), o2, o3, o4, o5, o6] [] (LG z f) res := by
  refine rc_b (i' := 1) (ls' := [some (vR 1), some (vI x1), o2, o3, o4, o5, o6]) (st' := [vI x1]) (L' := LG z f) 1 (b35_1 call x1 o2 o3 o4 o5 o6 _) ?_
  refine rc_if (it := 5) (ie := 2) (ls' := [some (vR 1), some (vI x1), o2, o3, o4, o5, o6]) (st' := []) (b35_2 call x1 _ _) (fun q1 => ?_) (fun q1 => ?_)
  · have H := H.1 (cI2t q1 rfl rfl)
    refine rc_b (i' := 6) (ls' := [some (vR 1), some (vI x1), o2, o3, o4, o5, o6]) (st' := [vI 0]) (L' := LG z f) 1 (b35_3 call x1 o2 o3 o4 o5 o6 _) ?_
    subst H
    exact rc_ret (b35_4 call _ _)
  · have H := H.2 (cI2f q1 rfl rfl)
    refine rc_b (i' := 4) (ls' := [some (vR 1), some (vI x1), o2, o3, o4, o5, o6]) (st' := [vI 222222222, vI x1]) (L' := LG z f) 2 (b35_5 call x1 o2 o3 o4 o5 o6 _) ?_
    refine rc_if (it := 7) (ie := 5) (ls' := [some (vR 1), some (vI x1), o2, o3, o4, o5, o6]) (st' := []) (b35_6 call x1 222222222 _ _) (fun q2 => ?_) (fun q2 => ?_)
    · have H := H.1 (cI5t q2 rfl rfl)
      refine rc_b (i' := 15) (ls' := [some (vR 1), some (vI x1), some (vI x1), some (vI 0), some (vI 0), o5, o6]) (st' := [vI 0, vR 1]) (L' := LG z f) 8 (b35_7 call x1 o2 o3 o4 o5 o6 _) ?_
      refine rc_b (i' := 16) (ls' := [some (vR 1), some (vI x1), some (vI x1), some (vI 0), some (vI 0), o5, o6]) (st' := []) (L' := LG (uZ z 1 0) f) 1 (b35_8 call 0 _ z f) ?_
      refine rc_b (i' := 18) (ls' := [some (vR 1), some (vI x1), some (vI x1), some (vI 0), some (vI 0), some (vI 8), o6]) (st' := []) (L' := LG (uZ z 1 0) f) 2 (b35_9 call x1 x1 0 0 o5 o6 _) ?_
      exact H
    · have H := H.2 (cI5f q2 rfl rfl)
      refine rc_b (i' := 6) (ls' := [some (vR 1), some (vI x1), o2, o3, o4, o5, o6]) (st' := [vI 0]) (L' := LG z f) 1 (b35_3 call x1 o2 o3 o4 o5 o6 _) ?_
      subst H
      exact rc_ret (b35_4 call _ _)
set_option maxRecDepth 100000 in
theorem bc18_35_1 (call : QC FA) (o1 : Option PV) (x2 : Int32) (x3 : Int32) (x4 : Int32) (x5 : Int32) (o6 : Option PV) (L : QH FA) (F : Nat) : rnG call 35 (F + 1) 18 [some (vR 1), o1, some (vI x2), some (vI x3), some (vI x4), some (vI x5), o6] [] L = rnG call 35 F 19 [some (vR 1), o1, some (vI x2), some (vI x3), some (vI x4), some (vI x5), o6] [vI x5] L := rfl
set_option maxRecDepth 100000 in
theorem bc18_35_2 (call : QC FA) (x : Int32) (ls : List (Option PV)) (L : QH FA) (F : Nat) : rnG call 35 (F + 1) 19 ls [vI x] L = bif pcmp 2 x 0 then rnG call 35 F 68 ls [] L else rnG call 35 F 20 ls [] L := rfl
set_option maxRecDepth 100000 in
theorem bc18_35_3 (call : QC FA) (o1 : Option PV) (x2 : Int32) (x3 : Int32) (x4 : Int32) (x5 : Int32) (o6 : Option PV) (L : QH FA) (F : Nat) : rnG call 35 (F + 2) 20 [some (vR 1), o1, some (vI x2), some (vI x3), some (vI x4), some (vI x5), o6] [] L = rnG call 35 F 22 [some (vR 1), o1, some (vI x2), some (vI x3), some (vI x4), some (vI x5), o6] [vI 10, vI x2] L := rfl
set_option maxRecDepth 100000 in
theorem bc18_35_4 (call : QC FA) (x y : Int32) (ls : List (Option PV)) (L : QH FA) (F : Nat) : rnG call 35 (F + 1) 22 ls [vI y, vI x] L = bif pcmp 1 y 0 then rnG call 35 F 23 ls [vI (x - x / y * y)] L else none := rfl
set_option maxRecDepth 100000 in
theorem bc18_35_5 (call : QC FA) (o1 : Option PV) (x2 : Int32) (x3 : Int32) (x4 : Int32) (x5 : Int32) (o6 : Option PV) (s0 : Int32) (L : QH FA) (F : Nat) : rnG call 35 (F + 3) 23 [some (vR 1), o1, some (vI x2), some (vI x3), some (vI x4), some (vI x5), o6] [vI s0] L = rnG call 35 F 26 [some (vR 1), o1, some (vI x2), some (vI x3), some (vI x4), some (vI x5), some (vI s0)] [vI 10, vI x2] L := rfl
set_option maxRecDepth 100000 in
theorem bc18_35_6 (call : QC FA) (x y : Int32) (ls : List (Option PV)) (L : QH FA) (F : Nat) : rnG call 35 (F + 1) 26 ls [vI y, vI x] L = bif pcmp 1 y 0 then rnG call 35 F 27 ls [vI (x / y)] L else none := rfl
set_option maxRecDepth 100000 in
theorem bc18_35_7 (call : QC FA) (o1 : Option PV) (x2 : Int32) (x3 : Int32) (x4 : Int32) (x5 : Int32) (x6 : Int32) (s0 : Int32) (L : QH FA) (F : Nat) : rnG call 35 (F + 3) 27 [some (vR 1), o1, some (vI x2), some (vI x3), some (vI x4), some (vI x5), some (vI x6)] [vI s0] L = rnG call 35 F 30 [some (vR 1), o1, some (vI s0), some (vI x3), some (vI x4), some (vI x5), some (vI x6)] [vI 2, vI x6] L := rfl
set_option maxRecDepth 100000 in
theorem bc18_35_8 (call : QC FA) (x y : Int32) (ls : List (Option PV)) (L : QH FA) (F : Nat) : rnG call 35 (F + 1) 30 ls [vI y, vI x] L = bif pcmp 5 x y then rnG call 35 F 33 ls [] L else rnG call 35 F 31 ls [] L := rfl
set_option maxRecDepth 100000 in
theorem bc18_35_9 (call : QC FA) (o1 : Option PV) (x2 : Int32) (x3 : Int32) (x4 : Int32) (x5 : Int32) (x6 : Int32) (z : Nat → Int32) (f : Nat → FA) (F : Nat) : rnG call 35 (F + 4) 33 [some (vR 1), o1, some (vI x2), some (vI x3), some (vI x4), some (vI x5), some (vI x6)] [] (LG z f) = rnG call 35 F 37 [some (vR 1), o1, some (vI x2), some (vI x3), some (vI x4), some (vI x5), some (vI x6)] [vI x6, vI x5, vR 3] (LG z f) := rfl
set_option maxRecDepth 100000 in
theorem bc18_35_10 (call : QC FA) (x y : Int32) (ls : List (Option PV)) (z : Nat → Int32) (f : Nat → FA) (F : Nat) : rnG call 35 (F + 1) 37 ls [vI y, vI x, vR 3] (LG z f) = bif (Nat.beq 0 0 && pin x 9) then rnG call 35 F 38 ls [] (LG z (uA f 3 (upd (f 3) (ix x) y))) else none := rfl
set_option maxRecDepth 100000 in
theorem bc18_35_11 (call : QC FA) (o1 : Option PV) (x2 : Int32) (x3 : Int32) (x4 : Int32) (x5 : Int32) (x6 : Int32) (z : Nat → Int32) (f : Nat → FA) (F : Nat) : rnG call 35 (F + 6) 38 [some (vR 1), o1, some (vI x2), some (vI x3), some (vI x4), some (vI x5), some (vI x6)] [] (LG z f) = rnG call 35 F 44 [some (vR 1), o1, some (vI x2), some (vI x3), some (vI x4), some (vI x5), some (vI x6)] [vI x5, vS 1, vI x6, vI (z 1), vR 1] (LG z f) := rfl
set_option maxRecDepth 100000 in
theorem bc18_35_12 (call : QC FA) (x : Int32) (s0 : Int32) (s1 : Int32) (ls : List (Option PV)) (L : QH FA) (F : Nat) : rnG call 35 (F + 1) 44 ls [vI x, vS 1, vI s0, vI s1, vR 1] L = bif (Nat.blt 1 3 && pin x (sN 1)) then rnG call 35 F 45 ls [vI (sF 1 (ix x)), vI s0, vI s1, vR 1] L else none := rfl
set_option maxRecDepth 100000 in
theorem bc18_35_13 (call : QC FA) (o1 : Option PV) (x2 : Int32) (x3 : Int32) (x4 : Int32) (x5 : Int32) (x6 : Int32) (s0 : Int32) (s1 : Int32) (s2 : Int32) (L : QH FA) (F : Nat) : rnG call 35 (F + 2) 45 [some (vR 1), o1, some (vI x2), some (vI x3), some (vI x4), some (vI x5), some (vI x6)] [vI s0, vI s1, vI s2, vR 1] L = rnG call 35 F 47 [some (vR 1), o1, some (vI x2), some (vI x3), some (vI x4), some (vI x5), some (vI x6)] [vI (s2 + (s1 * s0)), vR 1] L := rfl
set_option maxRecDepth 100000 in
theorem bc18_35_14 (call : QC FA) (y : Int32) (ls : List (Option PV)) (z : Nat → Int32) (f : Nat → FA) (F : Nat) : rnG call 35 (F + 1) 47 ls [vI y, vR 1] (LG z f) = rnG call 35 F 48 ls [] (LG (uZ z 1 y) f) := rfl
set_option maxRecDepth 100000 in
theorem bc18_35_15 (call : QC FA) (o1 : Option PV) (x2 : Int32) (x3 : Int32) (x4 : Int32) (x5 : Int32) (x6 : Int32) (L : QH FA) (F : Nat) : rnG call 35 (F + 3) 48 [some (vR 1), o1, some (vI x2), some (vI x3), some (vI x4), some (vI x5), some (vI x6)] [] L = rnG call 35 F 51 [some (vR 1), o1, some (vI x2), some (vI x3), some (vI x4), some (vI x5), some (vI x6)] [vI 1, vI x6, vI x3] L := rfl
set_option maxRecDepth 100000 in
theorem bc18_35_16 (call : QC FA) (x y : Int32) (s0 : Int32) (ls : List (Option PV)) (L : QH FA) (F : Nat) : rnG call 35 (F + 1) 51 ls [vI y, vI x, vI s0] L = bif pcmp 1 x y then rnG call 35 F 54 ls [vI s0] L else rnG call 35 F 52 ls [vI s0] L := rfl
set_option maxRecDepth 100000 in
theorem bc18_35_17 (call : QC FA) (o1 : Option PV) (x2 : Int32) (x3 : Int32) (x4 : Int32) (x5 : Int32) (x6 : Int32) (s0 : Int32) (L : QH FA) (F : Nat) : rnG call 35 (F + 6) 54 [some (vR 1), o1, some (vI x2), some (vI x3), some (vI x4), some (vI x5), some (vI x6)] [vI s0] L = rnG call 35 F 60 [some (vR 1), o1, some (vI x2), some (vI (s0 + 0)), some (vI x4), some (vI x5), some (vI x6)] [vI 2, vI x6, vI x4] L := rfl
set_option maxRecDepth 100000 in
theorem bc18_35_18 (call : QC FA) (x y : Int32) (s0 : Int32) (ls : List (Option PV)) (L : QH FA) (F : Nat) : rnG call 35 (F + 1) 60 ls [vI y, vI x, vI s0] L = bif pcmp 1 x y then rnG call 35 F 63 ls [vI s0] L else rnG call 35 F 61 ls [vI s0] L := rfl
set_option maxRecDepth 100000 in
theorem bc18_35_19 (call : QC FA) (o1 : Option PV) (x2 : Int32) (x3 : Int32) (x4 : Int32) (x5 : Int32) (x6 : Int32) (s0 : Int32) (L : QH FA) (F : Nat) : rnG call 35 (F + 3) 63 [some (vR 1), o1, some (vI x2), some (vI x3), some (vI x4), some (vI x5), some (vI x6)] [vI s0] L = rnG call 35 F 66 [some (vR 1), o1, some (vI x2), some (vI x3), some (vI (s0 + 0)), some (vI x5), some (vI x6)] [] L := rfl
theorem bc18_35_20i (ih : QK FA) (t : Nat) (v x : Int32) (l0 l1 l2 l3 l4 l6 : Option PV) (st : List PV) (L : QH FA) : p_iinc ih fzF 5 v t [l0, l1, l2, l3, l4, some (vI x), l6] st L = ih t [l0, l1, l2, l3, l4, some (vI (x + v)), l6] st L := rfl
set_option maxRecDepth 100000 in
theorem bc18_35_20 (call : QC FA) (o1 : Option PV) (x2 : Int32) (x3 : Int32) (x4 : Int32) (x5 : Int32) (x6 : Int32) (L : QH FA) (F : Nat) : rnG call 35 (F + 1) 66 [some (vR 1), o1, some (vI x2), some (vI x3), some (vI x4), some (vI x5), some (vI x6)] [] L = rnG call 35 F 67 [some (vR 1), o1, some (vI x2), some (vI x3), some (vI x4), some (vI (x5 + (-1))), some (vI x6)] [] L := bc18_35_20i (rnG call 35 F) 67 (-1) x5 _ _ _ _ _ _ _ _
set_option maxRecDepth 100000 in
theorem bc18_35_21 (call : QC FA) (o1 : Option PV) (x2 : Int32) (x3 : Int32) (x4 : Int32) (x5 : Int32) (x6 : Int32) (L : QH FA) (F : Nat) : rnG call 35 (F + 1) 67 [some (vR 1), o1, some (vI x2), some (vI x3), some (vI x4), some (vI x5), some (vI x6)] [] L = rnG call 35 F 18 [some (vR 1), o1, some (vI x2), some (vI x3), some (vI x4), some (vI x5), some (vI x6)] [] L := rfl
set_option maxRecDepth 100000 in
theorem bc18_35_22 (call : QC FA) (o1 : Option PV) (x2 : Int32) (x3 : Int32) (x4 : Int32) (x5 : Int32) (x6 : Int32) (s0 : Int32) (L : QH FA) (F : Nat) : rnG call 35 (F + 4) 61 [some (vR 1), o1, some (vI x2), some (vI x3), some (vI x4), some (vI x5), some (vI x6)] [vI s0] L = rnG call 35 F 66 [some (vR 1), o1, some (vI x2), some (vI x3), some (vI (s0 + 1)), some (vI x5), some (vI x6)] [] L := rfl
set_option maxRecDepth 100000 in
theorem bc18_35_23 (call : QC FA) (o1 : Option PV) (x2 : Int32) (x3 : Int32) (x4 : Int32) (x5 : Int32) (x6 : Int32) (s0 : Int32) (L : QH FA) (F : Nat) : rnG call 35 (F + 7) 52 [some (vR 1), o1, some (vI x2), some (vI x3), some (vI x4), some (vI x5), some (vI x6)] [vI s0] L = rnG call 35 F 60 [some (vR 1), o1, some (vI x2), some (vI (s0 + 1)), some (vI x4), some (vI x5), some (vI x6)] [vI 2, vI x6, vI x4] L := rfl
set_option maxRecDepth 100000 in
theorem bc18_35_24 (call : QC FA) (o1 : Option PV) (x2 : Int32) (x3 : Int32) (x4 : Int32) (x5 : Int32) (x6 : Int32) (L : QH FA) (F : Nat) : rnG call 35 (F + 1) 31 [some (vR 1), o1, some (vI x2), some (vI x3), some (vI x4), some (vI x5), some (vI x6)] [] L = rnG call 35 F 32 [some (vR 1), o1, some (vI x2), some (vI x3), some (vI x4), some (vI x5), some (vI x6)] [vI 0] L := rfl
set_option maxRecDepth 100000 in
theorem bc18_35_25 (call : QC FA) (ls : List (Option PV)) (L : QH FA) (F : Nat) : rnG call 35 (F + 1) 32 ls [vI 0] L = some (some (vI 0), L) := rfl
theorem vcc18_35_18 (call : QC FA) (o1 : Option PV) (x2 : Int32) (x3 : Int32) (x4 : Int32) (x5 : Int32) (o6 : Option PV) (z : Nat → Int32) (f : Nat → FA) (res : Option PV × QH FA) (H : ((I x5 < 0 → RC call (mP 35) 68 [some (vR 1), o1, some (vI x2), some (vI x3), some (vI x4), some (vI x5), o6] [] (LG z f) res) ∧ (0 ≤ I x5 → (¬ (10 : Int32) = 0 ∧ (¬ (10 : Int32) = 0 ∧ ((I (x2 - x2 / 10 * 10) ≤ 2 → (pin x5 9 = true ∧ (pin x5 9 = true ∧ ((¬ x2 - x2 / 10 * 10 = 1 → ((¬ x2 - x2 / 10 * 10 = 2 → RC call (mP 35) 18 [some (vR 1), o1, some (vI (x2 / 10)), some (vI (x3 + 0)), some (vI (x4 + 0)), some (vI (x5 + (-1))), some (vI (x2 - x2 / 10 * 10))] [] (LG (uZ z 1 ((z 1) + ((x2 - x2 / 10 * 10) * (sF 1 (ix x5))))) (uA f 3 (upd (f 3) (ix x5) (x2 - x2 / 10 * 10)))) res) ∧ (x2 - x2 / 10 * 10 = 2 → RC call (mP 35) 18 [some (vR 1), o1, some (vI (x2 / 10)), some (vI (x3 + 0)), some (vI (x4 + 1)), some (vI (x5 + (-1))), some (vI (x2 - x2 / 10 * 10))] [] (LG (uZ z 1 ((z 1) + ((x2 - x2 / 10 * 10) * (sF 1 (ix x5))))) (uA f 3 (upd (f 3) (ix x5) (x2 - x2 / 10 * 10)))) res))) ∧ (x2 - x2 / 10 * 10 = 1 → ((¬ x2 - x2 / 10 * 10 = 2 → RC call (mP 35) 18 [some (vR 1), o1, some (vI (x2 / 10)), some (vI (x3 + 1)), some (vI (x4 + 0)), some (vI (x5 + (-1))), some (vI (x2 - x2 / 10 * 10))] [] (LG (uZ z 1 ((z 1) + ((x2 - x2 / 10 * 10) * (sF 1 (ix x5))))) (uA f 3 (upd (f 3) (ix x5) (x2 - x2 / 10 * 10)))) res) ∧ (x2 - x2 / 10 * 10 = 2 → RC call (mP 35) 18 [some (vR 1), o1, some (vI (x2 / 10)), some (vI (x3 + 1)), some (vI (x4 + 1)), some (vI (x5 + (-1))), some (vI (x2 - x2 / 10 * 10))] [] (LG (uZ z 1 ((z 1) + ((x2 - x2 / 10 * 10) * (sF 1 (ix x5))))) (uA f 3 (upd (f 3) (ix x5) (x2 - x2 / 10 * 10)))) res))))))) ∧ (2 < I (x2 - x2 / 10 * 10) → res = (some (vI 0), LG z f)))))))) : RC call (mP 35) 18 [some (vR 1), o1, some (vI x2), some (vI x3), some (vI x4), some (vI x5), o6] [] (LG z f) res := by
  refine rc_b (i' := 19) (ls' := [some (vR 1), o1, some (vI x2), some (vI x3), some (vI x4), some (vI x5), o6]) (st' := [vI x5]) (L' := LG z f) 1 (bc18_35_1 call o1 x2 x3 x4 x5 o6 _) ?_
  refine rc_if (it := 68) (ie := 20) (ls' := [some (vR 1), o1, some (vI x2), some (vI x3), some (vI x4), some (vI x5), o6]) (st' := []) (bc18_35_2 call x5 _ _) (fun q1 => ?_) (fun q1 => ?_)
  · have H := H.1 (cI2t q1 rfl rfl)
    exact H
  · have H := H.2 (cI2f q1 rfl rfl)
    refine rc_b (i' := 22) (ls' := [some (vR 1), o1, some (vI x2), some (vI x3), some (vI x4), some (vI x5), o6]) (st' := [vI 10, vI x2]) (L' := LG z f) 2 (bc18_35_3 call o1 x2 x3 x4 x5 o6 _) ?_
    obtain ⟨g1, H⟩ := H
    refine rc_g (i' := 23) (ls' := [some (vR 1), o1, some (vI x2), some (vI x3), some (vI x4), some (vI x5), o6]) (st' := [vI (x2 - x2 / 10 * 10)]) (L' := LG z f) (bc18_35_4 call x2 10 _ _) (cmp_ne.trans (decide_eq_true g1)) ?_
    refine rc_b (i' := 26) (ls' := [some (vR 1), o1, some (vI x2), some (vI x3), some (vI x4), some (vI x5), some (vI (x2 - x2 / 10 * 10))]) (st' := [vI 10, vI x2]) (L' := LG z f) 3 (bc18_35_5 call o1 x2 x3 x4 x5 o6 (x2 - x2 / 10 * 10) _) ?_
    obtain ⟨g1, H⟩ := H
    refine rc_g (i' := 27) (ls' := [some (vR 1), o1, some (vI x2), some (vI x3), some (vI x4), some (vI x5), some (vI (x2 - x2 / 10 * 10))]) (st' := [vI (x2 / 10)]) (L' := LG z f) (bc18_35_6 call x2 10 _ _) (cmp_ne.trans (decide_eq_true g1)) ?_
    refine rc_b (i' := 30) (ls' := [some (vR 1), o1, some (vI (x2 / 10)), some (vI x3), some (vI x4), some (vI x5), some (vI (x2 - x2 / 10 * 10))]) (st' := [vI 2, vI (x2 - x2 / 10 * 10)]) (L' := LG z f) 3 (bc18_35_7 call o1 x2 x3 x4 x5 (x2 - x2 / 10 * 10) (x2 / 10) _) ?_
    refine rc_if (it := 33) (ie := 31) (ls' := [some (vR 1), o1, some (vI (x2 / 10)), some (vI x3), some (vI x4), some (vI x5), some (vI (x2 - x2 / 10 * 10))]) (st' := []) (bc18_35_8 call (x2 - x2 / 10 * 10) 2 _ _) (fun q2 => ?_) (fun q2 => ?_)
    · have H := H.1 (cI5t q2 rfl rfl)
      refine rc_b (i' := 37) (ls' := [some (vR 1), o1, some (vI (x2 / 10)), some (vI x3), some (vI x4), some (vI x5), some (vI (x2 - x2 / 10 * 10))]) (st' := [vI (x2 - x2 / 10 * 10), vI x5, vR 3]) (L' := LG z f) 4 (bc18_35_9 call o1 (x2 / 10) x3 x4 x5 (x2 - x2 / 10 * 10) z f) ?_
      obtain ⟨g1, H⟩ := H
      refine rc_g (i' := 38) (ls' := [some (vR 1), o1, some (vI (x2 / 10)), some (vI x3), some (vI x4), some (vI x5), some (vI (x2 - x2 / 10 * 10))]) (st' := []) (L' := LG z (uA f 3 (upd (f 3) (ix x5) (x2 - x2 / 10 * 10)))) (bc18_35_10 call x5 (x2 - x2 / 10 * 10) _ z f) (pinG g1) ?_
      refine rc_b (i' := 44) (ls' := [some (vR 1), o1, some (vI (x2 / 10)), some (vI x3), some (vI x4), some (vI x5), some (vI (x2 - x2 / 10 * 10))]) (st' := [vI x5, vS 1, vI (x2 - x2 / 10 * 10), vI (z 1), vR 1]) (L' := LG z (uA f 3 (upd (f 3) (ix x5) (x2 - x2 / 10 * 10)))) 6 (bc18_35_11 call o1 (x2 / 10) x3 x4 x5 (x2 - x2 / 10 * 10) z (uA f 3 (upd (f 3) (ix x5) (x2 - x2 / 10 * 10)))) ?_
      obtain ⟨g1, H⟩ := H
      refine rc_g (i' := 45) (ls' := [some (vR 1), o1, some (vI (x2 / 10)), some (vI x3), some (vI x4), some (vI x5), some (vI (x2 - x2 / 10 * 10))]) (st' := [vI (sF 1 (ix x5)), vI (x2 - x2 / 10 * 10), vI (z 1), vR 1]) (L' := LG z (uA f 3 (upd (f 3) (ix x5) (x2 - x2 / 10 * 10)))) (bc18_35_12 call x5 (x2 - x2 / 10 * 10) (z 1) _ _) (show (Nat.blt 1 3 && pin x5 (sN 1)) = true from g1) ?_
      refine rc_b (i' := 47) (ls' := [some (vR 1), o1, some (vI (x2 / 10)), some (vI x3), some (vI x4), some (vI x5), some (vI (x2 - x2 / 10 * 10))]) (st' := [vI ((z 1) + ((x2 - x2 / 10 * 10) * (sF 1 (ix x5)))), vR 1]) (L' := LG z (uA f 3 (upd (f 3) (ix x5) (x2 - x2 / 10 * 10)))) 2 (bc18_35_13 call o1 (x2 / 10) x3 x4 x5 (x2 - x2 / 10 * 10) (sF 1 (ix x5)) (x2 - x2 / 10 * 10) (z 1) _) ?_
      refine rc_b (i' := 48) (ls' := [some (vR 1), o1, some (vI (x2 / 10)), some (vI x3), some (vI x4), some (vI x5), some (vI (x2 - x2 / 10 * 10))]) (st' := []) (L' := LG (uZ z 1 ((z 1) + ((x2 - x2 / 10 * 10) * (sF 1 (ix x5))))) (uA f 3 (upd (f 3) (ix x5) (x2 - x2 / 10 * 10)))) 1 (bc18_35_14 call ((z 1) + ((x2 - x2 / 10 * 10) * (sF 1 (ix x5)))) _ z (uA f 3 (upd (f 3) (ix x5) (x2 - x2 / 10 * 10)))) ?_
      refine rc_b (i' := 51) (ls' := [some (vR 1), o1, some (vI (x2 / 10)), some (vI x3), some (vI x4), some (vI x5), some (vI (x2 - x2 / 10 * 10))]) (st' := [vI 1, vI (x2 - x2 / 10 * 10), vI x3]) (L' := LG (uZ z 1 ((z 1) + ((x2 - x2 / 10 * 10) * (sF 1 (ix x5))))) (uA f 3 (upd (f 3) (ix x5) (x2 - x2 / 10 * 10)))) 3 (bc18_35_15 call o1 (x2 / 10) x3 x4 x5 (x2 - x2 / 10 * 10) _) ?_
      refine rc_if (it := 54) (ie := 52) (ls' := [some (vR 1), o1, some (vI (x2 / 10)), some (vI x3), some (vI x4), some (vI x5), some (vI (x2 - x2 / 10 * 10))]) (st' := [vI x3]) (bc18_35_16 call (x2 - x2 / 10 * 10) 1 x3 _ _) (fun q3 => ?_) (fun q3 => ?_)
      · have H := H.1 (cI1t q3)
        refine rc_b (i' := 60) (ls' := [some (vR 1), o1, some (vI (x2 / 10)), some (vI (x3 + 0)), some (vI x4), some (vI x5), some (vI (x2 - x2 / 10 * 10))]) (st' := [vI 2, vI (x2 - x2 / 10 * 10), vI x4]) (L' := LG (uZ z 1 ((z 1) + ((x2 - x2 / 10 * 10) * (sF 1 (ix x5))))) (uA f 3 (upd (f 3) (ix x5) (x2 - x2 / 10 * 10)))) 6 (bc18_35_17 call o1 (x2 / 10) x3 x4 x5 (x2 - x2 / 10 * 10) x3 _) ?_
        refine rc_if (it := 63) (ie := 61) (ls' := [some (vR 1), o1, some (vI (x2 / 10)), some (vI (x3 + 0)), some (vI x4), some (vI x5), some (vI (x2 - x2 / 10 * 10))]) (st' := [vI x4]) (bc18_35_18 call (x2 - x2 / 10 * 10) 2 x4 _ _) (fun q4 => ?_) (fun q4 => ?_)
        · have H := H.1 (cI1t q4)
          refine rc_b (i' := 66) (ls' := [some (vR 1), o1, some (vI (x2 / 10)), some (vI (x3 + 0)), some (vI (x4 + 0)), some (vI x5), some (vI (x2 - x2 / 10 * 10))]) (st' := []) (L' := LG (uZ z 1 ((z 1) + ((x2 - x2 / 10 * 10) * (sF 1 (ix x5))))) (uA f 3 (upd (f 3) (ix x5) (x2 - x2 / 10 * 10)))) 3 (bc18_35_19 call o1 (x2 / 10) (x3 + 0) x4 x5 (x2 - x2 / 10 * 10) x4 _) ?_
          refine rc_b (i' := 67) (ls' := [some (vR 1), o1, some (vI (x2 / 10)), some (vI (x3 + 0)), some (vI (x4 + 0)), some (vI (x5 + (-1))), some (vI (x2 - x2 / 10 * 10))]) (st' := []) (L' := LG (uZ z 1 ((z 1) + ((x2 - x2 / 10 * 10) * (sF 1 (ix x5))))) (uA f 3 (upd (f 3) (ix x5) (x2 - x2 / 10 * 10)))) 1 (bc18_35_20 call o1 (x2 / 10) (x3 + 0) (x4 + 0) x5 (x2 - x2 / 10 * 10) _) ?_
          refine rc_b (i' := 18) (ls' := [some (vR 1), o1, some (vI (x2 / 10)), some (vI (x3 + 0)), some (vI (x4 + 0)), some (vI (x5 + (-1))), some (vI (x2 - x2 / 10 * 10))]) (st' := []) (L' := LG (uZ z 1 ((z 1) + ((x2 - x2 / 10 * 10) * (sF 1 (ix x5))))) (uA f 3 (upd (f 3) (ix x5) (x2 - x2 / 10 * 10)))) 1 (bc18_35_21 call o1 (x2 / 10) (x3 + 0) (x4 + 0) (x5 + (-1)) (x2 - x2 / 10 * 10) _) ?_
          exact H
        · have H := H.2 (cI1f q4)
          refine rc_b (i' := 66) (ls' := [some (vR 1), o1, some (vI (x2 / 10)), some (vI (x3 + 0)), some (vI (x4 + 1)), some (vI x5), some (vI (x2 - x2 / 10 * 10))]) (st' := []) (L' := LG (uZ z 1 ((z 1) + ((x2 - x2 / 10 * 10) * (sF 1 (ix x5))))) (uA f 3 (upd (f 3) (ix x5) (x2 - x2 / 10 * 10)))) 4 (bc18_35_22 call o1 (x2 / 10) (x3 + 0) x4 x5 (x2 - x2 / 10 * 10) x4 _) ?_
          refine rc_b (i' := 67) (ls' := [some (vR 1), o1, some (vI (x2 / 10)), some (vI (x3 + 0)), some (vI (x4 + 1)), some (vI (x5 + (-1))), some (vI (x2 - x2 / 10 * 10))]) (st' := []) (L' := LG (uZ z 1 ((z 1) + ((x2 - x2 / 10 * 10) * (sF 1 (ix x5))))) (uA f 3 (upd (f 3) (ix x5) (x2 - x2 / 10 * 10)))) 1 (bc18_35_20 call o1 (x2 / 10) (x3 + 0) (x4 + 1) x5 (x2 - x2 / 10 * 10) _) ?_
          refine rc_b (i' := 18) (ls' := [some (vR 1), o1, some (vI (x2 / 10)), some (vI (x3 + 0)), some (vI (x4 + 1)), some (vI (x5 + (-1))), some (vI (x2 - x2 / 10 * 10))]) (st' := []) (L' := LG (uZ z 1 ((z 1) + ((x2 - x2 / 10 * 10) * (sF 1 (ix x5))))) (uA f 3 (upd (f 3) (ix x5) (x2 - x2 / 10 * 10)))) 1 (bc18_35_21 call o1 (x2 / 10) (x3 + 0) (x4 + 1) (x5 + (-1)) (x2 - x2 / 10 * 10) _) ?_
          exact H
      · have H := H.2 (cI1f q3)
        refine rc_b (i' := 60) (ls' := [some (vR 1), o1, some (vI (x2 / 10)), some (vI (x3 + 1)), some (vI x4), some (vI x5), some (vI (x2 - x2 / 10 * 10))]) (st' := [vI 2, vI (x2 - x2 / 10 * 10), vI x4]) (L' := LG (uZ z 1 ((z 1) + ((x2 - x2 / 10 * 10) * (sF 1 (ix x5))))) (uA f 3 (upd (f 3) (ix x5) (x2 - x2 / 10 * 10)))) 7 (bc18_35_23 call o1 (x2 / 10) x3 x4 x5 (x2 - x2 / 10 * 10) x3 _) ?_
        refine rc_if (it := 63) (ie := 61) (ls' := [some (vR 1), o1, some (vI (x2 / 10)), some (vI (x3 + 1)), some (vI x4), some (vI x5), some (vI (x2 - x2 / 10 * 10))]) (st' := [vI x4]) (bc18_35_18 call (x2 - x2 / 10 * 10) 2 x4 _ _) (fun q5 => ?_) (fun q5 => ?_)
        · have H := H.1 (cI1t q5)
          refine rc_b (i' := 66) (ls' := [some (vR 1), o1, some (vI (x2 / 10)), some (vI (x3 + 1)), some (vI (x4 + 0)), some (vI x5), some (vI (x2 - x2 / 10 * 10))]) (st' := []) (L' := LG (uZ z 1 ((z 1) + ((x2 - x2 / 10 * 10) * (sF 1 (ix x5))))) (uA f 3 (upd (f 3) (ix x5) (x2 - x2 / 10 * 10)))) 3 (bc18_35_19 call o1 (x2 / 10) (x3 + 1) x4 x5 (x2 - x2 / 10 * 10) x4 _) ?_
          refine rc_b (i' := 67) (ls' := [some (vR 1), o1, some (vI (x2 / 10)), some (vI (x3 + 1)), some (vI (x4 + 0)), some (vI (x5 + (-1))), some (vI (x2 - x2 / 10 * 10))]) (st' := []) (L' := LG (uZ z 1 ((z 1) + ((x2 - x2 / 10 * 10) * (sF 1 (ix x5))))) (uA f 3 (upd (f 3) (ix x5) (x2 - x2 / 10 * 10)))) 1 (bc18_35_20 call o1 (x2 / 10) (x3 + 1) (x4 + 0) x5 (x2 - x2 / 10 * 10) _) ?_
          refine rc_b (i' := 18) (ls' := [some (vR 1), o1, some (vI (x2 / 10)), some (vI (x3 + 1)), some (vI (x4 + 0)), some (vI (x5 + (-1))), some (vI (x2 - x2 / 10 * 10))]) (st' := []) (L' := LG (uZ z 1 ((z 1) + ((x2 - x2 / 10 * 10) * (sF 1 (ix x5))))) (uA f 3 (upd (f 3) (ix x5) (x2 - x2 / 10 * 10)))) 1 (bc18_35_21 call o1 (x2 / 10) (x3 + 1) (x4 + 0) (x5 + (-1)) (x2 - x2 / 10 * 10) _) ?_
          exact H
        · have H := H.2 (cI1f q5)
          refine rc_b (i' := 66) (ls' := [some (vR 1), o1, some (vI (x2 / 10)), some (vI (x3 + 1)), some (vI (x4 + 1)), some (vI x5), some (vI (x2 - x2 / 10 * 10))]) (st' := []) (L' := LG (uZ z 1 ((z 1) + ((x2 - x2 / 10 * 10) * (sF 1 (ix x5))))) (uA f 3 (upd (f 3) (ix x5) (x2 - x2 / 10 * 10)))) 4 (bc18_35_22 call o1 (x2 / 10) (x3 + 1) x4 x5 (x2 - x2 / 10 * 10) x4 _) ?_
          refine rc_b (i' := 67) (ls' := [some (vR 1), o1, some (vI (x2 / 10)), some (vI (x3 + 1)), some (vI (x4 + 1)), some (vI (x5 + (-1))), some (vI (x2 - x2 / 10 * 10))]) (st' := []) (L' := LG (uZ z 1 ((z 1) + ((x2 - x2 / 10 * 10) * (sF 1 (ix x5))))) (uA f 3 (upd (f 3) (ix x5) (x2 - x2 / 10 * 10)))) 1 (bc18_35_20 call o1 (x2 / 10) (x3 + 1) (x4 + 1) x5 (x2 - x2 / 10 * 10) _) ?_
          refine rc_b (i' := 18) (ls' := [some (vR 1), o1, some (vI (x2 / 10)), some (vI (x3 + 1)), some (vI (x4 + 1)), some (vI (x5 + (-1))), some (vI (x2 - x2 / 10 * 10))]) (st' := []) (L' := LG (uZ z 1 ((z 1) + ((x2 - x2 / 10 * 10) * (sF 1 (ix x5))))) (uA f 3 (upd (f 3) (ix x5) (x2 - x2 / 10 * 10)))) 1 (bc18_35_21 call o1 (x2 / 10) (x3 + 1) (x4 + 1) (x5 + (-1)) (x2 - x2 / 10 * 10) _) ?_
          exact H
    · have H := H.2 (cI5f q2 rfl rfl)
      refine rc_b (i' := 32) (ls' := [some (vR 1), o1, some (vI (x2 / 10)), some (vI x3), some (vI x4), some (vI x5), some (vI (x2 - x2 / 10 * 10))]) (st' := [vI 0]) (L' := LG z f) 1 (bc18_35_24 call o1 (x2 / 10) x3 x4 x5 (x2 - x2 / 10 * 10) _) ?_
      subst H
      exact rc_ret (bc18_35_25 call _ _)
set_option maxRecDepth 100000 in
theorem bc68_35_1 (call : QC FA) (o1 : Option PV) (o2 : Option PV) (x3 : Int32) (x4 : Int32) (o5 : Option PV) (o6 : Option PV) (L : QH FA) (F : Nat) : rnG call 35 (F + 4) 68 [some (vR 1), o1, o2, some (vI x3), some (vI x4), o5, o6] [] L = rnG call 35 F 72 [some (vR 1), o1, o2, some (vI x3), some (vI x4), o5, o6] [vI (x3 + x4), vR 1] L := rfl
set_option maxRecDepth 100000 in
theorem bc68_35_2 (call : QC FA) (y : Int32) (ls : List (Option PV)) (z : Nat → Int32) (f : Nat → FA) (F : Nat) : rnG call 35 (F + 1) 72 ls [vI y, vR 1] (LG z f) = rnG call 35 F 73 ls [] (LG (uZ z 2 y) f) := rfl
set_option maxRecDepth 100000 in
theorem bc68_35_3 (call : QC FA) (o1 : Option PV) (o2 : Option PV) (x3 : Int32) (x4 : Int32) (o5 : Option PV) (o6 : Option PV) (L : QH FA) (F : Nat) : rnG call 35 (F + 2) 73 [some (vR 1), o1, o2, some (vI x3), some (vI x4), o5, o6] [] L = rnG call 35 F 75 [some (vR 1), o1, o2, some (vI x3), some (vI x4), o5, o6] [vI x4, vI x3] L := rfl
set_option maxRecDepth 100000 in
theorem bc68_35_4 (call : QC FA) (x y : Int32) (ls : List (Option PV)) (L : QH FA) (F : Nat) : rnG call 35 (F + 1) 75 ls [vI y, vI x] L = bif pcmp 0 x y then rnG call 35 F 81 ls [] L else rnG call 35 F 76 ls [] L := rfl
set_option maxRecDepth 100000 in
theorem bc68_35_5 (call : QC FA) (o1 : Option PV) (o2 : Option PV) (x3 : Int32) (x4 : Int32) (o5 : Option PV) (o6 : Option PV) (L : QH FA) (F : Nat) : rnG call 35 (F + 2) 81 [some (vR 1), o1, o2, some (vI x3), some (vI x4), o5, o6] [] L = rnG call 35 F 83 [some (vR 1), o1, o2, some (vI x3), some (vI x4), o5, o6] [vI 1, vR 1] L := rfl
set_option maxRecDepth 100000 in
theorem bc68_35_6 (call : QC FA) (a0 : Int32) (ls : List (Option PV)) (z : Nat → Int32) (f : Nat → FA) (F : Nat) : rnG call 35 (F + 1) 83 ls [vI a0, vR 1] (LG z f) = cbd (call 36 [vR 1, vI a0] (LG z f)) (fun r L' => rnG call 35 F 84 ls (r.toList ++ []) L') := pcY (ih := rnG call 35 F) (call := call) (a := 36) (b := 1) (v := 2) (t := 84) (x := 1) (ls := ls) (As := [vI a0]) (st' := []) (L := LG z f) rfl rfl rfl
set_option maxRecDepth 100000 in
theorem bc68_35_7 (call : QC FA) (x : Int32) (ls : List (Option PV)) (L : QH FA) (F : Nat) : rnG call 35 (F + 1) 84 ls [vI x] L = bif pcmp 0 x 0 then rnG call 35 F 89 ls [] L else rnG call 35 F 85 ls [] L := rfl
set_option maxRecDepth 100000 in
theorem bc68_35_8 (call : QC FA) (o1 : Option PV) (o2 : Option PV) (x3 : Int32) (x4 : Int32) (o5 : Option PV) (o6 : Option PV) (L : QH FA) (F : Nat) : rnG call 35 (F + 2) 89 [some (vR 1), o1, o2, some (vI x3), some (vI x4), o5, o6] [] L = rnG call 35 F 92 [some (vR 1), o1, o2, some (vI x3), some (vI x4), o5, o6] [vI 1] L := rfl
set_option maxRecDepth 100000 in
theorem bc68_35_9 (call : QC FA) (ls : List (Option PV)) (L : QH FA) (F : Nat) : rnG call 35 (F + 1) 92 ls [vI 1] L = some (some (vI 1), L) := rfl
set_option maxRecDepth 100000 in
theorem bc68_35_10 (call : QC FA) (o1 : Option PV) (o2 : Option PV) (x3 : Int32) (x4 : Int32) (o5 : Option PV) (o6 : Option PV) (L : QH FA) (F : Nat) : rnG call 35 (F + 2) 85 [some (vR 1), o1, o2, some (vI x3), some (vI x4), o5, o6] [] L = rnG call 35 F 87 [some (vR 1), o1, o2, some (vI x3), some (vI x4), o5, o6] [vI 2, vR 1] L := rfl
set_option maxRecDepth 100000 in
theorem bc68_35_11 (call : QC FA) (a0 : Int32) (ls : List (Option PV)) (z : Nat → Int32) (f : Nat → FA) (F : Nat) : rnG call 35 (F + 1) 87 ls [vI a0, vR 1] (LG z f) = cbd (call 36 [vR 1, vI a0] (LG z f)) (fun r L' => rnG call 35 F 88 ls (r.toList ++ []) L') := pcY (ih := rnG call 35 F) (call := call) (a := 36) (b := 1) (v := 2) (t := 88) (x := 1) (ls := ls) (As := [vI a0]) (st' := []) (L := LG z f) rfl rfl rfl
set_option maxRecDepth 100000 in
theorem bc68_35_12 (call : QC FA) (x : Int32) (ls : List (Option PV)) (L : QH FA) (F : Nat) : rnG call 35 (F + 1) 88 ls [vI x] L = bif pcmp 1 x 0 then rnG call 35 F 91 ls [] L else rnG call 35 F 89 ls [] L := rfl
set_option maxRecDepth 100000 in
theorem bc68_35_13 (call : QC FA) (o1 : Option PV) (o2 : Option PV) (x3 : Int32) (x4 : Int32) (o5 : Option PV) (o6 : Option PV) (L : QH FA) (F : Nat) : rnG call 35 (F + 1) 91 [some (vR 1), o1, o2, some (vI x3), some (vI x4), o5, o6] [] L = rnG call 35 F 92 [some (vR 1), o1, o2, some (vI x3), some (vI x4), o5, o6] [vI 0] L := rfl
set_option maxRecDepth 100000 in
theorem bc68_35_14 (call : QC FA) (ls : List (Option PV)) (L : QH FA) (F : Nat) : rnG call 35 (F + 1) 92 ls [vI 0] L = some (some (vI 0), L) := rfl
set_option maxRecDepth 100000 in
theorem bc68_35_15 (call : QC FA) (o1 : Option PV) (o2 : Option PV) (x3 : Int32) (x4 : Int32) (o5 : Option PV) (o6 : Option PV) (L : QH FA) (F : Nat) : rnG call 35 (F + 4) 76 [some (vR 1), o1, o2, some (vI x3), some (vI x4), o5, o6] [] L = rnG call 35 F 80 [some (vR 1), o1, o2, some (vI x3), some (vI x4), o5, o6] [vI (x4 + 1), vI x3] L := rfl
set_option maxRecDepth 100000 in
theorem bc68_35_16 (call : QC FA) (x y : Int32) (ls : List (Option PV)) (L : QH FA) (F : Nat) : rnG call 35 (F + 1) 80 ls [vI y, vI x] L = bif pcmp 1 x y then rnG call 35 F 91 ls [] L else rnG call 35 F 81 ls [] L := rfl
theorem vcc68_35_68 (call : QC FA) (o1 : Option PV) (o2 : Option PV) (x3 : Int32) (x4 : Int32) (o5 : Option PV) (o6 : Option PV) (z : Nat → Int32) (f : Nat → FA) (res : Option PV × QH FA) (H : ((x3 = x4 → (∃ (r1 : Int32) (z1 : Nat → Int32) (f1 : Nat → FA), call 36 [vR 1, vI 1] (LG (uZ z 2 (x3 + x4)) f) = some (some (vI r1), LG z1 f1) ∧ ((r1 = 0 → res = (some (vI 1), LG z1 f1)) ∧ (¬ r1 = 0 → (∃ (r2 : Int32) (z2 : Nat → Int32) (f2 : Nat → FA), call 36 [vR 1, vI 2] (LG z1 f1) = some (some (vI r2), LG z2 f2) ∧ ((¬ r2 = 0 → res = (some (vI 0), LG z2 f2)) ∧ (r2 = 0 → res = (some (vI 1), LG z2 f2)))))))) ∧ (¬ x3 = x4 → ((¬ x3 = x4 + 1 → res = (some (vI 0), LG (uZ z 2 (x3 + x4)) f)) ∧ (x3 = x4 + 1 → (∃ (r3 : Int32) (z3 : Nat → Int32) (f3 : Nat → FA), call 36 [vR 1, vI 1] (LG (uZ z 2 (x3 + x4)) f) = some (some (vI r3), LG z3 f3) ∧ ((r3 = 0 → res = (some (vI 1), LG z3 f3)) ∧ (¬ r3 = 0 → (∃ (r4 : Int32) (z4 : Nat → Int32) (f4 : Nat → FA), call 36 [vR 1, vI 2] (LG z3 f3) = some (some (vI r4), LG z4 f4) ∧ ((¬ r4 = 0 → res = (some (vI 0), LG z4 f4)) ∧ (r4 = 0 → res = (some (vI 1), LG z4 f4)))))))))))) : RC call (mP 35) 68 [some (vR 1), o1, o2, some (vI x3), some (vI x4), o5, o6] [] (LG z f) res := by
  refine rc_b (i' := 72) (ls' := [some (vR 1), o1, o2, some (vI x3), some (vI x4), o5, o6]) (st' := [vI (x3 + x4), vR 1]) (L' := LG z f) 4 (bc68_35_1 call o1 o2 x3 x4 o5 o6 _) ?_
  refine rc_b (i' := 73) (ls' := [some (vR 1), o1, o2, some (vI x3), some (vI x4), o5, o6]) (st' := []) (L' := LG (uZ z 2 (x3 + x4)) f) 1 (bc68_35_2 call (x3 + x4) _ z f) ?_
  refine rc_b (i' := 75) (ls' := [some (vR 1), o1, o2, some (vI x3), some (vI x4), o5, o6]) (st' := [vI x4, vI x3]) (L' := LG (uZ z 2 (x3 + x4)) f) 2 (bc68_35_3 call o1 o2 x3 x4 o5 o6 _) ?_
  refine rc_if (it := 81) (ie := 76) (ls' := [some (vR 1), o1, o2, some (vI x3), some (vI x4), o5, o6]) (st' := []) (bc68_35_4 call x3 x4 _ _) (fun q1 => ?_) (fun q1 => ?_)
  · have H := H.1 (cI0t q1)
    refine rc_b (i' := 83) (ls' := [some (vR 1), o1, o2, some (vI x3), some (vI x4), o5, o6]) (st' := [vI 1, vR 1]) (L' := LG (uZ z 2 (x3 + x4)) f) 2 (bc68_35_5 call o1 o2 x3 x4 o5 o6 _) ?_
    obtain ⟨r1, z1, f1, hc, H⟩ := H
    refine rc_call (t := 84) (ls' := [some (vR 1), o1, o2, some (vI x3), some (vI x4), o5, o6]) (st' := []) (bc68_35_6 call 1 _ (uZ z 2 (x3 + x4)) f) hc ?_
    show RC call (mP 35) 84 [some (vR 1), o1, o2, some (vI x3), some (vI x4), o5, o6] [vI r1] (LG z1 f1) res
    refine rc_if (it := 89) (ie := 85) (ls' := [some (vR 1), o1, o2, some (vI x3), some (vI x4), o5, o6]) (st' := []) (bc68_35_7 call r1 _ _) (fun q2 => ?_) (fun q2 => ?_)
    · have H := H.1 (cI0t q2)
      refine rc_b (i' := 92) (ls' := [some (vR 1), o1, o2, some (vI x3), some (vI x4), o5, o6]) (st' := [vI 1]) (L' := LG z1 f1) 2 (bc68_35_8 call o1 o2 x3 x4 o5 o6 _) ?_
      subst H
      exact rc_ret (bc68_35_9 call _ _)
    · have H := H.2 (cI0f q2)
      refine rc_b (i' := 87) (ls' := [some (vR 1), o1, o2, some (vI x3), some (vI x4), o5, o6]) (st' := [vI 2, vR 1]) (L' := LG z1 f1) 2 (bc68_35_10 call o1 o2 x3 x4 o5 o6 _) ?_
      obtain ⟨r2, z2, f2, hc, H⟩ := H
      refine rc_call (t := 88) (ls' := [some (vR 1), o1, o2, some (vI x3), some (vI x4), o5, o6]) (st' := []) (bc68_35_11 call 2 _ z1 f1) hc ?_
      show RC call (mP 35) 88 [some (vR 1), o1, o2, some (vI x3), some (vI x4), o5, o6] [vI r2] (LG z2 f2) res
      refine rc_if (it := 91) (ie := 89) (ls' := [some (vR 1), o1, o2, some (vI x3), some (vI x4), o5, o6]) (st' := []) (bc68_35_12 call r2 _ _) (fun q3 => ?_) (fun q3 => ?_)
      · have H := H.1 (cI1t q3)
        refine rc_b (i' := 92) (ls' := [some (vR 1), o1, o2, some (vI x3), some (vI x4), o5, o6]) (st' := [vI 0]) (L' := LG z2 f2) 1 (bc68_35_13 call o1 o2 x3 x4 o5 o6 _) ?_
        subst H
        exact rc_ret (bc68_35_14 call _ _)
      · have H := H.2 (cI1f q3)
        refine rc_b (i' := 92) (ls' := [some (vR 1), o1, o2, some (vI x3), some (vI x4), o5, o6]) (st' := [vI 1]) (L' := LG z2 f2) 2 (bc68_35_8 call o1 o2 x3 x4 o5 o6 _) ?_
        subst H
        exact rc_ret (bc68_35_9 call _ _)
  · have H := H.2 (cI0f q1)
    refine rc_b (i' := 80) (ls' := [some (vR 1), o1, o2, some (vI x3), some (vI x4), o5, o6]) (st' := [vI (x4 + 1), vI x3]) (L' := LG (uZ z 2 (x3 + x4)) f) 4 (bc68_35_15 call o1 o2 x3 x4 o5 o6 _) ?_
    refine rc_if (it := 91) (ie := 81) (ls' := [some (vR 1), o1, o2, some (vI x3), some (vI x4), o5, o6]) (st' := []) (bc68_35_16 call x3 (x4 + 1) _ _) (fun q4 => ?_) (fun q4 => ?_)
    · have H := H.1 (cI1t q4)
      refine rc_b (i' := 92) (ls' := [some (vR 1), o1, o2, some (vI x3), some (vI x4), o5, o6]) (st' := [vI 0]) (L' := LG (uZ z 2 (x3 + x4)) f) 1 (bc68_35_13 call o1 o2 x3 x4 o5 o6 _) ?_
      subst H
      exact rc_ret (bc68_35_14 call _ _)
    · have H := H.2 (cI1f q4)
      refine rc_b (i' := 83) (ls' := [some (vR 1), o1, o2, some (vI x3), some (vI x4), o5, o6]) (st' := [vI 1, vR 1]) (L' := LG (uZ z 2 (x3 + x4)) f) 2 (bc68_35_5 call o1 o2 x3 x4 o5 o6 _) ?_
      obtain ⟨r3, z3, f3, hc, H⟩ := H
      refine rc_call (t := 84) (ls' := [some (vR 1), o1, o2, some (vI x3), some (vI x4), o5, o6]) (st' := []) (bc68_35_6 call 1 _ (uZ z 2 (x3 + x4)) f) hc ?_
      show RC call (mP 35) 84 [some (vR 1), o1, o2, some (vI x3), some (vI x4), o5, o6] [vI r3] (LG z3 f3) res
      refine rc_if (it := 89) (ie := 85) (ls' := [some (vR 1), o1, o2, some (vI x3), some (vI x4), o5, o6]) (st' := []) (bc68_35_7 call r3 _ _) (fun q5 => ?_) (fun q5 => ?_)
      · have H := H.1 (cI0t q5)
        refine rc_b (i' := 92) (ls' := [some (vR 1), o1, o2, some (vI x3), some (vI x4), o5, o6]) (st' := [vI 1]) (L' := LG z3 f3) 2 (bc68_35_8 call o1 o2 x3 x4 o5 o6 _) ?_
        subst H
        exact rc_ret (bc68_35_9 call _ _)
      · have H := H.2 (cI0f q5)
        refine rc_b (i' := 87) (ls' := [some (vR 1), o1, o2, some (vI x3), some (vI x4), o5, o6]) (st' := [vI 2, vR 1]) (L' := LG z3 f3) 2 (bc68_35_10 call o1 o2 x3 x4 o5 o6 _) ?_
        obtain ⟨r4, z4, f4, hc, H⟩ := H
        refine rc_call (t := 88) (ls' := [some (vR 1), o1, o2, some (vI x3), some (vI x4), o5, o6]) (st' := []) (bc68_35_11 call 2 _ z3 f3) hc ?_
        show RC call (mP 35) 88 [some (vR 1), o1, o2, some (vI x3), some (vI x4), o5, o6] [vI r4] (LG z4 f4) res
        refine rc_if (it := 91) (ie := 89) (ls' := [some (vR 1), o1, o2, some (vI x3), some (vI x4), o5, o6]) (st' := []) (bc68_35_12 call r4 _ _) (fun q6 => ?_) (fun q6 => ?_)
        · have H := H.1 (cI1t q6)
          refine rc_b (i' := 92) (ls' := [some (vR 1), o1, o2, some (vI x3), some (vI x4), o5, o6]) (st' := [vI 0]) (L' := LG z4 f4) 1 (bc68_35_13 call o1 o2 x3 x4 o5 o6 _) ?_
          subst H
          exact rc_ret (bc68_35_14 call _ _)
        · have H := H.2 (cI1f q6)
          refine rc_b (i' := 92) (ls' := [some (vR 1), o1, o2, some (vI x3), some (vI x4), o5, o6]) (st' := [vI 1]) (L' := LG z4 f4) 2 (bc68_35_8 call o1 o2 x3 x4 o5 o6 _) ?_
          subst H
          exact rc_ret (bc68_35_9 call _ _)
theorem c_l68 (d0 : Nat) (o1 o2 o5 o6 : Option PV) (u w : Nat) (hu : u ≤ 9) (hw : w ≤ 9) (z : Nat → Int32) (f : Nat → FA) : ∃ r z', RC (mcall (d0 + 1)) (mP 35) 68 [some (vR 1), o1, o2, some (vI (nI u)), some (vI (nI w)), o5, o6] [] (LG z f) (some (vI r), LG z' f) ∧ z' 0 = z 0 ∧ z' 2 = nI (u + w) := by
  have e : nI u + nI w = nI (u + w) := nI_add u w
  have go : ∀ res, _ → RC (mcall (d0 + 1)) (mP 35) 68 [some (vR 1), o1, o2, some (vI (nI u)), some (vI (nI w)), o5, o6] [] (LG z f) res := fun res H => vcc68_35_68 (mcall (d0 + 1)) o1 o2 (nI u) (nI w) o5 o6 z f res H
  rw [e] at go
  obtain ⟨r1, h1⟩ := c_hasThree d0 1 (uZ z 2 (nI (u + w))) f
  obtain ⟨r2, h2⟩ := c_hasThree d0 2 (uZ z 2 (nI (u + w))) f
  have f0 : uZ z 2 (nI (u + w)) 0 = z 0 := uZ_n (by decide)
  have f2 : uZ z 2 (nI (u + w)) 2 = nI (u + w) := uZ_s
  by_cases c1 : nI u = nI w
  · by_cases c2 : r1 = 0
    · exact ⟨1, _, go _ ⟨fun _ => ⟨r1, _, f, h1, fun _ => rfl, fun q => absurd c2 q⟩, fun q => absurd c1 q⟩, f0, f2⟩
    · by_cases c3 : r2 = 0
      · exact ⟨1, _, go _ ⟨fun _ => ⟨r1, _, f, h1, fun q => absurd q c2, fun _ => ⟨r2, _, f, h2, fun q => absurd c3 q, fun _ => rfl⟩⟩, fun q => absurd c1 q⟩, f0, f2⟩
      · exact ⟨0, _, go _ ⟨fun _ => ⟨r1, _, f, h1, fun q => absurd q c2, fun _ => ⟨r2, _, f, h2, fun _ => rfl, fun q => absurd q c3⟩⟩, fun q => absurd c1 q⟩, f0, f2⟩
  · by_cases c4 : nI u = nI w + 1
    · by_cases c2 : r1 = 0
      · exact ⟨1, _, go _ ⟨fun q => absurd q c1, fun _ => ⟨fun q => absurd c4 q, fun _ => ⟨r1, _, f, h1, fun _ => rfl, fun q => absurd c2 q⟩⟩⟩, f0, f2⟩
      · by_cases c3 : r2 = 0
        · exact ⟨1, _, go _ ⟨fun q => absurd q c1, fun _ => ⟨fun q => absurd c4 q, fun _ => ⟨r1, _, f, h1, fun q => absurd q c2, fun _ => ⟨r2, _, f, h2, fun q => absurd c3 q, fun _ => rfl⟩⟩⟩⟩, f0, f2⟩
        · exact ⟨0, _, go _ ⟨fun q => absurd q c1, fun _ => ⟨fun q => absurd c4 q, fun _ => ⟨r1, _, f, h1, fun q => absurd q c2, fun _ => ⟨r2, _, f, h2, fun _ => rfl, fun q => absurd q c3⟩⟩⟩⟩, f0, f2⟩
    · exact ⟨0, _, go _ ⟨fun q => absurd q c1, fun _ => ⟨fun _ => rfl, fun q => absurd q c4⟩⟩, f0, f2⟩
theorem c_l18 (d0 : Nat) (o1 : Option PV) : ∀ m, m ≤ 9 → ∀ (c u w : Nat) (o6 : Option PV) z f, c < 2147483648 → u ≤ 9 - m → w ≤ 9 - m → ∃ r z' f', RC (mcall (d0 + 1)) (mP 35) 18 [some (vR 1), o1, some (vI (nI c)), some (vI (nI u)), some (vI (nI w)), some (vI (kx m)), o6] [] (LG z f) (some (vI r), LG z' f') ∧ z' 0 = z 0 ∧ (r = 0 ∨ ∃ n, n ≤ 18 ∧ z' 2 = nI n) := by
  intro m
  induction m with
  | zero =>
    intro _ c u w o6 z f hc hu hw
    obtain ⟨r, z', h1, h2, h3⟩ := c_l68 d0 o1 (some (vI (nI c))) (some (vI (kx 0))) o6 u w (by omega) (by omega) z f
    exact ⟨r, z', f, vcc18_35_18 _ _ _ _ _ _ _ _ _ _ ⟨fun _ => h1, fun q => absurd q (by decide)⟩, h2, Or.inr ⟨u + w, by omega, h3⟩⟩
  | succ m ih =>
    intro hm c u w o6 z f hc hu hw
    have go : ∀ res, _ → RC (mcall (d0 + 1)) (mP 35) 18 [some (vR 1), o1, some (vI (nI c)), some (vI (nI u)), some (vI (nI w)), some (vI (kx (m + 1))), o6] [] (LG z f) res := fun res H => vcc18_35_18 (mcall (d0 + 1)) o1 (nI c) (nI u) (nI w) (kx (m + 1)) o6 z f res H
    have er : nI c - nI c / 10 * 10 = nI (c % 10) := nrem (x := nI c) (y := 10) (a := c) (b := 10) rfl (by omega) (by omega) (by omega) rfl
    have ed : nI c / 10 = nI (c / 10) := ndiv (x := nI c) (y := 10) (a := c) (b := 10) rfl (by omega) (by omega) (by omega) rfl
    have u0 : nI u + 0 = nI u := nI_add u 0
    have w0 : nI w + 0 = nI w := nI_add w 0
    have u1 : nI u + 1 = nI (u + 1) := nI_add u 1
    have w1 : nI w + 1 = nI (w + 1) := nI_add w 1
    rw [er, ed, u0, w0, u1, w1, kx_s, I_nI (n := m) (by omega), I_nI (n := c % 10) (by omega), kx_d (by omega)] at go
    rw [kx_s]
    have t10 : ¬ (10 : Int32) = 0 := by decide
    by_cases c1 : c % 10 ≤ 2
    · have key : ∀ u' w', u' ≤ u + 1 → w' ≤ w + 1 → ∃ r z' f', RC (mcall (d0 + 1)) (mP 35) 18 [some (vR 1), o1, some (vI (nI (c / 10))), some (vI (nI u')), some (vI (nI w')), some (vI (kx m)), some (vI (nI (c % 10)))] [] (LG (uZ z 1 (z 1 + nI (c % 10) * sF 1 (ix (nI m)))) (uA f 3 (upd (f 3) (ix (nI m)) (nI (c % 10))))) (some (vI r), LG z' f') ∧ z' 0 = z 0 ∧ (r = 0 ∨ ∃ n, n ≤ 18 ∧ z' 2 = nI n) := by
        intro u' w' q1 q2
        obtain ⟨r, z', f', h1, h2, h3⟩ := ih (by omega) (c / 10) u' w' (some (vI (nI (c % 10)))) (uZ z 1 (z 1 + nI (c % 10) * sF 1 (ix (nI m)))) (uA f 3 (upd (f 3) (ix (nI m)) (nI (c % 10)))) (by omega) (by omega) (by omega)
        exact ⟨r, z', f', h1, h2.trans (uZ_n (by decide)), h3⟩
      by_cases c2 : nI (c % 10) = 1
      · have c3 : ¬ nI (c % 10) = 2 := by rw [c2]; decide
        obtain ⟨r, z', f', h1, h2⟩ := key (u + 1) w (by omega) (by omega)
        exact ⟨r, z', f', go _ ⟨fun q => by omega, fun _ => ⟨t10, t10, fun _ => ⟨pin_nI (by omega) (by omega), pin_nI (by omega) (by omega), fun q => absurd c2 q, fun _ => ⟨fun _ => h1, fun q => absurd q c3⟩⟩, fun q => by omega⟩⟩, h2⟩
      · by_cases c3 : nI (c % 10) = 2
        · obtain ⟨r, z', f', h1, h2⟩ := key u (w + 1) (by omega) (by omega)
          exact ⟨r, z', f', go _ ⟨fun q => by omega, fun _ => ⟨t10, t10, fun _ => ⟨pin_nI (by omega) (by omega), pin_nI (by omega) (by omega), fun _ => ⟨fun q => absurd c3 q, fun _ => h1⟩, fun q => absurd q c2⟩, fun q => by omega⟩⟩, h2⟩
        · obtain ⟨r, z', f', h1, h2⟩ := key u w (by omega) (by omega)
          exact ⟨r, z', f', go _ ⟨fun q => by omega, fun _ => ⟨t10, t10, fun _ => ⟨pin_nI (by omega) (by omega), pin_nI (by omega) (by omega), fun _ => ⟨fun _ => h1, fun q => absurd q c3⟩, fun q => absurd q c2⟩, fun q => by omega⟩⟩, h2⟩
    · exact ⟨0, z, f, go _ ⟨fun q => by omega, fun _ => ⟨t10, t10, fun q => by omega, fun _ => rfl⟩⟩, rfl, Or.inl rfl⟩
theorem c_lay (d0 : Nat) (x : Int32) (z : Nat → Int32) (f : Nat → FA) : ∃ r z' f', mcall (d0 + 2) 35 [vR 1, vI x] (LG z f) = some (some (vI r), LG z' f') ∧ z' 0 = z 0 ∧ (r = 0 ∨ ∃ n, n ≤ 18 ∧ z' 2 = nI n) := by
  have go : ∀ res, _ → mcall (d0 + 2) 35 [vR 1, vI x] (LG z f) = some res := fun res H => mcall_i (mq35 (cu := [])).2.2 rfl (vc35_0 (mcall (d0 + 1)) x none none none none none z f res H)
  by_cases c1 : I x < 0
  · exact ⟨0, z, f, go _ ⟨fun _ => rfl, fun q => by omega⟩, rfl, Or.inl rfl⟩
  · by_cases c2 : I x ≤ 222222222
    · obtain ⟨c, e1, e2, e3⟩ := nI_ofI (x := x) (by omega)
      subst e1
      obtain ⟨r, z', f', h1, h2, h3⟩ := c_l18 d0 (some (vI (nI c))) 9 (Nat.le_refl _) c 0 0 none (uZ z 1 0) f e2 (by omega) (by omega)
      rw [kx_s] at h1
      exact ⟨r, z', f', go _ ⟨fun q => absurd q c1, fun _ => ⟨fun _ => h1, fun q => by omega⟩⟩, h2.trans (uZ_n (by decide)), h3⟩
    · exact ⟨0, z, f, go _ ⟨fun q => absurd q c1, fun _ => ⟨fun q => absurd q c2, fun _ => rfl⟩⟩, rfl, Or.inl rfl⟩
set_option maxRecDepth 100000 in
theorem b34_1 (call : QC FA) (x1 : Int32) (x2 : Int32) (L : QH FA) (F : Nat) : rnG call 34 (F + 1) 0 [some (vR 0), some (vI x1), some (vI x2)] [] L = rnG call 34 F 1 [some (vR 0), some (vI x1), some (vI x2)] [vI x2] L := rfl
set_option maxRecDepth 100000 in
theorem b34_2 (call : QC FA) (x : Int32) (ls : List (Option PV)) (L : QH FA) (F : Nat) : rnG call 34 (F + 1) 1 ls [vI x] L = bif pcmp 2 x 0 then rnG call 34 F 10 ls [] L else rnG call 34 F 2 ls [] L := rfl
set_option maxRecDepth 100000 in
theorem b34_3 (call : QC FA) (x1 : Int32) (x2 : Int32) (L : QH FA) (F : Nat) : rnG call 34 (F + 1) 10 [some (vR 0), some (vI x1), some (vI x2)] [] L = rnG call 34 F 11 [some (vR 0), some (vI x1), some (vI x2)] [vI ((-10))] L := rfl
set_option maxRecDepth 100000 in
theorem b34_4 (call : QC FA) (x : Int32) (ls : List (Option PV)) (L : QH FA) (F : Nat) : rnG call 34 (F + 1) 11 ls [vI x] L = some (some (vI x), L) := rfl
set_option maxRecDepth 100000 in
theorem b34_5 (call : QC FA) (x1 : Int32) (x2 : Int32) (L : QH FA) (F : Nat) : rnG call 34 (F + 2) 2 [some (vR 0), some (vI x1), some (vI x2)] [] L = rnG call 34 F 4 [some (vR 0), some (vI x1), some (vI x2)] [vI 1, vI x2] L := rfl
set_option maxRecDepth 100000 in
theorem b34_6 (call : QC FA) (x y : Int32) (ls : List (Option PV)) (L : QH FA) (F : Nat) : rnG call 34 (F + 1) 4 ls [vI y, vI x] L = bif pcmp 4 x y then rnG call 34 F 10 ls [] L else rnG call 34 F 5 ls [] L := rfl
set_option maxRecDepth 100000 in
theorem b34_7 (call : QC FA) (x1 : Int32) (x2 : Int32) (z : Nat → Int32) (f : Nat → FA) (F : Nat) : rnG call 34 (F + 3) 5 [some (vR 0), some (vI x1), some (vI x2)] [] (LG z f) = rnG call 34 F 8 [some (vR 0), some (vI x1), some (vI x2)] [vI x1, vR 1] (LG z f) := rfl
set_option maxRecDepth 100000 in
theorem b34_8 (call : QC FA) (a0 : Int32) (ls : List (Option PV)) (z : Nat → Int32) (f : Nat → FA) (F : Nat) : rnG call 34 (F + 1) 8 ls [vI a0, vR 1] (LG z f) = cbd (call 35 [vR 1, vI a0] (LG z f)) (fun r L' => rnG call 34 F 9 ls (r.toList ++ []) L') := pcY (ih := rnG call 34 F) (call := call) (a := 35) (b := 1) (v := 2) (t := 9) (x := 1) (ls := ls) (As := [vI a0]) (st' := []) (L := LG z f) rfl rfl rfl
set_option maxRecDepth 100000 in
theorem b34_9 (call : QC FA) (x : Int32) (ls : List (Option PV)) (L : QH FA) (F : Nat) : rnG call 34 (F + 1) 9 ls [vI x] L = bif pcmp 1 x 0 then rnG call 34 F 12 ls [] L else rnG call 34 F 10 ls [] L := rfl
set_option maxRecDepth 100000 in
theorem b34_10 (call : QC FA) (x1 : Int32) (x2 : Int32) (L : QH FA) (F : Nat) : rnG call 34 (F + 1) 12 [some (vR 0), some (vI x1), some (vI x2)] [] L = rnG call 34 F 13 [some (vR 0), some (vI x1), some (vI x2)] [vI x2] L := rfl
set_option maxRecDepth 100000 in
theorem b34_11 (call : QC FA) (x : Int32) (ls : List (Option PV)) (L : QH FA) (F : Nat) : rnG call 34 (F + 1) 13 ls [vI x] L = bif pcmp 1 x 0 then rnG call 34 F 18 ls [] L else rnG call 34 F 14 ls [] L := rfl
set_option maxRecDepth 100000 in
theorem b34_12 (call : QC FA) (x1 : Int32) (x2 : Int32) (z : Nat → Int32) (f : Nat → FA) (F : Nat) : rnG call 34 (F + 2) 18 [some (vR 0), some (vI x1), some (vI x2)] [] (LG z f) = rnG call 34 F 20 [some (vR 0), some (vI x1), some (vI x2)] [vR 1] (LG z f) := rfl
set_option maxRecDepth 100000 in
theorem b34_13 (call : QC FA) (ls : List (Option PV)) (z : Nat → Int32) (f : Nat → FA) (F : Nat) : rnG call 34 (F + 1) 20 ls [vR 1] (LG z f) = cbd (call 43 [vR 1] (LG z f)) (fun r L' => rnG call 34 F 21 ls (r.toList ++ []) L') := pcY (ih := rnG call 34 F) (call := call) (a := 43) (b := 0) (v := 2) (t := 21) (x := 1) (ls := ls) (As := []) (st' := []) (L := LG z f) rfl rfl rfl
set_option maxRecDepth 100000 in
theorem b34_14 (call : QC FA) (x : Int32) (ls : List (Option PV)) (L : QH FA) (F : Nat) : rnG call 34 (F + 1) 21 ls [vI x] L = some (some (vI x), L) := rfl
set_option maxRecDepth 100000 in
theorem b34_15 (call : QC FA) (x1 : Int32) (x2 : Int32) (z : Nat → Int32) (f : Nat → FA) (F : Nat) : rnG call 34 (F + 2) 14 [some (vR 0), some (vI x1), some (vI x2)] [] (LG z f) = rnG call 34 F 16 [some (vR 0), some (vI x1), some (vI x2)] [vR 1] (LG z f) := rfl
set_option maxRecDepth 100000 in
theorem b34_16 (call : QC FA) (ls : List (Option PV)) (z : Nat → Int32) (f : Nat → FA) (F : Nat) : rnG call 34 (F + 1) 16 ls [vR 1] (LG z f) = cbd (call 37 [vR 1] (LG z f)) (fun r L' => rnG call 34 F 17 ls (r.toList ++ []) L') := pcY (ih := rnG call 34 F) (call := call) (a := 37) (b := 0) (v := 2) (t := 17) (x := 1) (ls := ls) (As := []) (st' := []) (L := LG z f) rfl rfl rfl
set_option maxRecDepth 100000 in
theorem b34_17 (call : QC FA) (x1 : Int32) (x2 : Int32) (s0 : Int32) (L : QH FA) (F : Nat) : rnG call 34 (F + 1) 17 [some (vR 0), some (vI x1), some (vI x2)] [vI s0] L = rnG call 34 F 21 [some (vR 0), some (vI x1), some (vI x2)] [vI s0] L := rfl
theorem vc34_0 (call : QC FA) (x1 : Int32) (x2 : Int32) (z : Nat → Int32) (f : Nat → FA) (res : Option PV × QH FA) (H : ((I x2 < 0 → res = (some (vI ((-10))), LG z f)) ∧ (0 ≤ I x2 → ((1 < I x2 → res = (some (vI ((-10))), LG z f)) ∧ (I x2 ≤ 1 → (∃ (r1 : Int32) (z1 : Nat → Int32) (f1 : Nat → FA), call 35 [vR 1, vI x1] (LG z f) = some (some (vI r1), LG z1 f1) ∧ ((¬ r1 = 0 → ((¬ x2 = 0 → (∃ (r2 : Int32) (z2 : Nat → Int32) (f2 : Nat → FA), call 43 [vR 1] (LG z1 f1) = some (some (vI r2), LG z2 f2) ∧ res = (some (vI r2), LG z2 f2))) ∧ (x2 = 0 → (∃ (r3 : Int32) (z3 : Nat → Int32) (f3 : Nat → FA), call 37 [vR 1] (LG z1 f1) = some (some (vI r3), LG z3 f3) ∧ res = (some (vI r3), LG z3 f3))))) ∧ (r1 = 0 → res = (some (vI ((-10))), LG z1 f1))))))))) : RC call (mP 34) 0 [some (vR 0), some (vI x1), some (vI x2)] [] (LG z f) res := by
  refine rc_b (i' := 1) (ls' := [some (vR 0), some (vI x1), some (vI x2)]) (st' := [vI x2]) (L' := LG z f) 1 (b34_1 call x1 x2 _) ?_
  refine rc_if (it := 10) (ie := 2) (ls' := [some (vR 0), some (vI x1), some (vI x2)]) (st' := []) (b34_2 call x2 _ _) (fun q1 => ?_) (fun q1 => ?_)
  · have H := H.1 (cI2t q1 rfl rfl)
    refine rc_b (i' := 11) (ls' := [some (vR 0), some (vI x1), some (vI x2)]) (st' := [vI ((-10))]) (L' := LG z f) 1 (b34_3 call x1 x2 _) ?_
    subst H
    exact rc_ret (b34_4 call _ _ _)
  · have H := H.2 (cI2f q1 rfl rfl)
    refine rc_b (i' := 4) (ls' := [some (vR 0), some (vI x1), some (vI x2)]) (st' := [vI 1, vI x2]) (L' := LG z f) 2 (b34_5 call x1 x2 _) ?_
    refine rc_if (it := 10) (ie := 5) (ls' := [some (vR 0), some (vI x1), some (vI x2)]) (st' := []) (b34_6 call x2 1 _ _) (fun q2 => ?_) (fun q2 => ?_)
    · have H := H.1 (cI4t q2 rfl rfl)
      refine rc_b (i' := 11) (ls' := [some (vR 0), some (vI x1), some (vI x2)]) (st' := [vI ((-10))]) (L' := LG z f) 1 (b34_3 call x1 x2 _) ?_
      subst H
      exact rc_ret (b34_4 call _ _ _)
    · have H := H.2 (cI4f q2 rfl rfl)
      refine rc_b (i' := 8) (ls' := [some (vR 0), some (vI x1), some (vI x2)]) (st' := [vI x1, vR 1]) (L' := LG z f) 3 (b34_7 call x1 x2 z f) ?_
      obtain ⟨r1, z1, f1, hc, H⟩ := H
      refine rc_call (t := 9) (ls' := [some (vR 0), some (vI x1), some (vI x2)]) (st' := []) (b34_8 call x1 _ z f) hc ?_
      show RC call (mP 34) 9 [some (vR 0), some (vI x1), some (vI x2)] [vI r1] (LG z1 f1) res
      refine rc_if (it := 12) (ie := 10) (ls' := [some (vR 0), some (vI x1), some (vI x2)]) (st' := []) (b34_9 call r1 _ _) (fun q3 => ?_) (fun q3 => ?_)
      · have H := H.1 (cI1t q3)
        refine rc_b (i' := 13) (ls' := [some (vR 0), some (vI x1), some (vI x2)]) (st' := [vI x2]) (L' := LG z1 f1) 1 (b34_10 call x1 x2 _) ?_
        refine rc_if (it := 18) (ie := 14) (ls' := [some (vR 0), some (vI x1), some (vI x2)]) (st' := []) (b34_11 call x2 _ _) (fun q4 => ?_) (fun q4 => ?_)
        · have H := H.1 (cI1t q4)
          refine rc_b (i' := 20) (ls' := [some (vR 0), some (vI x1), some (vI x2)]) (st' := [vR 1]) (L' := LG z1 f1) 2 (b34_12 call x1 x2 z1 f1) ?_
          obtain ⟨r2, z2, f2, hc, H⟩ := H
          refine rc_call (t := 21) (ls' := [some (vR 0), some (vI x1), some (vI x2)]) (st' := []) (b34_13 call _ z1 f1) hc ?_
          show RC call (mP 34) 21 [some (vR 0), some (vI x1), some (vI x2)] [vI r2] (LG z2 f2) res
          subst H
          exact rc_ret (b34_14 call _ _ _)
        · have H := H.2 (cI1f q4)
          refine rc_b (i' := 16) (ls' := [some (vR 0), some (vI x1), some (vI x2)]) (st' := [vR 1]) (L' := LG z1 f1) 2 (b34_15 call x1 x2 z1 f1) ?_
          obtain ⟨r3, z3, f3, hc, H⟩ := H
          refine rc_call (t := 17) (ls' := [some (vR 0), some (vI x1), some (vI x2)]) (st' := []) (b34_16 call _ z1 f1) hc ?_
          show RC call (mP 34) 17 [some (vR 0), some (vI x1), some (vI x2)] [vI r3] (LG z3 f3) res
          refine rc_b (i' := 21) (ls' := [some (vR 0), some (vI x1), some (vI x2)]) (st' := [vI r3]) (L' := LG z3 f3) 1 (b34_17 call x1 x2 r3 _) ?_
          subst H
          exact rc_ret (b34_14 call _ _ _)
      · have H := H.2 (cI1f q3)
        refine rc_b (i' := 11) (ls' := [some (vR 0), some (vI x1), some (vI x2)]) (st' := [vI ((-10))]) (L' := LG z1 f1) 1 (b34_3 call x1 x2 _) ?_
        subst H
        exact rc_ret (b34_4 call _ _ _)
theorem c_game (x y : Int32) (z : Nat → Int32) (f : Nat → FA) : ∃ r z' f', mcall 22 34 [vR 0, vI x, vI y] (LG z f) = some (some (vI r), LG z' f') ∧ z' 0 = z 0 := by
  have go : ∀ res, _ → mcall 22 34 [vR 0, vI x, vI y] (LG z f) = some res := fun res H => mcall_i (mq34 (cu := [])).2.2 rfl (vc34_0 (mcall 21) x y z f res H)
  by_cases c1 : I y < 0
  · exact ⟨-10, z, f, go _ ⟨fun _ => rfl, fun q => by omega⟩, rfl⟩
  · by_cases c2 : 1 < I y
    · exact ⟨-10, z, f, go _ ⟨fun q => absurd q c1, fun _ => ⟨fun _ => rfl, fun q => by omega⟩⟩, rfl⟩
    · obtain ⟨r1, z1, f1, h1, h2, h3⟩ := c_lay 19 x z f
      by_cases c3 : r1 = 0
      · exact ⟨-10, z1, f1, go _ ⟨fun q => absurd q c1, fun _ => ⟨fun q => absurd q c2, fun _ => ⟨r1, z1, f1, h1, fun q => absurd c3 q, fun _ => rfl⟩⟩⟩, h2⟩
      · obtain ⟨n, hn, hz⟩ := h3.resolve_left c3
        by_cases c4 : y = 0
        · obtain ⟨r, f', hr⟩ := c_next n hn z1 f1 hz
          exact ⟨r, z1, f', go _ ⟨fun q => absurd q c1, fun _ => ⟨fun q => absurd q c2, fun _ => ⟨r1, z1, f1, h1, fun _ => ⟨fun q => absurd c4 q, fun _ => ⟨r, z1, f', hr, rfl⟩⟩, fun q => absurd q c3⟩⟩⟩, h2⟩
        · obtain ⟨r, f', hr⟩ := c_first n hn z1 f1 hz
          exact ⟨r, z1, f', go _ ⟨fun q => absurd q c1, fun _ => ⟨fun q => absurd q c2, fun _ => ⟨r1, z1, f1, h1, fun _ => ⟨fun _ => ⟨r, z1, f', hr, rfl⟩, fun q => absurd q c4⟩, fun q => absurd q c3⟩⟩⟩, h2⟩
