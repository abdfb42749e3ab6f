/-! feed, end, fault: both sides alike -/
/-- what tape_pair wants of two runs -/
def TSIM (dc kc dr kr : Nat) (As : List Int32) : Prop := ∀ (n : Nat) (z zr : Nat → Int32) (f r : Nat → FA), n ≤ 400 → z 11 = nI n → zr 12 = nI n → (∀ j, j < n → f 2 j = r 8 j ∧ ¬ r 8 j = -1) → z 17 = zr 32 → z 18 = zr 33 → ∃ v n' z' f' zr' r', n' ≤ 400 ∧ mcall dc kc (vR 0 :: As.map vI) (LM3 z f) = some (some (vI v), LM3 z' f') ∧ mcall dr kr (vR 0 :: As.map vI) (LR zr r) = some (some (vI v), LR zr' r') ∧ z' 11 = nI n' ∧ zr' 12 = nI n' ∧ (∀ j, j < n' → f' 2 j = r' 8 j ∧ ¬ r' 8 j = -1) ∧ (∀ j, j ≠ 11 → z' j = z j) ∧ (∀ j, j ≠ 0 → j ≠ 12 → zr' j = zr j) ∧ ∀ k, k ≠ 8 → r' k = r k
theorem feed_sim (d d' : Nat) (x1 x2 x3 x4 x5 : Int32) : TSIM (d + 2) 160 (d' + 7) 211 [x1, x2, x3, x4, x5] := by
  intro n z zr f r hn h1 h2 h4 _ _
  obtain ⟨a1, a2⟩ := cFeed d hn x1 x2 x3 x4 x5 (z := z) (f := f) h1
  obtain ⟨b1, b2⟩ := rFeed d' hn x1 x2 x3 x4 x5 (z := zr) (f := r) h2
  by_cases h : n ≤ 380
  · exact ⟨nI (n + 20), n + 20, _, _, _, _, by omega, a1 h, b1 h, uZ_s, uZ_s, fun j hj => by rw [uA_self, uA_self]; exact tk5_at h4 j hj, fun j hj => uZ_n hj, fun j q1 q2 => by rw [uZ_n q2, uZ_n q1], fun k hk => uA_ne hk⟩
  · exact ⟨-1, n, _, _, _, _, hn, a2 (by omega), b2 (by omega), h1, (uZ_n (by decide)).trans h2, h4, fun _ _ => rfl, fun j q1 _ => uZ_n q1, fun _ _ => rfl⟩
theorem end_sim (d d' : Nat) (x : Int32) : TSIM (d + 1) 158 (d' + 6) 206 [x] := by
  intro n z zr f r hn h1 h2 h4 _ _
  have i1 : I (z 11) = n := by rw [h1]; exact I_nI (by omega)
  have i2 : I (zr 12) = n := by rw [h2]; exact I_nI (by omega)
  have gc : ∀ res, _ → mcall (d + 1) 158 [vR 0, vI x] (LM3 z f) = some res := fun res H => mcall_i (mq158 (cu := [])).2.2 rfl (vcq158_0 (mcall d) x z f res H)
  have gr : ∀ res, _ → mcall (d' + 6) 206 [vR 0, vI x] (LR zr r) = some res := fun res H => mcall_i (mq206 (cu := [])).2.2 rfl (vc206_0 d' x zr r res H)
  by_cases cx : 0 ≤ I x ∧ I x ≤ n
  · obtain ⟨m, rfl, hm1, hm2⟩ := nI_ofI cx.1
    have im : I (nI m) = m := I_nI (by omega)
    refine ⟨1, m, _, _, _, _, by omega, gc _ ⟨fun q => by omega, fun _ => ⟨fun _ => rfl, fun q => by omega⟩⟩, gr _ ⟨fun _ => rfl, fun q => absurd ⟨cx.1, by omega⟩ q⟩, uZ_s, uZ_s, fun j hj => h4 j (by omega), fun j hj => uZ_n hj, fun j q1 q2 => by rw [uZ_n q2, uZ_n q1], fun _ _ => rfl⟩
  · refine ⟨0, n, _, _, _, _, hn, gc _ ⟨fun _ => rfl, fun q => ⟨fun q2 => absurd ⟨q, by omega⟩ cx, fun _ => rfl⟩⟩, gr _ ⟨fun q => absurd ⟨q.1, by omega⟩ cx, fun _ => rfl⟩, h1, (uZ_n (by decide)).trans h2, h4, fun _ _ => rfl, fun j q1 _ => uZ_n q1, fun _ _ => rfl⟩
theorem fault_sim (d d' : Nat) (x : Int32) : TSIM (d + 1) 159 (d' + 6) 210 [x] := by
  intro n z zr f r hn h1 h2 h4 h5 h6
  have gc : ∀ res, _ → mcall (d + 1) 159 [vR 0, vI x] (LM3 z f) = some res := fun res H => mcall_i (mq159 (cu := [])).2.2 rfl (vcq159_0 (mcall d) x z f res H)
  have gr : ∀ res, _ → mcall (d' + 6) 210 [vR 0, vI x] (LR zr r) = some res := fun res H => mcall_i (mq210 (cu := [])).2.2 rfl (vc210_0 d' x zr r res H)
  have fin : ∀ v, mcall (d + 1) 159 [vR 0, vI x] (LM3 z f) = some (some (vI v), LM3 z f) → mcall (d' + 6) 210 [vR 0, vI x] (LR zr r) = some (some (vI v), LR (uZ zr 0 0) r) → _ := fun v q1 q2 => (⟨v, n, z, f, uZ zr 0 0, r, hn, q1, q2, h1, (uZ_n (by decide)).trans h2, h4, fun _ _ => rfl, fun j q1 _ => uZ_n q1, fun _ _ => rfl⟩ : ∃ v n' z' f' zr' r', n' ≤ 400 ∧ mcall (d + 1) 159 (vR 0 :: [x].map vI) (LM3 z f) = some (some (vI v), LM3 z' f') ∧ mcall (d' + 6) 210 (vR 0 :: [x].map vI) (LR zr r) = some (some (vI v), LR zr' r') ∧ z' 11 = nI n' ∧ zr' 12 = nI n' ∧ (∀ j, j < n' → f' 2 j = r' 8 j ∧ ¬ r' 8 j = -1) ∧ (∀ j, j ≠ 11 → z' j = z j) ∧ (∀ j, j ≠ 0 → j ≠ 12 → zr' j = zr j) ∧ ∀ k, k ≠ 8 → r' k = r k)
  by_cases c0 : x = 0
  · exact fin (z 17) (gc _ ⟨fun q => absurd c0 q, fun _ => rfl⟩) (gr _ ⟨fun q => absurd c0 q, fun _ => by rw [h5]⟩)
  · by_cases c1 : x = 1
    · exact fin (z 18) (gc _ ⟨fun _ => ⟨fun q => absurd c1 q, fun _ => rfl⟩, fun q => absurd q c0⟩) (gr _ ⟨fun _ => ⟨fun q => absurd c1 q, fun _ => by rw [h6]⟩, fun q => absurd q c0⟩)
    · exact fin (-1) (gc _ ⟨fun _ => ⟨fun _ => rfl, fun q => absurd q c1⟩, fun q => absurd q c0⟩) (gr _ ⟨fun _ => ⟨fun _ => rfl, fun q => absurd q c1⟩, fun q => absurd q c0⟩)
