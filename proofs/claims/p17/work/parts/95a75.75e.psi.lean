/-! the play's methods, as play_pair wants them -/
theorem HF.psim {nv : Nat} {z z' zr zr' : Nat → Int32} {f f' r r' : Nat → FA} (h : HF z f zr r z' f' zr' r') : (∀ j, j ≠ 0 → j ≠ 3 → j ≠ 6 → zr' j = zr j) ∧ (∀ k, k ∉ [1, 2, 3, 4, 5, 6, 7, 21, 22] → r' k = r k) ∧ nv ≤ nv := ⟨fun j a b _ => h.2.2.1 j a b, h.2.2.2, Nat.le_refl _⟩
theorem press_sim (d d' : Nat) (x y : Int32) : PSIM (d + 5) 174 (d' + 5) 248 [x, y] := by
  intro W L n nv nw ns nt c z zr f r hB hW hC hL hR hG hT
  obtain ⟨a, z', f', zr', r', c', q1, q2, q3, q4, q5⟩ := simPressU d d' x y hR hG
  exact ⟨a, z', f', zr', r', c', nv, q1, q2, q3, q4, q5.psim⟩
theorem lift_sim (d d' : Nat) (x y : Int32) : PSIM (d + 5) 167 (d' + 5) 235 [x, y] := by
  intro W L n nv nw ns nt c z zr f r hB hW hC hL hR hG hT
  obtain ⟨a, z', f', zr', r', c', q1, q2, q3, q4, q5⟩ := simLiftU d d' x y hR hG
  exact ⟨a, z', f', zr', r', c', nv, q1, q2, q3, q4, q5.psim⟩
theorem hand_sim (d d' : Nat) (x y : Int32) : PSIM (d + 4) 162 (d' + 4) 215 [x, y] := by
  intro W L n nv nw ns nt c z zr f r hB hW hC hL hR hG hT
  obtain ⟨a, z', f', zr', r', c', q1, q2, q3, q4, q5⟩ := simHandU d d' x y hR hG
  exact ⟨a, z', f', zr', r', c', nv, q1, q2, q3, q4, q5.psim⟩
theorem undo_sim (d d' : Nat) : PSIM (d + 3) 182 (d' + 2) 283 [] := by
  intro W L n nv nw ns nt c z zr f r hB hW hC hL hR hG hT
  obtain ⟨a, z', f', zr', r', c', q1, q2, q3, q4, q5⟩ := simUndoU d d' hR hG
  exact ⟨a, z', f', zr', r', c', nv, q1, q2, q3, q4, q5.psim⟩
theorem hours_sim (d d' : Nat) (x : Int32) : PSIM (d + 8) 163 (d' + 9) 217 [x] := by
  intro W L n nv nw ns nt c z zr f r hB hW hC hL hR hG hT
  obtain ⟨a, z', f', zr', r', c', q1, q2, q3, q4, q5⟩ := simHoursU hW hC hL d d' x hR hG
  exact ⟨a, z', f', zr', r', c', nv, q1, q2, q3, q4, q5.psim⟩
theorem goes_sim (d d' : Nat) (x y : Int32) : PSIM (d + 8) 161 (d' + 9) 213 [x, y] := by
  intro W L n nv nw ns nt c z zr f r hB hW hC hL hR hG hT
  obtain ⟨a, z', f', zr', r', c', q1, q2, q3, q4, q5⟩ := simGoesU hW hC hL d d' x y hR hG
  exact ⟨a, z', f', zr', r', c', nv, q1, q2, q3, q4, q5.psim⟩
theorem state_sim (d d' : Nat) (x : Int32) : PSIM (d + 2) 179 (d' + 1) 277 [x] := by
  intro W L n nv nw ns nt c z zr f r hB hW hC hL hR hG hT
  obtain ⟨a, z', f', zr', r', c', q1, q2, q3, q4, q5⟩ := simStateU d d' x hR hG
  exact ⟨a, z', f', zr', r', c', nv, q1, q2, q3, q4, q5.psim⟩
theorem cell_sim (d d' : Nat) (x y w : Int32) : PSIM (d + 5) 155 (d' + 6) 197 [x, y, w] := by
  intro W L n nv nw ns nt c z zr f r hB hW hC hL hR hG hT
  obtain ⟨a, z', f', zr', r', c', q1, q2, q3, q4, q5⟩ := simCellU hW hC hL d d' x y w hR hG
  exact ⟨a, z', f', zr', r', c', nv, q1, q2, q3, q4, q5.psim⟩
theorem set_sim (d d' : Nat) (a b x : Int32) : PSIM (d + 4) 176 (d' + 3) 272 [a, b, x] := by
  intro W L n nv nw ns nt c z zr f r hB hW hC hL hR hG hT
  obtain ⟨s, z', f', zr', r', c', q1, q2, q3, q4, q5⟩ := simSetU d d' a b x hR hG
  exact ⟨s, z', f', zr', r', c', nv, q1, q2, q3, q4, q5.psim⟩
theorem of_sim (d d' : Nat) (x y : Int32) : PSIM (d + 5) 171 (d' + 6) 244 [x, y] := by
  intro W L n nv nw ns nt c z zr f r hB hW hC hL hR hG hT
  obtain ⟨a, z', f', zr', r', c', q1, q2, q3, q4, q5⟩ := simOfU hW hC hL d d' x y hR hG hT
  exact ⟨a, z', f', zr', r', c', nv, q1, q2, q3, q4, q5.psim⟩
theorem book_sim (d d' : Nat) (x y : Int32) : PSIM (d + 2) 152 (d' + 2) 191 [x, y] := by
  intro W L n nv nw ns nt c z zr f r hB hW hC hL hR hG hT
  obtain ⟨a, q1, q2⟩ := simBookU d d' x y hR
  exact ⟨a, z, f, uZ zr 0 0, r, c, nv, q1, q2, hR.z0, hG.z0, fun j h1 _ _ => uZ_n h1, fun _ _ => rfl, Nat.le_refl _⟩
theorem voter_sim (d d' : Nat) (x1 x2 x3 x4 : Int32) : PSIM (d + 4) 184 (d' + 2) 284 [x1, x2, x3, x4] := by
  intro W L n nv nw ns nt c z zr f r hB hW hC hL hR hG hT
  obtain ⟨a, z', f', zr', r', c', nv', q1, q2, q3, q4, q5, q6⟩ := simVoterU d d' x1 x2 x3 x4 hR hG
  exact ⟨a, z', f', zr', r', c', nv', q1, q2, q3, q4, fun j h1 h2 h3 => q5.2.2.1 j h1 h2 h3, q5.2.2.2, q6⟩
