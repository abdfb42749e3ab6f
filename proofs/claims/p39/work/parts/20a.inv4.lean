/-! game of the reference, and the start -/
theorem inv_game_r (l : Launch) (G : PG) {nc nm : Nat} {h : PH} (hI : LIV nc nm h) (x y : Int32) : ∃ Φ0, PMet l G (mY 69) (mC 69) (mN 69) (mR 69) 5 0 0 [vR nm, vI x, vI y] h Φ0 ∧ ∀ r h', Φ0 r h' → (∃ v, r = some (vI v)) ∧ LIV nc nm h' := by
  have hI' := hI
  obtain ⟨lam, b, fs, hb, hl, e0, hC, hM, hX, ⟨hx, hf⟩, hd⟩ := hI
  obtain ⟨z, f, hR⟩ := LR_rep hM
  obtain ⟨r, z', f', hc, g1, g2⟩ := game_r 0 x y z f
  have hz := BNDz_of hM hR
  have hB := BNDf_of hM hR
  have hE := EXF_of hX hR
  refine ⟨_, pm_of (lamM_i nm) hc hR, ?_⟩
  rintro r1 h1 ⟨rfl, hR1⟩
  have ez : ∀ j, j ≠ 0 → j ≠ 70 → j ≠ 71 → z' j = z j := fun j j0 j1 j2 => by
    rw [g1 j j1 j2]
    exact if_neg j0
  refine ⟨⟨r, rfl⟩, inv_of_r hI' hR hR1 ?_ ?_ ?_ (ez 73 (by decide) (by decide) (by decide))⟩
  · intro e he
    have key : ∀ e, e ∈ FBl → e.1 ≠ 0 ∧ e.1 ≠ 70 ∧ e.1 ≠ 71 := by decide
    obtain ⟨k0, k1, k2⟩ := key e he
    rw [ez e.1 k0 k1 k2]
    exact hz e he
  · intro k k1 k2
    by_cases c0 : k = 40
    · subst c0
      exact ⟨⟨fun j _ => inb_top _, trivial⟩, PRD_0⟩
    by_cases c1 : k = 41
    · subst c1
      exact ⟨⟨fun j _ => inb_top _, trivial⟩, PRD_0⟩
    rw [g2 k c0 c1]
    exact hB k k1 k2
  · refine hE.tr (fun k hk => g2 k ?_ ?_)
    · rintro rfl
      revert hk
      decide
    · rintro rfl
      revert hk
      decide
theorem mpC_lt (k : Nat) (hk : k < 127) : mpC k < 103 := by
  unfold mpC
  split
  · assumption
  · split <;> omega
theorem mpC_lt' (k : Nat) : mpC k < 103 := by
  unfold mpC
  split
  · assumption
  · split <;> omega
theorem inv_start {h0 : PH} {n : Nat} {wf : Nat → Int32} (hn : h0.length = n) (hw : wf 132 = 32) : LIV n (n + 103) (h0 ++ (frC n ++ frM (n + 103) wf)) := by
  have hn1 : (h0 ++ frC n).length = n + 103 := apL hn rfl
  have hM := M_fresh (L1 := []) (wf := wf) hn1 hw
  rw [List.append_nil, List.append_assoc] at hM
  have h0' : (h0 ++ (frC n ++ frM (n + 103) wf))[n + 103]? = (frM (n + 103) wf)[0]? := by
    rw [← List.append_assoc, List.getElem?_append_right (by omega), hn1, Nat.sub_self]
  refine ⟨lamC n, 0, _, Or.inl rfl, lamC_r n, rfl, C_fresh hn, hM.1, hM.2, ⟨h0'.trans rfl, rfl⟩, ?_⟩
  intro k j hj z
  have h1 : n + mpC k = n + 103 + j := z
  have := mpC_lt' k
  omega
set_option maxRecDepth 100000 in
theorem LIV.cl {nc nm : Nat} {h : PH} (hI : LIV nc nm h) : ∃ fs, h[nc]? = some (eO 11 fs) := by
  obtain ⟨lam, b, fs, hb, hl, rfl, hC, hM, hX, ⟨hx, hf⟩, hd⟩ := hI
  obtain ⟨x, hx, g⟩ := hC 0 _ rfl
  obtain ⟨fs, rfl, -⟩ := g
  exact ⟨fs, hx⟩
theorem LIV.md {nc nm : Nat} {h : PH} (hI : LIV nc nm h) : ∃ fs, h[nm]? = some (eO 12 fs) := by
  obtain ⟨lam, b, fs, hb, hl, e0, hC, hM, hX, ⟨hx, hf⟩, hd⟩ := hI
  exact ⟨fs, hx⟩
