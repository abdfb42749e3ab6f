/-! text of the class -/
def FRG (lam : Nat → Nat) (W : List (Nat × Nat)) (h0 h : PH) : Prop := h0.length ≤ h.length ∧ ∀ a x0, h0[a]? = some x0 → ∃ x, h[a]? = some x ∧ kpt (fun j => ∃ k, (k, j) ∈ W ∧ lam k = a) x0 x
theorem FRG.of {lam : Nat → Nat} {W W' : List (Nat × Nat)} {h0 h : PH} (hW : ∀ q, q ∈ W' → q ∈ W) (a : FRM lam W' h0 h) : FRG lam W h0 h := by
  refine ⟨Nat.le_of_eq a.1.symm, fun q x hx => ?_⟩
  obtain ⟨y, h3, h4⟩ := a.2 q x hx
  exact ⟨y, h3, h4.mono (fun j ⟨k, hk, e⟩ => ⟨k, hW _ hk, e⟩)⟩
theorem FRG.trans {lam : Nat → Nat} {W : List (Nat × Nat)} {h0 h1 h2 : PH} (a : FRG lam W h0 h1) (b : FRG lam W h1 h2) : FRG lam W h0 h2 := by
  refine ⟨Nat.le_trans a.1 b.1, fun q x hx => ?_⟩
  obtain ⟨y, h3, h4⟩ := a.2 q x hx
  obtain ⟨z, h5, h6⟩ := b.2 q y h3
  exact ⟨z, h5, h4.trans h6⟩
theorem FRG.app {lam : Nat → Nat} {W : List (Nat × Nat)} {h : PH} (L : PH) : FRG lam W h (h ++ L) := by
  refine ⟨by simp, fun q x hx => ⟨x, ?_, kpt.refl x⟩⟩
  rw [List.getElem?_append_left (List.getElem?_eq_some_iff.mp hx).1]
  exact hx
theorem lamT_103 {lam : Nat → Nat} {kd n k : Nat} (h : k < 103) : lamT lam kd n k = lam k := lamT_o (inT_lt (by omega))
