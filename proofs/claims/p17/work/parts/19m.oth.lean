/-! cells that a call doesn't name stay as they are -/
theorem kpt_eq {W : Nat → Prop} {x0 x : PE} (hW : ∀ j, ¬ W j) (h : kpt W x0 x) : x = x0 := by
  match x0, x with
  | .inl (.inl a), .inl (.inl b) =>
    obtain ⟨h1, h2, h3⟩ := h
    have : b = a := Prod.ext h1.symm (Prod.ext h2.symm (h3 (hW _)).symm)
    rw [this]
  | .inl (.inr a), .inl (.inr b) =>
    obtain ⟨h1, h2, h3⟩ := h
    have : b = a := Prod.ext h1.symm (Prod.ext h2.symm (h3 (hW _)).symm)
    rw [this]
  | .inr a, .inr b =>
    obtain ⟨h1, h2, h3⟩ := h
    have : b = a := Prod.ext h1.symm (List.ext_getElem? (fun j => (h3 j (hW j)).symm))
    rw [this]
  | .inl (.inl a), .inl (.inr b) => cases h
  | .inl (.inl a), .inr b => cases h
  | .inl (.inr a), .inl (.inl b) => cases h
  | .inl (.inr a), .inr b => cases h
  | .inr a, .inl b => cases h
theorem FRG.other {lam : Nat → Nat} {W : List (Nat × Nat)} {h h' : PH} {a : Nat} {x : PE} (hF : FRG lam W h h') (hn : ∀ k j, (k, j) ∈ W → lam k ≠ a) (ha : h[a]? = some x) : h'[a]? = some x := by
  obtain ⟨y, h1, h2⟩ := hF.2 a x ha
  rw [h1, kpt_eq (fun j ⟨k, hm, e⟩ => hn k j hm e) h2]
theorem HOK_other {lam mu : Nat → Nat} {T : List AC} {W : List (Nat × Nat)} {h h' : PH} (hF : FRG lam W h h') (hn : ∀ k j, (k, j) ∈ W → ∀ k', k' < T.length → lam k ≠ mu k') (hH : HOK mu [] T h) : HOK mu [] T h' := fun k c hc => by
  obtain ⟨x, hx, hcx⟩ := hH k c hc
  have hk : k < T.length := by
    rw [nth_eq] at hc
    exact (List.getElem?_eq_some_iff.mp hc).1
  exact ⟨x, hF.other (fun q j hq => hn q j hq k hk) hx, hcx⟩
