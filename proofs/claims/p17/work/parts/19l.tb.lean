/-! the template with imaged told: down to TCl, and back where imaged was left alone -/
set_option maxRecDepth 100000 in
theorem TB_TC {lam : Nat → Nat} {h : PH} {b : Nat} (hb : b ≤ 1) (hH : HOK lam [] (TBc b) h) : HOK lam [] TCl h := by
  intro k c hc
  by_cases hk : k = 0
  · subst hk
    obtain ⟨x, hx, xs, rfl, rr⟩ := hH 0 _ rfl
    obtain ⟨y, gy, z, rfl, hz⟩ := R2.get (j := 2) rr rfl
    have h2 := R2.put (j := 2) (a := (.inr (.inr (.inr (2147483648, 2147483649))) : AV)) (show vRel lam [] (.inr (.inr (.inr (2147483648, 2147483649)))) (vI z) from ⟨z, rfl, Nat.le_trans (Nat.le_add_right _ _) hz.1, Nat.le_trans hz.2 (by show 2147483648 + b ≤ 2147483649; omega)⟩) rr gy
    have ec := Option.some.inj hc
    rw [← ec]
    exact ⟨_, hx, xs, rfl, h2⟩
  · refine hH k c ?_
    rw [TBc, stl_eq, nth_eq, List.getElem?_set_ne (fun z => hk z.symm), ← nth_eq]
    exact hc
set_option maxRecDepth 100000 in
theorem TC_TB {lam lam' : Nat → Nat} {W : List (Nat × Nat)} {h h' : PH} {b : Nat} (hl : LAMC lam) (hH : HOK lam [] (TBc b) h) (hH' : HOK lam' [] TCl h') (e0 : lam' 0 = lam 0) (hF : FRG lam W h h') (hn : (0, 2) ∉ W) : HOK lam' [] (TBc b) h' := by
  intro k c hc
  by_cases hk : k = 0
  · subst hk
    obtain ⟨x, hx, xs, rfl, rr⟩ := hH 0 _ rfl
    obtain ⟨y, gy, z, rfl, hz⟩ := R2.get (j := 2) rr rfl
    obtain ⟨x', hx', xs', rfl, rr'⟩ := hH' 0 _ rfl
    obtain ⟨x2, hx2, hk2⟩ := hF.2 _ _ hx
    rw [e0] at hx'
    cases hx'.symm.trans hx2
    have g2 : xs'[2]? = some (vI z) := by
      rw [← gy]
      refine (hk2.2.2 2 ?_).symm
      rintro ⟨k, hm, e⟩
      have : (0 : Nat) = k := hl 0 rfl k e.symm
      exact hn (this ▸ hm)
    have h2 := R2.put (j := 2) (a := (.inr (.inr (.inr (2147483648 + b, 2147483648 + b))) : AV)) (show vRel lam' [] (.inr (.inr (.inr (2147483648 + b, 2147483648 + b)))) (vI z) from ⟨z, rfl, hz⟩) rr' g2
    have ec := Option.some.inj hc
    rw [← ec]
    exact ⟨_, by rw [e0]; exact hx', xs', rfl, h2⟩
  · refine hH' k c ?_
    rw [TBc, stl_eq, nth_eq, List.getElem?_set_ne (fun z => hk z.symm), ← nth_eq] at hc
    exact hc
