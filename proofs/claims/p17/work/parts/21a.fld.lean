/-! fields and places told exactly; runs of the checker with symbols at the start -/
def FLD (h : PH) (a j : Nat) (x : Int32) : Prop := ∃ c fs, h[a]? = some (eO c fs) ∧ fs[j]? = some (vI x)
def ATP (h : PH) (a p : Nat) (x : Int32) : Prop := ∃ N f, h[a]? = some (eI N f) ∧ f p = x
theorem FLD.keep {lam : Nat → Nat} {W : List (Nat × Nat)} {h h' : PH} {a j : Nat} {x : Int32} (hF : FRG lam W h h') (hn : ∀ k, (k, j) ∈ W → lam k ≠ a) (hx : FLD h a j x) : FLD h' a j x := by
  obtain ⟨c, fs, h1, h2⟩ := hx
  obtain ⟨y, hy, hk⟩ := hF.2 _ _ h1
  match y, hy, hk with
  | .inr (b1, b2), hy, hk =>
    exact ⟨b1, b2, hy, by rw [← hk.2.2 j (fun ⟨k, hm, e⟩ => hn k hm e)]; exact h2⟩
  | .inl (.inl a), _, hk => cases hk
  | .inl (.inr a), _, hk => cases hk
theorem ATP.keep {lam : Nat → Nat} {W : List (Nat × Nat)} {h h' : PH} {a p : Nat} {x : Int32} (hF : FRG lam W h h') (hn : ∀ k, (k, 999) ∈ W → lam k ≠ a) (hx : ATP h a p x) : ATP h' a p x := by
  obtain ⟨N, f, h1, h2⟩ := hx
  obtain ⟨y, hy, hk⟩ := hF.2 _ _ h1
  match y, hy, hk with
  | .inl (.inl (t, N', f')), hy, hk =>
    obtain ⟨k1, k2, k3⟩ := hk
    have k1 : 0 = t := k1
    subst k1
    have k3 : f = f' := k3 (fun ⟨k, hm, e⟩ => hn k hm e)
    subst k3
    exact ⟨N', f, hy, h2⟩
  | .inl (.inr a), _, hk => cases hk
  | .inr a, _, hk => cases hk
theorem FLD.inj {h : PH} {a j : Nat} {x y : Int32} (h1 : FLD h a j x) (h2 : FLD h a j y) : x = y := by
  obtain ⟨c, fs, e1, e2⟩ := h1
  obtain ⟨c', fs', e3, e4⟩ := h2
  have e := e1.symm.trans e3
  have e := Option.some.inj e
  injection e with e
  injection e with e5 e6
  subst e6
  have := e2.symm.trans e4
  exact Sum.inl.inj (Option.some.inj this)
theorem FLD.other {lam : Nat → Nat} {W : List (Nat × Nat)} {h h' : PH} {a j : Nat} {x : Int32} (hF : FRG lam W h h') (hn : ∀ k, lam k ≠ a) (hx : FLD h a j x) : FLD h' a j x := hx.keep hF (fun k _ => hn k)
theorem ATP.other {lam : Nat → Nat} {W : List (Nat × Nat)} {h h' : PH} {a p : Nat} {x : Int32} (hF : FRG lam W h h') (hn : ∀ k, lam k ≠ a) (hx : ATP h a p x) : ATP h' a p x := hx.keep hF (fun k _ => hn k)
