/-! texts and the game between rounds -/
theorem LR_fl {nm : Nat} {H h : PH} {z : Nat → Int32} {f : Nat → FA} (hR : Rep rdF H (lamM nm) 43 (LR z f) h) {j : Nat} (hj : j ∈ 12 :: KZ) : FLD h nm j (z j) := by
  have h0 := hR.2.1 0 _ rfl
  refine ⟨12, _, h0, ?_⟩
  have key : j = 12 ∨ j = 6 ∨ j = 43 ∨ j = 46 ∨ j = 50 ∨ j = 52 ∨ j = 54 ∨ j = 57 ∨ j = 61 ∨ j = 63 ∨ j = 65 ∨ j = 73 := by
    simpa [KZ] using hj
  rcases key with rfl | rfl | rfl | rfl | rfl | rfl | rfl | rfl | rfl | rfl | rfl | rfl <;> rfl
theorem ATP.inj {h : PH} {a p : Nat} {x y : Int32} (h1 : ATP h a p x) (h2 : ATP h a p y) : x = y := by
  obtain ⟨N, f, e1, e2⟩ := h1
  obtain ⟨N', f', e3, e4⟩ := h2
  have e := Option.some.inj (e1.symm.trans e3)
  have e5 : f = f' := by
    injection e with e
    injection e with e
    exact (Prod.mk.inj (Prod.mk.inj e).2).2
  subst e5
  exact e2.symm.trans e4
theorem lib_of_r {lam : Nat → Nat} {b nc nm : Nat} {h h' : PH} {z z' : Nat → Int32} {f f' : Nat → FA} (hI : LIB lam b nc nm h) (hR : Rep rdF h (lamM nm) 43 (LR z f) h) (hR1 : Rep rdF h (lamM nm) 43 (LR z' f') h') (hz : BNDz z') (hB : BNDf f') (hE : EXF f') (h73 : z' 73 = z 73) : LIB lam b nc nm h' := by
  obtain ⟨hb, hl, h103, hC, hM, hX, hx, hd⟩ := hI
  refine ⟨hb, hl, h103, fun k c hc => ?_, HOK_of hR1 hz hB, EXR_of hR1 hE, ?_, hd⟩
  · obtain ⟨x, hx, hcx⟩ := hC k c hc
    exact ⟨x, by rw [hR1.2.2.2 (lam k) (fun j hj => hd k j hj)]; exact hx, hcx⟩
  · have e := FLD.inj hx (LR_fl hR (j := 73) (by decide))
    rw [e, ← h73]
    exact LR_fl hR1 (by decide)
set_option maxRecDepth 100000 in
theorem LIX.cl {ps qs : List (Nat × Nat × Nat)} {nc nm : Nat} {h : PH} (hI : LIX ps qs nc nm h) : ∃ fs, h[nc]? = some (eO 11 fs) := by
  obtain ⟨lam, b, ⟨hb, hl, h103, hC, -⟩, -⟩ := hI
  obtain ⟨x, hx, g⟩ := hC 0 _ rfl
  obtain ⟨fs, rfl, -⟩ := g
  rw [h103 0 (by decide)] at hx
  exact ⟨fs, hx⟩
set_option maxRecDepth 100000 in
theorem LIX.md {ps qs : List (Nat × Nat × Nat)} {nc nm : Nat} {h : PH} (hI : LIX ps qs nc nm h) : ∃ fs, h[nm]? = some (eO 12 fs) := by
  obtain ⟨lam, b, ⟨hb, hl, h103, hC, hM, -⟩, -⟩ := hI
  obtain ⟨x, hx, g⟩ := hM 0 _ rfl
  obtain ⟨fs, rfl, -⟩ := g
  exact ⟨fs, hx⟩
set_option maxRecDepth 100000 in
theorem md_of {nm : Nat} {h : PH} (hM : HOK (lamM nm) [] TRf h) : ∃ fs, h[nm]? = some (eO 12 fs) := by
  obtain ⟨x, hx, g⟩ := hM 0 _ rfl
  obtain ⟨fs, rfl, -⟩ := g
  exact ⟨fs, hx⟩
