/-! pairs of calls over the told lists: exact runs beside what the checker says -/
theorem LR_at0 {nm : Nat} {H h : PH} {z : Nat → Int32} {f : Nat → FA} (hR : Rep rdF H (lamM nm) 43 (LR z f) h) {j : Nat} (hj : j ∈ 12 :: KZ) : ∃ fs, h[nm]? = some (eO 12 fs) ∧ fs[j]? = some (vI (z j)) := by
  have h0 := hR.2.1 0 _ rfl
  refine ⟨_, h0, ?_⟩
  have key : j = 12 ∨ j = 6 ∨ j = 43 ∨ j = 46 ∨ j = 50 ∨ j = 52 ∨ j = 54 ∨ j = 57 ∨ j = 61 ∨ j = 63 ∨ j = 65 ∨ j = 73 := by
    simpa [KZ] using hj
  rcases key with rfl | rfl | rfl | rfl | rfl | rfl | rfl | rfl | rfl | rfl | rfl | rfl <;> rfl
