/-! the pair of images, over the told lists -/
theorem lay_0z : ∀ p, p < 2439 → (layp p).1 = 0 → (layp p).2 ≠ 0 ∧ (layp p).2 ≠ 72 ∧ (layp p).2 ≠ 73 ∧ (layp p).2 ≠ 74 := by decide +kernel
