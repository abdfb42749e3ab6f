/-! at the start: nothing is told -/
theorem mpC_lt (k : Nat) : mpC k < 103 := by
  unfold mpC
  split
  · assumption
  · split <;> omega
