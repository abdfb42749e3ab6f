/-! whose: the reference's words, bits -/
theorem nI_s (v : Nat) : nI v + 1 = nI (v + 1) := nI_add v 1
