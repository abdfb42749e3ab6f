variable {bb : Int32}
theorem nI_ltc {x : Nat} (h : 2 < x % 10) : ¬ nI (x % 10) ≤ 2 := by
  have : x % 10 < 10 := Nat.mod_lt _ (by decide)
  exact nI_ge h (by omega)
