/-! an item of a told list -/
theorem nI_sub {a b : Nat} (h : b ≤ a) : nI a - nI b = nI (a - b) := Int32.sub_eq_iff_eq_add.mpr (by rw [nI_add, Nat.sub_add_cancel h])
theorem nI_mm {v : Nat} (h : 1 ≤ v) : nI v + (-1) = nI (v - 1) := (Int32.sub_eq_add_neg _ _).symm.trans (nI_sub h)
section TLs
variable {u : Nat → Option Nat}
end TLs
