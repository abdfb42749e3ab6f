/-! a field told by its number -/
abbrev cN (n : Nat) : AV := .inr (.inr (.inr (2147483648 + n, 2147483648 + n)))
