/-! the told lists and the puzzles of the class: twenty-four cells of its heap -/
def rmT (i : Nat) : Nat := ([6, 16, 15, 15, 8, 8, 12, 12, 12] : List Nat).getD i 0
theorem int_of {b : Nat} {x : Int32} (hb : b < 2147483648) (h : inb 2147483648 (2147483648 + b) x) : ∃ n, n ≤ b ∧ x = nI n := nI_of_inb hb h
/-- a told list's cells -/
theorem tl_cells {lam : Nat → Nat} {h : PH} {D N : Nat} (hH : HOK lam [] TCl h) (cD : nth TCl D = some (.inr (9, [.inr (.inl (some (D + 1))), .inr (.inr (.inr (2147483648, 2147483648 + N)))]))) (cE : nth TCl (D + 1) = some (.inl (.inl (.inl (2147483648 + N), 0, [(N, 0, 4294967295)])))) (hN : N ≤ 400) : ∃ n f, n ≤ N ∧ h[lam D]? = some (eO 9 [vR (lam (D + 1)), vI (nI n)]) ∧ h[lam (D + 1)]? = some (eI N f) := by
  obtain ⟨x, hx, xs, rfl, rr⟩ := hH D _ cD
  obtain ⟨y1, r1, rfl, e1, g1⟩ := R2.uncons rr
  have e1 : y1 = vR (lam (D + 1)) := e1
  subst e1
  obtain ⟨y2, r2, rfl, ⟨w, rfl, hw⟩, g2⟩ := R2.uncons g1
  cases r2 with
  | cons _ _ => cases g2
  | nil =>
    obtain ⟨n, hn, rfl⟩ := int_of (by omega) hw
    obtain ⟨f, hf⟩ := arr_at (k := D + 1) (c := N) (by omega) hH cE
    exact ⟨n, f, hn, hx, hf⟩
