/-! a field told by its number -/
noncomputable def fixF (T : List AC) (k j : Nat) (v : AV) : List AC := match nth T k with
  | some (.inr (q, vs)) => stl T (.inr (q, stl vs v j)) k
  | _ => T
noncomputable def isF (T : List AC) (k j : Nat) : Bool := match nth T k with
  | some (.inr (_, vs)) => (match nth vs j with
    | some _ => true
    | none => false)
  | _ => false
theorem HOK_fixF {lam : Nat → Nat} {ρ : List Int32} {T : List AC} {h : PH} {k j : Nat} {x : Int32} {v : AV} (hH : HOK lam ρ T h) (hx : FLD h (lam k) j x) (hv : vRel lam ρ v (vI x)) : HOK lam ρ (fixF T k j v) h := by
  unfold fixF
  split
  · rename_i q vs hk
    exact HOK_fix hH hk hx hv
  · exact hH
theorem HOK_getF {lam : Nat → Nat} {ρ : List Int32} {T : List AC} {h : PH} {k j : Nat} {v : AV} (hH : HOK lam ρ (fixF T k j v) h) (hf : isF T k j = true) : ∃ c fs y, h[lam k]? = some (eO c fs) ∧ fs[j]? = some y ∧ vRel lam ρ v y := by
  unfold isF at hf
  split at hf
  · rename_i q vs hk
    split at hf
    · rename_i u hu
      have hkl : k < T.length := by rw [nth_eq] at hk; exact (List.getElem?_eq_some_iff.mp hk).1
      have hjl : j < vs.length := by rw [nth_eq] at hu; exact (List.getElem?_eq_some_iff.mp hu).1
      have hc0 : nth (fixF T k j v) k = some (.inr (q, stl vs v j)) := by
        unfold fixF
        rw [hk]
        show nth (stl T (.inr (q, stl vs v j)) k) k = _
        rw [nth_eq, stl_eq, List.getElem?_set]
        simp [hkl]
      have hv0 : nth (stl vs v j) j = some v := by rw [nth_eq, stl_eq, List.getElem?_set]; simp [hjl]
      obtain ⟨x, hx, xs, rfl, rr⟩ := hH k _ hc0
      obtain ⟨y, gy, hy⟩ := R2.get rr hv0
      exact ⟨q, xs, y, hx, gy, hy⟩
    · cases hf
  · cases hf
abbrev cN (n : Nat) : AV := .inr (.inr (.inr (2147483648 + n, 2147483648 + n)))
theorem cN_in {lam : Nat → Nat} {ρ : List Int32} {n : Nat} (hn : n < 2147483648) : vRel lam ρ (cN n) (vI (nI n)) := ⟨nI n, rfl, by rw [ky_nI hn]; exact Nat.le_of_eq (Nat.add_comm _ _), by rw [ky_nI hn]; exact Nat.le_of_eq (Nat.add_comm _ _)⟩
theorem inb_nIe {n : Nat} {z : Int32} (hn : n < 2147483648) (h : inb (2147483648 + n) (2147483648 + n) z) : z = nI n := by
  obtain ⟨m, hm, e⟩ := nI_of_inb hn (x := z) ⟨Nat.le_trans (Nat.le_add_right _ _) h.1, h.2⟩
  subst e
  have := h.1
  rw [ky_nI (by omega)] at this
  have : m = n := by omega
  rw [this]
theorem HOK_getN {lam : Nat → Nat} {T : List AC} {h : PH} {k j n : Nat} (hH : HOK lam [] (fixF T k j (cN n)) h) (hf : isF T k j = true) (hn : n < 2147483648) : FLD h (lam k) j (nI n) := by
  obtain ⟨c, fs, y, h1, h2, z, rfl, hz⟩ := HOK_getF hH hf
  exact ⟨c, fs, h1, by rw [← inb_nIe hn hz]; exact h2⟩
/-- answer and count of a list that is told of: refused, emptied, put -/
def anK (room n K : Nat) : Int32 := if K = 0 then 0 else if K = 1 ∧ n < room then nI (n + 1) else -1
def nxK (room n K : Nat) : Nat := if K = 0 then 0 else if K = 1 ∧ n < room then n + 1 else n
