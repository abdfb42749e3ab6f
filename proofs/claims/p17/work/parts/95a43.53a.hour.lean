/-! the thumbs, the evening, an hour -/
theorem eve_eq (r1 : Nat → FA) (r7 : FA) (x3 : Int32) {k : Nat} (hk : k ≠ 3) : uA (uA (uA r1 7 r7) 1 (upd (r1 1) 3 x3)) 1 (upd ((uA (uA r1 7 r7) 1 (upd (r1 1) 3 x3)) 1) k (((uA (uA r1 7 r7) 1 (upd (r1 1) 3 x3)) 1) k + 1)) = uA (uA (uA r1 1 (upd (r1 1) k (r1 1 k + 1))) 7 r7) 1 (upd ((uA r1 1 (upd (r1 1) k (r1 1 k + 1))) 1) 3 x3) := by
  have a : (uA (uA r1 7 r7) 1 (upd (r1 1) 3 x3)) 1 = upd (r1 1) 3 x3 := uA_self _ _ _
  have b : (uA r1 1 (upd (r1 1) k (r1 1 k + 1))) 1 = upd (r1 1) k (r1 1 k + 1) := uA_self _ _ _
  rw [a, b, uA_uA, pk_un hk]
  funext i
  by_cases q : i = 1
  · subst q
    rw [uA_self, uA_self]
    funext j
    unfold upd
    by_cases q1 : j = 3
    · subst q1
      simp [hk.symm]
    · by_cases q2 : j = k
      · subst q2
        simp [hk]
      · simp [q1, q2]
  · rw [uA_ne q, uA_ne q]
    by_cases q7 : i = 7
    · subst q7
      rw [uA_self, uA_self]
    · rw [uA_ne q7, uA_ne q7, uA_ne q]
