/-! wordOf keeps its summary; readTape over any heap that holds the class's template -/
theorem rt_len {lam : Nat → Nat} {N : Nat} (K : Nat) (hN : N < 2147483648) (hK : K < 2147483648) (hv : vRel lam [] (.inl (2147483648 + K)) (vI (Int32.ofNat N))) : N = K := by
  obtain ⟨z, hz, he⟩ := hv
  have hc2 : 2147483648 + K < 4294967296 := by omega
  have e1 : z = kv (2147483648 + K) := by
    have : val [] (2147483648 + K) = some (kv (2147483648 + K)) := by simp [val, hc2]
    exact Option.some.inj (hz.symm.trans this)
  have e2 : Int32.ofNat N = z := Sum.inl.inj he
  have e3 : ky (nI N) = 2147483648 + K := by
    rw [show nI N = Int32.ofNat N from rfl, e2, e1, ky_kv hc2]
  rw [ky_nI hN] at e3
  omega
theorem rt_int {z : Int32} {b : Nat} (hz : inb 2147483648 (2147483648 + b) z) : ∃ u, u ≤ b ∧ z = nI u := by
  obtain ⟨h1, h2⟩ := hz
  have hp := ky_pos h1
  refine ⟨ix z, by omega, ?_⟩
  apply ky_inj
  rw [ky_nI hp.2, ky_small hp.2]
set_option maxRecDepth 100000 in
set_option maxHeartbeats 4000000 in
theorem wordOf_ok (l : Launch) (G : PG) (lam : Nat → Nat) : SUOK lam TCl EXT l G kc_m0 := by
  intro cAs h hA hH hE
  rcases cAs with _ | ⟨x0, _ | ⟨x1, _ | ⟨x2, _ | ⟨x3, t⟩⟩⟩⟩
  · exact hA.elim
  · exact hA.2.elim
  · exact hA.2.2.elim
  · obtain ⟨e0, ⟨z1, rfl, b1⟩, ⟨z2, rfl, b2⟩, -⟩ := hA
    have e0' : x0 = vR (lam 79) := e0
    subst e0'
    obtain ⟨x, hx, hc⟩ := hH 79 _ rfl
    obtain ⟨xs, rfl, hr⟩ := hc
    obtain ⟨f0, g0, v0⟩ := R2.get (j := 0) hr rfl
    obtain ⟨f2, g2, v2⟩ := R2.get (j := 2) hr rfl
    have v0' : f0 = vR (lam 80) := v0
    subst v0'
    obtain ⟨n, rfl, bn⟩ := v2
    obtain ⟨y, hy, hd⟩ := hH 80 _ rfl
    obtain ⟨N, f, rfl, hN, hln, -⟩ := hd
    have e1 : N = 400 := rt_len 400 hN (by decide) hln
    subst e1
    obtain ⟨u, hu, rfl⟩ := rt_int (b := 400) bn
    obtain ⟨w, hw, rfl⟩ := rt_int (b := 400) b1
    have hu2 : (nI u).toInt = (u : Int) := nI_toInt (by omega)
    have hw2 : (nI w).toInt = (w : Int) := nI_toInt (by omega)
    refine ⟨_, c_X5_wordOf (to := z2) hx g0 g2 hy (by rw [hu2]; omega) (by rw [hw2]; omega) (by rw [hw2]; omega), ?_⟩
    rintro r h' ⟨q, rfl, rfl⟩
    exact ⟨⟨q, rfl, inb_top q⟩, FRM.refl _, hH⟩
  · exact hA.2.2.2.elim
