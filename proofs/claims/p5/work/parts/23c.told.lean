theorem kv_nI' {n : Nat} (h : n < 2147483648) : kv (2147483648 + n) = nI n := by
  apply ky_inj
  rw [ky_kv (by omega), ky_nI h]
  omega
theorem FRM_setI {lam : Nat → Nat} {W : List (Nat × Nat)} {h0 h : PH} {k N : Nat} {f g : Nat → Int32} (hF : FRM lam W h0 h) (hx : h[lam k]? = some (eI N f)) (hm : (k, 999) ∈ W) : FRM lam W h0 (h.set (lam k) (eI N g)) := by
  refine ⟨by rw [List.length_set]; exact hF.1, fun a x0 ha => ?_⟩
  obtain ⟨x, hx1, hk⟩ := hF.2 a x0 ha
  by_cases e : lam k = a
  · subst e
    cases hx.symm.trans hx1
    refine ⟨_, List.getElem?_set_self (List.getElem?_eq_some_iff.mp hx).1, ?_⟩
    match x0, hk with
    | .inl (.inl (t, M, f0)), hk => exact ⟨hk.1, hk.2.1, fun q => absurd ⟨k, hm, rfl⟩ q⟩
    | .inl (.inr a), hk => cases hk
    | .inr a, hk => cases hk
  · exact ⟨x, by rw [List.getElem?_set_ne e]; exact hx1, hk⟩
/-- a told list's cells -/
theorem t_cells {lam : Nat → Nat} {h : PH} {D N : Nat} (hH : HOK lam [] TCl h) (cD : nth TCl D = some (.inr (9, [.inr (.inl (some (D + 1))), .inr (.inr (.inr (2147483648, 2147483648 + N)))]))) (cE : nth TCl (D + 1) = some (.inl (.inl (.inl (2147483648 + N), 0, [(N, 0, 4294967295)])))) (hN : N ≤ 400) : ∃ n f, n ≤ N ∧ h[lam D]? = some (eO 9 [vR (lam (D + 1)), vI (nI n)]) ∧ h[lam (D + 1)]? = some (eI N f) := by
  obtain ⟨x, hx, xs, rfl, rr⟩ := hH D _ cD
  obtain ⟨y1, g1, v1⟩ := R2.get (j := 0) rr rfl
  obtain ⟨y2, g2, z, rfl, hz⟩ := R2.get (j := 1) rr rfl
  have v1 : y1 = vR (lam (D + 1)) := v1
  subst v1
  have hl2 : xs.length = 2 := (R2.len rr).symm
  clear rr
  obtain ⟨n, hn, rfl⟩ := rt_int (b := N) hz
  obtain ⟨y, hy, M, f, rfl, hM, hln, -⟩ := hH (D + 1) _ cE
  have e1 : M = N := rt_len N hM (by omega) hln
  subst e1
  match xs, hl2, g1, g2, hx with
  | [u1, u2], _, g1, g2, hx =>
    have q1 : u1 = _ := Option.some.inj g1
    have q2 : u2 = _ := Option.some.inj g2
    rw [q1, q2] at hx
    exact ⟨n, f, hn, hx, hy⟩
theorem t_step (l : Launch) (G : PG) {lam : Nat → Nat} {h : PH} {D S N : Nat} (hl : LAMC lam) (hH : HOK lam [] TCl h) (cD : nth TCl D = some (.inr (9, [.inr (.inl (some (D + 1))), .inr (.inr (.inr (2147483648, 2147483648 + N)))]))) (cE : nth TCl (D + 1) = some (.inl (.inl (.inl (2147483648 + N), 0, [(N, 0, 4294967295)])))) (cS : nth TCl S = some (.inr (9, [.inr (.inl (some (S + 1))), .inr (.inr (.inr (2147483648, 2147483648 + N)))]))) (cT : nth TCl (S + 1) = some (.inl (.inl (.inl (2147483648 + N), 0, [(N, 0, 4294967295)])))) (hN : N ≤ 400) (wD : wrC D = true) (wE : wrC (D + 1) = true) (n1 : D ≠ S) (n2 : D ≠ S + 1) (n3 : D + 1 ≠ S) : ∃ Φ0, PMet l G yX9_takeList cX9_takeList 3 none 2 0 0 [vR (lam D), vR (lam S)] h Φ0 ∧ ∀ r h', Φ0 r h' → r = none ∧ HOK lam [] TCl h' ∧ FRM lam [(D, 1), (D + 1, 999)] h h' ∧ ∃ n g f', n ≤ N ∧ h[lam S]? = some (eO 9 [vR (lam (S + 1)), vI (nI n)]) ∧ h[lam (S + 1)]? = some (eI N g) ∧ h'[lam D]? = some (eO 9 [vR (lam (D + 1)), vI (nI n)]) ∧ h'[lam (D + 1)]? = some (eI N (cpf g f' n)) := by
  obtain ⟨x0, f, hx0, a1, a2⟩ := t_cells hH cD cE hN
  obtain ⟨n, g, hn, b1, b2⟩ := t_cells hH cS cT hN
  have m1 : lam D ≠ lam (D + 1) := fun e => absurd (hl D wD _ e) (by omega)
  have m2 : lam D ≠ lam S := fun e => n1 (hl D wD _ e)
  have m3 : lam D ≠ lam (S + 1) := fun e => n2 (hl D wD _ e)
  have m4 : lam (D + 1) ≠ lam S := fun e => n3 (hl (D + 1) wE _ e)
  have m5 : lam (D + 1) ≠ lam (S + 1) := fun e => absurd (hl (D + 1) wE _ e) (by omega)
  refine ⟨_, t_take l G a1 a2 b1 b2 m1 m2 m3 m4 m5 hN hn, ?_⟩
  rintro r h' ⟨rfl, rfl⟩
  have lD : lam D < h.length := (List.getElem?_eq_some_iff.mp a1).1
  have lE : lam (D + 1) < h.length := (List.getElem?_eq_some_iff.mp a2).1
  have k1 : HOK lam [] TCl (h.set (lam D) (eO 9 [vR (lam (D + 1)), vI (nI n)])) := by
    have := HOK.set (hl D wD) hH a1 (c' := .inr (9, [.inr (.inl (some (D + 1))), .inr (.inr (.inr (2147483648, 2147483648 + N)))])) (y := eO 9 [vR (lam (D + 1)), vI (nI n)]) ⟨_, rfl, rfl, ⟨nI n, rfl, by rw [ky_nI (by omega)]; omega, by rw [ky_nI (by omega)]; omega⟩, trivial⟩
    rw [stl_eq, set_id (by rw [← nth_eq]; exact cD)] at this
    exact this
  have a2' : (h.set (lam D) (eO 9 [vR (lam (D + 1)), vI (nI n)]))[lam (D + 1)]? = some (eI N f) := by rw [List.getElem?_set_ne m1]; exact a2
  have k2 : HOK lam [] TCl ((h.set (lam D) (eO 9 [vR (lam (D + 1)), vI (nI n)])).set (lam (D + 1)) (eI N (cpf g f n))) := by
    have := HOK.set (hl (D + 1) wE) k1 a2' (c' := .inl (.inl (.inl (2147483648 + N), 0, [(N, 0, 4294967295)]))) (y := eI N (cpf g f n)) ⟨N, _, rfl, by omega, ⟨nI N, by rw [val_c (by omega)]; exact congrArg some (kv_nI' (by omega)), rfl⟩, ⟨fun j _ => inb_top _, trivial⟩, PRD_0⟩
    rw [stl_eq, set_id (by rw [← nth_eq]; exact cE)] at this
    exact this
  refine ⟨rfl, k2, ?_, n, g, f, hn, b1, b2, ?_, List.getElem?_set_self (by rw [List.length_set]; exact lE)⟩
  · have f1 : FRM lam [(D, 1), (D + 1, 999)] h (h.set (lam D) (eO 9 [vR (lam (D + 1)), vI (nI n)])) := FRM_set (j := 1) (v := vI (nI n)) (FRM.refl h) a1 (List.mem_cons_self)
    exact FRM_setI f1 a2' (List.mem_cons_of_mem _ (List.mem_singleton.mpr rfl))
  · rw [List.getElem?_set_ne (fun e => m1 e.symm)]
    exact List.getElem?_set_self lD
