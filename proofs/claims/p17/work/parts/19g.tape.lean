/-! a Text's birth, and how readTape ends -/
theorem c_Tinit {l : Launch} {G : PG} {h : PH} {o a b : Nat} {n : Int32} (ho : h[o]? = some (eO 8 [vN, vI 0, vN])) : PMet l G yX8_init cX8_init 4 none 1 0 0 [vR o, vR a, vI n, vR b] h (qV fun h' => h' = h.set o (eO 8 [vR a, vI n, vR b])) := by
  have hol : o < h.length := (List.getElem?_eq_some_iff.mp ho).1
  have hg : ∀ x : PE, (h.set o x)[o]? = some x := fun x => by rw [List.getElem?_set_self hol]
  refine PMet.intro (by decide) (show 4 ≤ 4 by decide) ?_
  intro p e s m args below meth c X hr hlk hnm
  refine r_aload_n X dX8_init_0 rfl ?_
  refine r_obji X lo_X8_3 w_oi w_oc dX8_init_1 (Nat.le_of_ble_eq_true rfl) (Nat.le_of_ble_eq_true rfl) ?_
  refine r_aload_n X dX8_init_4 rfl ?_
  refine r_aload_n X dX8_init_5 rfl ?_
  refine r_putF X ff_X8_9 hnm dX8_init_6 ho (by decide) rfl rfl ?_
  refine r_aload_n X dX8_init_9 rfl ?_
  refine r_iload_n X dX8_init_10 rfl ?_
  refine r_putF X ff_X8_15 hnm dX8_init_11 (hg _) (show 1 < 3 by decide) rfl rfl ?_
  refine r_aload_n X dX8_init_14 rfl ?_
  refine r_aload_n X dX8_init_15 rfl ?_
  refine r_putF (fs := [vR a, vI n, vN]) X ff_X8_19 hnm dX8_init_16 (by rw [List.set_set]; exact hg _) (show 2 < 3 by decide) rfl rfl ?_
  exact r_ret_v X hr hlk dX8_init_19 (Nat.le_refl _) (Nat.le_refl _) ⟨rfl, by simp [List.set_set]⟩
section Tail
variable {p : Program} {l : Launch} {e : Env} {s : State} {m : MethodId} {args : Array Value} {below : List Frame} {meth : Method} {c : Code} {G : PG}
theorem rt_tail (X : pX p s m args c G 5 cX5_readTape RX5) (hr : meth.sig.returnType = some (.object "ThumbBallot$Text")) (hlk : meth.locks = false) {D : Nat} (hD : 2 ≤ D) {Φ : Option PV → PH → Prop} {h : PH} {b a1 a2 k u : Nat} {fs : List PV} {f g : Nat → Int32} (hb : h[b]? = some (eO 5 fs)) (h10 : fs[10]? = some (vR a1)) (h11 : fs[11]? = some (vI (nI k))) (h12 : fs[12]? = some (vR a2)) (h13 : fs[13]? = some (vI (nI u))) (ha1 : h[a1]? = some (eI 80 f)) (ha2 : h[a2]? = some (eI 400 g)) (hk : k ≤ 17) (hu : u ≤ 400)
    (hΦ : Φ (some (vR h.length)) (h ++ [eO 8 [vR (h.length + 1), vI (nI k), vR (h.length + 2)], eI (5 * k) (cpO 80 (5 * k) f), eI u (cpO 400 u g)])) {l1 l2 l3 l4 : Option PV} :
    PW p l e (rmD D 3 488) s m args below meth c G 5 (MQ below (pQ G Φ) args s 3 488 (pF G)) 0 0 h 149 [some (vR b), l1, l2, l3, l4] [] := by
  have lt : ∀ {i : Nat} {x : PE}, h[i]? = some x → i < h.length := fun z => (List.getElem?_eq_some_iff.mp z).1
  have up : ∀ {i : Nat} {x : PE} (L : PH), h[i]? = some x → (h ++ L)[i]? = some x := fun L z => by rw [List.getElem?_append_left (lt z)]; exact z
  have hmul : nI k * 5 = nI (5 * k) := by rw [Nat.mul_comm]; exact (nmul rfl rfl : nI k * nI 5 = nI (k * 5))
  refine r_new X nk_X5_72 dX5_readTape_149 (show 0 + 1 ≤ 3 by decide) (show 0 + 3 ≤ 488 by decide) ?_
  refine r_dup X dX5_readTape_152 ?_
  refine r_aload_n X dX5_readTape_153 rfl ?_
  refine r_get X fg_X5_43 dX5_readTape_154 (up _ hb) h10 ?_
  refine r_aload_n X dX5_readTape_157 rfl ?_
  refine r_get X fg_X5_46 dX5_readTape_158 (up _ hb) h11 ?_
  refine r_iconst X dX5_readTape_161 (v := 5) rfl ?_
  refine r_imul X dX5_readTape_162 ?_
  rw [hmul]
  refine r_S2a X ks_X5_74 dX5_readTape_163 (c_copyOf (M := 85) (up _ ha1) (by decide) (by omega) (by omega)) ?_ ?_
  · show chkC (rmD D 3 488) 1 3 2 (0 + 1) (0 + 3) 1 85 = true
    simp only [chkC, rmD, Bool.and_eq_true, Nat.ble_eq]
    omega
  rintro v h' ⟨rfl, rfl⟩
  refine r_aload_n X dX5_readTape_166 rfl ?_
  refine r_get X fg_X5_46 dX5_readTape_167 (by rw [List.append_assoc]; exact up _ hb) h11 ?_
  refine r_aload_n X dX5_readTape_170 rfl ?_
  refine r_get X fg_X5_49 dX5_readTape_171 (by rw [List.append_assoc]; exact up _ hb) h12 ?_
  refine r_aload_n X dX5_readTape_174 rfl ?_
  refine r_get X fg_X5_52 dX5_readTape_175 (by rw [List.append_assoc]; exact up _ hb) h13 ?_
  refine r_S2a X ks_X5_74 dX5_readTape_178 (c_copyOf (M := 400) (by rw [List.append_assoc]; exact up _ ha2) (by decide) (by omega) (by omega)) ?_ ?_
  · show chkC (rmD D 3 488) 1 3 4 (0 + 1 + 1) (0 + 3 + 85) 1 400 = true
    simp only [chkC, rmD, Bool.and_eq_true, Nat.ble_eq]
    omega
  rintro v h' ⟨rfl, rfl⟩
  refine r_I3v X ki_X5_80 dX5_readTape_181 (c_Tinit (o := h.length) (by simp)) ?_ ?_
  · show chkC (rmD D 3 488) 1 4 1 (0 + 1 + 1 + 1) (0 + 3 + 85 + 400) 0 0 = true
    simp only [chkC, rmD, Bool.and_eq_true, Nat.ble_eq]
    omega
  rintro h' rfl
  refine r_ret_a X hr (Or.inl ⟨_, rfl⟩) hlk (v := some h.length) dX5_readTape_184 (Nat.le_refl _) (Nat.le_refl _) ?_
  have e1 : ((h ++ [eO 8 [vN, vI 0, vN]] ++ [eI (5 * k) (cpO 80 (5 * k) f)] ++ [eI u (cpO 400 u g)]).set h.length (eO 8 [vR (h ++ [eO 8 [vN, vI 0, vN]]).length, vI (nI k), vR (h ++ [eO 8 [vN, vI 0, vN]] ++ [eI (5 * k) (cpO 80 (5 * k) f)]).length])) = h ++ [eO 8 [vR (h.length + 1), vI (nI k), vR (h.length + 2)], eI (5 * k) (cpO 80 (5 * k) f), eI u (cpO 400 u g)] := by
    simp [List.append_assoc, List.set_append_right]
  exact e1 ▸ hΦ
end Tail
