/-! the told lists, exactly, on any heap -/
theorem ltI {a b : Nat} (ha : a < 2147483648) (hb : b < 2147483648) : nI a < nI b ↔ a < b := by
  rw [Int32.lt_iff_toInt_lt, nI_toInt (by omega), nI_toInt (by omega)]
  omega
theorem leI {a b : Nat} (ha : a < 2147483648) (hb : b < 2147483648) : nI a ≤ nI b ↔ a ≤ b := by
  rw [Int32.le_iff_toInt_le, nI_toInt (by omega), nI_toInt (by omega)]
  omega
theorem clamp_nI {k : Nat} (hk : k < 2147483648) : (nI k).toNatClampNeg = k := by
  show (nI k).toInt.toNat = k
  rw [nI_toInt (by omega)]
  omega
theorem t_item (l : Launch) (G : PG) {h : PH} {a d n N k : Nat} {f : Nat → Int32} (ha : h[a]? = some (eO 9 [vR d, vI (nI n)])) (hd : h[d]? = some (eI N f)) (hN : N ≤ 400) (hn : n ≤ N) (hk : k < n) : PMet l G yX9_item cX9_item 2 (some .int) 1 0 0 [vR a, vI (nI k)] h (qI (fun v h' => v = f k ∧ h' = h)) := by
  refine PMet.intro (by decide) (show 2 ≤ 2 by decide) ?_
  intro p e s m args below meth c X hr hlk hnm
  refine r_iload_n X dX9_item_0 rfl ?_
  refine r_if_lt_f (tgt := 30) X dX9_item_1 rfl (fun q => absurd ((ltI (b := 0) (by omega) (by decide)).mp q) (Nat.not_lt_zero _)) ?_
  refine r_iload_n X dX9_item_4 rfl ?_
  refine r_aload_n X dX9_item_5 rfl ?_
  refine r_get X fg_X9_9 dX9_item_6 ha rfl ?_
  refine r_icmp_ge_f (tgt := 30) X dX9_item_9 rfl (fun q => by have := (leI (by omega) (by omega)).mp q; omega) ?_
  refine r_iload_n X dX9_item_12 rfl ?_
  refine r_aload_n X dX9_item_13 rfl ?_
  refine r_get X fg_X9_21 dX9_item_14 ha rfl ?_
  refine r_alen (v := nI N) X dX9_item_17 hd rfl ?_
  refine r_icmp_ge_f (tgt := 30) X dX9_item_18 rfl (fun q => by have := (leI (by omega) (by omega)).mp q; omega) ?_
  refine r_aload_n X dX9_item_21 rfl ?_
  refine r_get X fg_X9_21 dX9_item_22 ha rfl ?_
  refine r_iload_n X dX9_item_25 rfl ?_
  refine r_ialdE (v := f k) X dX9_item_26 hd (vp_in_nI (by omega) (by omega)) (by rw [clamp_nI (by omega)]) ?_
  refine r_goto (tgt := 31) X dX9_item_27 rfl ?_
  exact r_ret_i X hr hlk dX9_item_31 (Nat.le_refl _) (Nat.le_refl _) ⟨f k, rfl, rfl, rfl⟩
