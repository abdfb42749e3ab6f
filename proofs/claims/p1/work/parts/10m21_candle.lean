set_option maxRecDepth 100000 in
set_option maxHeartbeats 4000000 in
theorem km27_X12_isIn (l : Launch) (G : PG) (h0 : PH) (n : Nat) (hn : h0.length = n) (wf : Nat → Int32) (z0 : Int32) : PMet l G yX12_isIn cX12_isIn 4 (some .boolean) 0 0 0 [vR (n + 0), vI z0, vI 1, vI 50] (h0 ++ (frM n wf)) (qI (fun x h' => ((z0 < 1) ∧ x = 0 ∧ h' = h0 ++ (frM n wf)) ∨ ((¬ z0 < 1) ∧ (50 < z0) ∧ x = 0 ∧ h' = h0 ++ (frM n wf)) ∨ ((¬ z0 < 1) ∧ (¬ 50 < z0) ∧ x = 1 ∧ h' = h0 ++ (frM n wf)))) := by
  refine PMet.intro (by decide) (Nat.le_of_ble_eq_true rfl) ?_
  intro p e s m args below meth c X hr hlk hnm
  refine r_iload_n X dX12_isIn_0 rfl ?_
  refine r_iload_n X dX12_isIn_1 rfl ?_
  refine r_icmp_lt (tgt := 14) X dX12_isIn_2 rfl (fun q1 => ?_) (fun q1 => ?_)
  · refine r_iconst (v := 0) X dX12_isIn_14 (by decide +kernel) ?_
    exact r_ret_z X hr hlk (Or.inl rfl) dX12_isIn_15 (Nat.le_of_ble_eq_true rfl) (Nat.le_of_ble_eq_true rfl) ⟨_, rfl, Or.inl ⟨q1, rfl, rfl⟩⟩
  · refine r_iload_n X dX12_isIn_5 rfl ?_
    refine r_iload_n X dX12_isIn_6 rfl ?_
    refine r_icmp_gt (tgt := 14) X dX12_isIn_7 rfl (fun q2 => ?_) (fun q2 => ?_)
    · refine r_iconst (v := 0) X dX12_isIn_14 (by decide +kernel) ?_
      exact r_ret_z X hr hlk (Or.inl rfl) dX12_isIn_15 (Nat.le_of_ble_eq_true rfl) (Nat.le_of_ble_eq_true rfl) ⟨_, rfl, Or.inr (Or.inl ⟨q1, q2, rfl, rfl⟩)⟩
    · refine r_iconst (v := 1) X dX12_isIn_10 (by decide +kernel) ?_
      refine r_goto (tgt := 15) X dX12_isIn_11 rfl ?_
      exact r_ret_z X hr hlk (Or.inr rfl) dX12_isIn_15 (Nat.le_of_ble_eq_true rfl) (Nat.le_of_ble_eq_true rfl) ⟨_, rfl, Or.inr (Or.inr (⟨q1, q2, rfl, rfl⟩))⟩
set_option maxRecDepth 100000 in
set_option maxHeartbeats 4000000 in
theorem m_candle (l : Launch) (G : PG) (h0 : PH) (n : Nat) (hn : h0.length = n) (wf : Nat → Int32) (a : Int32) : PMet l G yX12_candle cX12_candle 2 (some .int) 1 0 0 [vR (n + 0), vI a] (h0 ++ (frM n wf)) (qI (fun x h' => x = sp_candle a)) := by
  refine PMet.intro (by decide) (Nat.le_of_ble_eq_true rfl) ?_
  intro p e s m args below meth c X hr hlk hnm
  refine r_aload_n X dX12_candle_0 rfl ?_
  refine r_iconst (v := 0) X dX12_candle_1 (by decide +kernel) ?_
  refine a_put (a := 0) X hn fp_X12_140 dX12_candle_2 rfl rfl rfl rfl ?_
  refine r_eq (h' := h0 ++ (frM n wf)) rfl rfl rfl ?_
  refine r_iload_n X dX12_candle_5 rfl ?_
  refine r_iconst (v := -1) X dX12_candle_6 (by decide +kernel) ?_
  refine r_icmp_ne (tgt := 17) X dX12_candle_7 rfl (fun q1 => ?_) (fun q1 => ?_)
  · refine r_aload_n X dX12_candle_17 rfl ?_
    refine r_iload_n X dX12_candle_18 rfl ?_
    refine r_iconst (v := 1) X dX12_candle_19 (by decide +kernel) ?_
    refine r_bipush (v := 50) X dX12_candle_20 (by decide +kernel) ?_
    refine r_V3i X kv_X12_155 dX12_candle_22 (apG (k := 0) hn rfl) rfl (km27_X12_isIn l G _ _ hn _ _) rfl (fun x h' hΨ => ?_)
    rcases hΨ with ⟨q2, rfl, rfl⟩ | ⟨q3, q4, rfl, rfl⟩ | ⟨q5, q6, rfl, rfl⟩
    · refine r_if_eq_t (tgt := 37) X dX12_candle_25 rfl (by decide +kernel) ?_
      refine r_iconst (v := -1) X dX12_candle_37 (by decide +kernel) ?_
      exact r_ret_i X hr hlk dX12_candle_38 (Nat.le_of_ble_eq_true rfl) (Nat.le_of_ble_eq_true rfl) ⟨_, rfl, by unfold sp_candle; (repeat' split) <;> first | rfl | (exfalso; have e0 : (-1 : Int32).toInt = -1 := (by decide); have e1 : (0 : Int32).toInt = 0 := (by decide); have e2 : (1 : Int32).toInt = 1 := (by decide); have e3 : (50 : Int32).toInt = 50 := (by decide); simp only [inR, Int32.lt_iff_toInt_lt, Int32.le_iff_toInt_le, ← Int32.toInt_inj, true_or, or_true, not_true_eq_false, and_true, true_and, false_or, or_false, false_and, and_false, not_false_eq_true] at * <;> omega)⟩
    · refine r_if_eq_t (tgt := 37) X dX12_candle_25 rfl (by decide +kernel) ?_
      refine r_iconst (v := -1) X dX12_candle_37 (by decide +kernel) ?_
      exact r_ret_i X hr hlk dX12_candle_38 (Nat.le_of_ble_eq_true rfl) (Nat.le_of_ble_eq_true rfl) ⟨_, rfl, by unfold sp_candle; (repeat' split) <;> first | rfl | (exfalso; have e0 : (-1 : Int32).toInt = -1 := (by decide); have e1 : (0 : Int32).toInt = 0 := (by decide); have e2 : (1 : Int32).toInt = 1 := (by decide); have e3 : (50 : Int32).toInt = 50 := (by decide); simp only [inR, Int32.lt_iff_toInt_lt, Int32.le_iff_toInt_le, ← Int32.toInt_inj, true_or, or_true, not_true_eq_false, and_true, true_and, false_or, or_false, false_and, and_false, not_false_eq_true] at * <;> omega)⟩
    · refine r_if_eq_f (tgt := 37) X dX12_candle_25 rfl (by decide +kernel) ?_
      refine r_aload_n X dX12_candle_28 rfl ?_
      refine a_get (a := 0) X hn fg_X12_479 dX12_candle_29 rfl rfl ?_
      refine r_bipush (v := 8) X dX12_candle_32 (by decide +kernel) ?_
      refine r_icmp_ne_t (tgt := 39) X dX12_candle_34 rfl (by decide +kernel) ?_
      refine r_aload_n X dX12_candle_39 rfl ?_
      refine a_get (a := 0) X hn fg_X12_104 dX12_candle_40 rfl rfl ?_
      refine r_aload_n X dX12_candle_43 rfl ?_
      refine a_get (a := 0) X hn fg_X12_479 dX12_candle_44 rfl rfl ?_
      refine r_iload_n X dX12_candle_47 rfl ?_
      refine a_iast (a := 31) X hn dX12_candle_48 rfl (inK (by decide +kernel)) ?_
      refine r_aload_n X dX12_candle_49 rfl ?_
      refine r_aload_n X dX12_candle_50 rfl ?_
      refine a_get (a := 0) X hn fg_X12_479 dX12_candle_51 rfl rfl ?_
      refine r_iconst (v := 1) X dX12_candle_54 (by decide +kernel) ?_
      refine r_iaddE (v := 1) X dX12_candle_55 (by decide +kernel) ?_
      refine a_put (a := 0) X hn fp_X12_479 dX12_candle_56 rfl rfl rfl rfl ?_
      refine r_eq (h' := h0 ++ (((frM n wf).set 0 (eO 12 [vI 0, vR (n + 1), vR (n + 2), vI 0, vR (n + 3), vI 0, vI 0, vR (n + 4), vR (n + 5), vR (n + 6), vR (n + 7), vR (n + 8), vI 0, vI 0, vI 0, vI 0, vI 0, vR (n + 9), vR (n + 10), vR (n + 11), vR (n + 12), vR (n + 13), vR (n + 14), vR (n + 15), vR (n + 16), vI 0, vI 0, vI 0, vR (n + 17), vI 0, vI 0, vI 0, vI 0, vI ((-1)), vI 0, vR (n + 18), vI 0, vR (n + 19), vI 0, vR (n + 20), vR (n + 21), vR (n + 22), vR (n + 23), vI 0, vR (n + 24), vR (n + 25), vI 0, vR (n + 26), vR (n + 27), vR (n + 28), vI 0, vR (n + 29), vI 0, vR (n + 30), vI 1, vR (n + 31), vR (n + 32), vI 0, vR (n + 33), vR (n + 34), vR (n + 35), vI 0, vR (n + 36), vI 0, vR (n + 37), vI 0, vR (n + 38), vR (n + 39), vR (n + 40), vR (n + 41), vI 0, vI 0, vI 0, vI 0, vI 0, vR (n + 42)])).set 31 (eI 8 (upd (fun _ => 0) (0 : Int32).toNatClampNeg (a))))) rfl rfl rfl ?_
      refine r_aload_n X dX12_candle_59 rfl ?_
      refine a_get (a := 0) X hn fg_X12_479 dX12_candle_60 rfl rfl ?_
      exact r_ret_i X hr hlk dX12_candle_63 (Nat.le_of_ble_eq_true rfl) (Nat.le_of_ble_eq_true rfl) ⟨_, rfl, by unfold sp_candle; (repeat' split) <;> first | rfl | (exfalso; have e0 : (-1 : Int32).toInt = -1 := (by decide); have e1 : (0 : Int32).toInt = 0 := (by decide); have e2 : (1 : Int32).toInt = 1 := (by decide); have e3 : (50 : Int32).toInt = 50 := (by decide); simp only [inR, Int32.lt_iff_toInt_lt, Int32.le_iff_toInt_le, ← Int32.toInt_inj, true_or, or_true, not_true_eq_false, and_true, true_and, false_or, or_false, false_and, and_false, not_false_eq_true] at * <;> omega)⟩
  · refine r_aload_n X dX12_candle_10 rfl ?_
    refine r_iconst (v := 0) X dX12_candle_11 (by decide +kernel) ?_
    refine a_put (a := 0) X hn fp_X12_479 dX12_candle_12 rfl rfl rfl rfl ?_
    refine r_eq (h' := h0 ++ (frM n wf)) rfl rfl rfl ?_
    refine r_iconst (v := 0) X dX12_candle_15 (by decide +kernel) ?_
    exact r_ret_i X hr hlk dX12_candle_16 (Nat.le_of_ble_eq_true rfl) (Nat.le_of_ble_eq_true rfl) ⟨_, rfl, by unfold sp_candle; (repeat' split) <;> first | rfl | (exfalso; have e0 : (-1 : Int32).toInt = -1 := (by decide); have e1 : (0 : Int32).toInt = 0 := (by decide); have e2 : (1 : Int32).toInt = 1 := (by decide); have e3 : (50 : Int32).toInt = 50 := (by decide); simp only [inR, Int32.lt_iff_toInt_lt, Int32.le_iff_toInt_le, ← Int32.toInt_inj, true_or, or_true, not_true_eq_false, and_true, true_and, false_or, or_false, false_and, and_false, not_false_eq_true] at * <;> omega)⟩
