set_option maxRecDepth 100000 in
set_option maxHeartbeats 4000000 in
theorem km31_X12_isIn (l : Launch) (G : PG) (h0 : PH) (n : Nat) (hn : h0.length = n) (wf : Nat → Int32) (z0 : Int32) : PMet l G yX12_isIn cX12_isIn 4 (some .boolean) 0 0 0 [vR (n + 0), vI z0, vI 0, vI 30] (h0 ++ (frM n wf)) (qI (fun x h' => ((z0 < 0) ∧ x = 0 ∧ h' = h0 ++ (frM n wf)) ∨ ((¬ z0 < 0) ∧ (30 < z0) ∧ x = 0 ∧ h' = h0 ++ (frM n wf)) ∨ ((¬ z0 < 0) ∧ (¬ 30 < z0) ∧ x = 1 ∧ h' = h0 ++ (frM n wf)))) := by
  refine PMet.intro (by decide) (Nat.le_of_ble_eq_true rfl) ?_
  intro p e s m args below meth c X hr hlk hnm
  refine r_iload_n X dX12_isIn_0 rfl ?_
  refine r_iload_n X dX12_isIn_1 rfl ?_
  refine r_icmp_lt (tgt := 14) X dX12_isIn_2 rfl (fun q1 => ?_) (fun q1 => ?_)
  · refine r_iconst (v := 0) X dX12_isIn_14 (by decide +kernel) ?_
    exact r_ret_z X hr hlk (Or.inl rfl) dX12_isIn_15 (Nat.le_of_ble_eq_true rfl) (Nat.le_of_ble_eq_true rfl) ⟨_, rfl, Or.inl ⟨q1, rfl, rfl⟩⟩
  · refine r_iload_n X dX12_isIn_5 rfl ?_
    refine r_iload_n X dX12_isIn_6 rfl ?_
    refine r_icmp_gt (tgt := 14) X dX12_isIn_7 rfl (fun q2 => ?_) (fun q2 => ?_)
    · refine r_iconst (v := 0) X dX12_isIn_14 (by decide +kernel) ?_
      exact r_ret_z X hr hlk (Or.inl rfl) dX12_isIn_15 (Nat.le_of_ble_eq_true rfl) (Nat.le_of_ble_eq_true rfl) ⟨_, rfl, Or.inr (Or.inl ⟨q1, q2, rfl, rfl⟩)⟩
    · refine r_iconst (v := 1) X dX12_isIn_10 (by decide +kernel) ?_
      refine r_goto (tgt := 15) X dX12_isIn_11 rfl ?_
      exact r_ret_z X hr hlk (Or.inr rfl) dX12_isIn_15 (Nat.le_of_ble_eq_true rfl) (Nat.le_of_ble_eq_true rfl) ⟨_, rfl, Or.inr (Or.inr (⟨q1, q2, rfl, rfl⟩))⟩
set_option maxRecDepth 100000 in
set_option maxHeartbeats 4000000 in
theorem m_stands (l : Launch) (G : PG) (h0 : PH) (n : Nat) (hn : h0.length = n) (wf : Nat → Int32) (a : Int32) : PMet l G yX12_stands cX12_stands 2 (some .int) 1 0 0 [vR (n + 0), vI a] (h0 ++ (frM n wf)) (qI (fun x h' => x = sp_stands a)) := by
  refine PMet.intro (by decide) (Nat.le_of_ble_eq_true rfl) ?_
  intro p e s m args below meth c X hr hlk hnm
  refine r_aload_n X dX12_stands_0 rfl ?_
  refine r_iconst (v := 0) X dX12_stands_1 (by decide +kernel) ?_
  refine a_put (a := 0) X hn fp_X12_140 dX12_stands_2 rfl rfl rfl rfl ?_
  refine r_eq (h' := h0 ++ (frM n wf)) rfl rfl rfl ?_
  refine r_iload_n X dX12_stands_5 rfl ?_
  refine r_iconst (v := -1) X dX12_stands_6 (by decide +kernel) ?_
  refine r_icmp_ne (tgt := 17) X dX12_stands_7 rfl (fun q1 => ?_) (fun q1 => ?_)
  · refine r_aload_n X dX12_stands_17 rfl ?_
    refine r_iload_n X dX12_stands_18 rfl ?_
    refine r_iconst (v := 0) X dX12_stands_19 (by decide +kernel) ?_
    refine r_bipush (v := 30) X dX12_stands_20 (by decide +kernel) ?_
    refine r_V3i X kv_X12_155 dX12_stands_22 (apG (k := 0) hn rfl) rfl (km31_X12_isIn l G _ _ hn _ _) rfl (fun x h' hΨ => ?_)
    rcases hΨ with ⟨q2, rfl, rfl⟩ | ⟨q3, q4, rfl, rfl⟩ | ⟨q5, q6, rfl, rfl⟩
    · refine r_if_eq_t (tgt := 37) X dX12_stands_25 rfl (by decide +kernel) ?_
      refine r_iconst (v := -1) X dX12_stands_37 (by decide +kernel) ?_
      exact r_ret_i X hr hlk dX12_stands_38 (Nat.le_of_ble_eq_true rfl) (Nat.le_of_ble_eq_true rfl) ⟨_, rfl, by unfold sp_stands; (repeat' split) <;> first | rfl | (exfalso; have e0 : (-1 : Int32).toInt = -1 := (by decide); have e1 : (0 : Int32).toInt = 0 := (by decide); have e2 : (1 : Int32).toInt = 1 := (by decide); have e3 : (30 : Int32).toInt = 30 := (by decide); simp only [inR, Int32.lt_iff_toInt_lt, Int32.le_iff_toInt_le, ← Int32.toInt_inj, true_or, or_true, not_true_eq_false, and_true, true_and, false_or, or_false, false_and, and_false, not_false_eq_true] at * <;> omega)⟩
    · refine r_if_eq_t (tgt := 37) X dX12_stands_25 rfl (by decide +kernel) ?_
      refine r_iconst (v := -1) X dX12_stands_37 (by decide +kernel) ?_
      exact r_ret_i X hr hlk dX12_stands_38 (Nat.le_of_ble_eq_true rfl) (Nat.le_of_ble_eq_true rfl) ⟨_, rfl, by unfold sp_stands; (repeat' split) <;> first | rfl | (exfalso; have e0 : (-1 : Int32).toInt = -1 := (by decide); have e1 : (0 : Int32).toInt = 0 := (by decide); have e2 : (1 : Int32).toInt = 1 := (by decide); have e3 : (30 : Int32).toInt = 30 := (by decide); simp only [inR, Int32.lt_iff_toInt_lt, Int32.le_iff_toInt_le, ← Int32.toInt_inj, true_or, or_true, not_true_eq_false, and_true, true_and, false_or, or_false, false_and, and_false, not_false_eq_true] at * <;> omega)⟩
    · refine r_if_eq_f (tgt := 37) X dX12_stands_25 rfl (by decide +kernel) ?_
      refine r_aload_n X dX12_stands_28 rfl ?_
      refine a_get (a := 0) X hn fg_X12_485 dX12_stands_29 rfl rfl ?_
      refine r_bipush (v := 12) X dX12_stands_32 (by decide +kernel) ?_
      refine r_icmp_ne_t (tgt := 39) X dX12_stands_34 rfl (by decide +kernel) ?_
      refine r_aload_n X dX12_stands_39 rfl ?_
      refine a_get (a := 0) X hn fg_X12_119 dX12_stands_40 rfl rfl ?_
      refine r_aload_n X dX12_stands_43 rfl ?_
      refine a_get (a := 0) X hn fg_X12_485 dX12_stands_44 rfl rfl ?_
      refine r_iload_n X dX12_stands_47 rfl ?_
      refine a_iast (a := 36) X hn dX12_stands_48 rfl (inK (by decide +kernel)) ?_
      refine r_aload_n X dX12_stands_49 rfl ?_
      refine r_aload_n X dX12_stands_50 rfl ?_
      refine a_get (a := 0) X hn fg_X12_485 dX12_stands_51 rfl rfl ?_
      refine r_iconst (v := 1) X dX12_stands_54 (by decide +kernel) ?_
      refine r_iaddE (v := 1) X dX12_stands_55 (by decide +kernel) ?_
      refine a_put (a := 0) X hn fp_X12_485 dX12_stands_56 rfl rfl rfl rfl ?_
      refine r_eq (h' := h0 ++ (((frM n wf).set 0 (eO 12 [vI 0, vR (n + 1), vR (n + 2), vI 0, vR (n + 3), vI 0, vI 0, vR (n + 4), vR (n + 5), vR (n + 6), vR (n + 7), vR (n + 8), vI 0, vI 0, vI 0, vI 0, vI 0, vR (n + 9), vR (n + 10), vR (n + 11), vR (n + 12), vR (n + 13), vR (n + 14), vR (n + 15), vR (n + 16), vI 0, vI 0, vI 0, vR (n + 17), vI 0, vI 0, vI 0, vI 0, vI ((-1)), vI 0, vR (n + 18), vI 0, vR (n + 19), vI 0, vR (n + 20), vR (n + 21), vR (n + 22), vR (n + 23), vI 0, vR (n + 24), vR (n + 25), vI 0, vR (n + 26), vR (n + 27), vR (n + 28), vI 0, vR (n + 29), vI 0, vR (n + 30), vI 0, vR (n + 31), vR (n + 32), vI 0, vR (n + 33), vR (n + 34), vR (n + 35), vI 1, vR (n + 36), vI 0, vR (n + 37), vI 0, vR (n + 38), vR (n + 39), vR (n + 40), vR (n + 41), vI 0, vI 0, vI 0, vI 0, vI 0, vR (n + 42)])).set 36 (eI 12 (upd (fun _ => 0) (0 : Int32).toNatClampNeg (a))))) rfl rfl rfl ?_
      refine r_aload_n X dX12_stands_59 rfl ?_
      refine a_get (a := 0) X hn fg_X12_485 dX12_stands_60 rfl rfl ?_
      exact r_ret_i X hr hlk dX12_stands_63 (Nat.le_of_ble_eq_true rfl) (Nat.le_of_ble_eq_true rfl) ⟨_, rfl, by unfold sp_stands; (repeat' split) <;> first | rfl | (exfalso; have e0 : (-1 : Int32).toInt = -1 := (by decide); have e1 : (0 : Int32).toInt = 0 := (by decide); have e2 : (1 : Int32).toInt = 1 := (by decide); have e3 : (30 : Int32).toInt = 30 := (by decide); simp only [inR, Int32.lt_iff_toInt_lt, Int32.le_iff_toInt_le, ← Int32.toInt_inj, true_or, or_true, not_true_eq_false, and_true, true_and, false_or, or_false, false_and, and_false, not_false_eq_true] at * <;> omega)⟩
  · refine r_aload_n X dX12_stands_10 rfl ?_
    refine r_iconst (v := 0) X dX12_stands_11 (by decide +kernel) ?_
    refine a_put (a := 0) X hn fp_X12_485 dX12_stands_12 rfl rfl rfl rfl ?_
    refine r_eq (h' := h0 ++ (frM n wf)) rfl rfl rfl ?_
    refine r_iconst (v := 0) X dX12_stands_15 (by decide +kernel) ?_
    exact r_ret_i X hr hlk dX12_stands_16 (Nat.le_of_ble_eq_true rfl) (Nat.le_of_ble_eq_true rfl) ⟨_, rfl, by unfold sp_stands; (repeat' split) <;> first | rfl | (exfalso; have e0 : (-1 : Int32).toInt = -1 := (by decide); have e1 : (0 : Int32).toInt = 0 := (by decide); have e2 : (1 : Int32).toInt = 1 := (by decide); have e3 : (30 : Int32).toInt = 30 := (by decide); simp only [inR, Int32.lt_iff_toInt_lt, Int32.le_iff_toInt_le, ← Int32.toInt_inj, true_or, or_true, not_true_eq_false, and_true, true_and, false_or, or_false, false_and, and_false, not_false_eq_true] at * <;> omega)⟩
