set_option maxRecDepth 100000 in
set_option maxHeartbeats 4000000 in
theorem km17_X12_isIn (l : Launch) (G : PG) (h0 : PH) (n : Nat) (hn : h0.length = n) (wf : Nat → Int32) (z0 : Int32) : PMet l G yX12_isIn cX12_isIn 4 (some .boolean) 0 0 0 [vR (n + 0), vI z0, vI ((-1)), vI 8] (h0 ++ (frM n wf)) (qI (fun x h' => ((z0 < (-1)) ∧ x = 0 ∧ h' = h0 ++ (frM n wf)) ∨ ((¬ z0 < (-1)) ∧ (8 < z0) ∧ x = 0 ∧ h' = h0 ++ (frM n wf)) ∨ ((¬ z0 < (-1)) ∧ (¬ 8 < z0) ∧ x = 1 ∧ h' = h0 ++ (frM n wf)))) := by
  refine PMet.intro (by decide) (Nat.le_of_ble_eq_true rfl) ?_
  intro p e s m args below meth c X hr hlk hnm
  refine r_iload_n X dX12_isIn_0 rfl ?_
  refine r_iload_n X dX12_isIn_1 rfl ?_
  refine r_icmp_lt (tgt := 14) X dX12_isIn_2 rfl (fun q1 => ?_) (fun q1 => ?_)
  · refine r_iconst (v := 0) X dX12_isIn_14 (by decide +kernel) ?_
    exact r_ret_z X hr hlk (Or.inl rfl) dX12_isIn_15 (Nat.le_of_ble_eq_true rfl) (Nat.le_of_ble_eq_true rfl) ⟨_, rfl, Or.inl ⟨q1, rfl, rfl⟩⟩
  · refine r_iload_n X dX12_isIn_5 rfl ?_
    refine r_iload_n X dX12_isIn_6 rfl ?_
    refine r_icmp_gt (tgt := 14) X dX12_isIn_7 rfl (fun q2 => ?_) (fun q2 => ?_)
    · refine r_iconst (v := 0) X dX12_isIn_14 (by decide +kernel) ?_
      exact r_ret_z X hr hlk (Or.inl rfl) dX12_isIn_15 (Nat.le_of_ble_eq_true rfl) (Nat.le_of_ble_eq_true rfl) ⟨_, rfl, Or.inr (Or.inl ⟨q1, q2, rfl, rfl⟩)⟩
    · refine r_iconst (v := 1) X dX12_isIn_10 (by decide +kernel) ?_
      refine r_goto (tgt := 15) X dX12_isIn_11 rfl ?_
      exact r_ret_z X hr hlk (Or.inr rfl) dX12_isIn_15 (Nat.le_of_ble_eq_true rfl) (Nat.le_of_ble_eq_true rfl) ⟨_, rfl, Or.inr (Or.inr (⟨q1, q2, rfl, rfl⟩))⟩
set_option maxRecDepth 100000 in
set_option maxHeartbeats 4000000 in
theorem m_whose (l : Launch) (G : PG) (h0 : PH) (n : Nat) (hn : h0.length = n) (wf : Nat → Int32) (a b : Int32) : PMet l G yX12_whose cX12_whose 7 (some .int) 1 0 0 [vR (n + 0), vI a, vI b] (h0 ++ (frM n wf)) (qI (fun x h' => x = sp_whose a b)) := by
  refine PMet.intro (by decide) (Nat.le_of_ble_eq_true rfl) ?_
  intro p e s m args below meth c X hr hlk hnm
  refine r_aload_n X dX12_whose_0 rfl ?_
  refine r_iconst (v := 0) X dX12_whose_1 (by decide +kernel) ?_
  refine a_put (a := 0) X hn fp_X12_140 dX12_whose_2 rfl rfl rfl rfl ?_
  refine r_eq (h' := h0 ++ (frM n wf)) rfl rfl rfl ?_
  refine r_aload_n X dX12_whose_5 rfl ?_
  refine r_iload_n X dX12_whose_6 rfl ?_
  refine r_iconst (v := 0) X dX12_whose_7 (by decide +kernel) ?_
  refine r_sipush (v := 255) X dX12_whose_8 (by decide +kernel) ?_
  refine r_V3i X kv_X12_155 dX12_whose_11 (apG (k := 0) hn rfl) rfl (km1_X12_isIn l G _ _ hn _ _) rfl (fun x h' hΨ => ?_)
  rcases hΨ with ⟨q1, rfl, rfl⟩ | ⟨q2, q3, rfl, rfl⟩ | ⟨q4, q5, rfl, rfl⟩
  · refine r_if_eq_t (tgt := 28) X dX12_whose_14 rfl (by decide +kernel) ?_
    refine r_iconst (v := -1) X dX12_whose_28 (by decide +kernel) ?_
    exact r_ret_i X hr hlk dX12_whose_29 (Nat.le_of_ble_eq_true rfl) (Nat.le_of_ble_eq_true rfl) ⟨_, rfl, by unfold sp_whose; (repeat' split) <;> first | rfl | (exfalso; have e0 : (-1 : Int32).toInt = -1 := (by decide); have e1 : (0 : Int32).toInt = 0 := (by decide); have e2 : (255 : Int32).toInt = 255 := (by decide); have e3 : (8 : Int32).toInt = 8 := (by decide); simp only [inR, Int32.lt_iff_toInt_lt, Int32.le_iff_toInt_le, ← Int32.toInt_inj, true_or, or_true, not_true_eq_false, and_true, true_and, false_or, or_false, false_and, and_false, not_false_eq_true] at * <;> omega)⟩
  · refine r_if_eq_t (tgt := 28) X dX12_whose_14 rfl (by decide +kernel) ?_
    refine r_iconst (v := -1) X dX12_whose_28 (by decide +kernel) ?_
    exact r_ret_i X hr hlk dX12_whose_29 (Nat.le_of_ble_eq_true rfl) (Nat.le_of_ble_eq_true rfl) ⟨_, rfl, by unfold sp_whose; (repeat' split) <;> first | rfl | (exfalso; have e0 : (-1 : Int32).toInt = -1 := (by decide); have e1 : (0 : Int32).toInt = 0 := (by decide); have e2 : (255 : Int32).toInt = 255 := (by decide); have e3 : (8 : Int32).toInt = 8 := (by decide); simp only [inR, Int32.lt_iff_toInt_lt, Int32.le_iff_toInt_le, ← Int32.toInt_inj, true_or, or_true, not_true_eq_false, and_true, true_and, false_or, or_false, false_and, and_false, not_false_eq_true] at * <;> omega)⟩
  · refine r_if_eq_f (tgt := 28) X dX12_whose_14 rfl (by decide +kernel) ?_
    refine r_aload_n X dX12_whose_17 rfl ?_
    refine r_iload_n X dX12_whose_18 rfl ?_
    refine r_iconst (v := -1) X dX12_whose_19 (by decide +kernel) ?_
    refine r_bipush (v := 8) X dX12_whose_20 (by decide +kernel) ?_
    refine r_V3i X kv_X12_155 dX12_whose_22 (apG (k := 0) hn rfl) rfl (km17_X12_isIn l G _ _ hn _ _) rfl (fun x h' hΨ => ?_)
    rcases hΨ with ⟨q6, rfl, rfl⟩ | ⟨q7, q8, rfl, rfl⟩ | ⟨q9, q10, rfl, rfl⟩
    · refine r_if_ne_f (tgt := 30) X dX12_whose_25 rfl (by decide +kernel) ?_
      refine r_iconst (v := -1) X dX12_whose_28 (by decide +kernel) ?_
      exact r_ret_i X hr hlk dX12_whose_29 (Nat.le_of_ble_eq_true rfl) (Nat.le_of_ble_eq_true rfl) ⟨_, rfl, by unfold sp_whose; (repeat' split) <;> first | rfl | (exfalso; have e0 : (-1 : Int32).toInt = -1 := (by decide); have e1 : (0 : Int32).toInt = 0 := (by decide); have e2 : (255 : Int32).toInt = 255 := (by decide); have e3 : (8 : Int32).toInt = 8 := (by decide); simp only [inR, Int32.lt_iff_toInt_lt, Int32.le_iff_toInt_le, ← Int32.toInt_inj, true_or, or_true, not_true_eq_false, and_true, true_and, false_or, or_false, false_and, and_false, not_false_eq_true] at * <;> omega)⟩
    · refine r_if_ne_f (tgt := 30) X dX12_whose_25 rfl (by decide +kernel) ?_
      refine r_iconst (v := -1) X dX12_whose_28 (by decide +kernel) ?_
      exact r_ret_i X hr hlk dX12_whose_29 (Nat.le_of_ble_eq_true rfl) (Nat.le_of_ble_eq_true rfl) ⟨_, rfl, by unfold sp_whose; (repeat' split) <;> first | rfl | (exfalso; have e0 : (-1 : Int32).toInt = -1 := (by decide); have e1 : (0 : Int32).toInt = 0 := (by decide); have e2 : (255 : Int32).toInt = 255 := (by decide); have e3 : (8 : Int32).toInt = 8 := (by decide); simp only [inR, Int32.lt_iff_toInt_lt, Int32.le_iff_toInt_le, ← Int32.toInt_inj, true_or, or_true, not_true_eq_false, and_true, true_and, false_or, or_false, false_and, and_false, not_false_eq_true] at * <;> omega)⟩
    · refine r_if_ne_t (tgt := 30) X dX12_whose_25 rfl (by decide +kernel) ?_
      refine r_iconst (v := 0) X dX12_whose_30 (by decide +kernel) ?_
      refine r_istore_n X dX12_whose_31 (by decide) ?_
      refine r_iconst (v := -1) X dX12_whose_32 (by decide +kernel) ?_
      refine r_istore X dX12_whose_33 (by decide) ?_
      refine r_iconst (v := 0) X dX12_whose_35 (by decide +kernel) ?_
      refine r_istore X dX12_whose_36 (by decide) ?_
      refine r_iload X dX12_whose_38 rfl ?_
      refine r_aload_n X dX12_whose_40 rfl ?_
      refine a_get (a := 0) X hn fg_X12_152 dX12_whose_41 rfl rfl ?_
      refine r_icmp_ge_t (tgt := 109) X dX12_whose_44 rfl (by decide +kernel) ?_
      refine r_iload_n X dX12_whose_109 rfl ?_
      refine r_iconst (v := -1) X dX12_whose_110 (by decide +kernel) ?_
      refine r_icmp_ne (tgt := 119) X dX12_whose_111 rfl (fun q11 => ?_) (fun q11 => ?_)
      · refine r_iload_n X dX12_whose_119 rfl ?_
        exact r_ret_i X hr hlk dX12_whose_120 (Nat.le_of_ble_eq_true rfl) (Nat.le_of_ble_eq_true rfl) ⟨_, rfl, by unfold sp_whose; (repeat' split) <;> first | rfl | (exfalso; have e0 : (-1 : Int32).toInt = -1 := (by decide); have e1 : (0 : Int32).toInt = 0 := (by decide); have e2 : (255 : Int32).toInt = 255 := (by decide); have e3 : (8 : Int32).toInt = 8 := (by decide); simp only [inR, Int32.lt_iff_toInt_lt, Int32.le_iff_toInt_le, ← Int32.toInt_inj, true_or, or_true, not_true_eq_false, and_true, true_and, false_or, or_false, false_and, and_false, not_false_eq_true] at * <;> omega)⟩
      · refine r_iload X dX12_whose_114 rfl ?_
        refine r_goto (tgt := 120) X dX12_whose_116 rfl ?_
        exact r_ret_i X hr hlk dX12_whose_120 (Nat.le_of_ble_eq_true rfl) (Nat.le_of_ble_eq_true rfl) ⟨_, rfl, by unfold sp_whose; (repeat' split) <;> first | rfl | (exfalso; have e0 : (-1 : Int32).toInt = -1 := (by decide); have e1 : (0 : Int32).toInt = 0 := (by decide); have e2 : (255 : Int32).toInt = 255 := (by decide); have e3 : (8 : Int32).toInt = 8 := (by decide); simp only [inR, Int32.lt_iff_toInt_lt, Int32.le_iff_toInt_le, ← Int32.toInt_inj, true_or, or_true, not_true_eq_false, and_true, true_and, false_or, or_false, false_and, and_false, not_false_eq_true] at * <;> omega)⟩
