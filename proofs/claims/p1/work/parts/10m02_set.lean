set_option maxRecDepth 100000 in
set_option maxHeartbeats 4000000 in
theorem km5_X12_isIn (l : Launch) (G : PG) (h0 : PH) (n : Nat) (hn : h0.length = n) (wf : Nat → Int32) (z0 : Int32) : PMet l G yX12_isIn cX12_isIn 4 (some .boolean) 0 0 0 [vR (n + 0), vI z0, vI 0, vI 3] (h0 ++ (frM n wf)) (qI (fun x h' => ((z0 < 0) ∧ x = 0 ∧ h' = h0 ++ (frM n wf)) ∨ ((¬ z0 < 0) ∧ (3 < z0) ∧ x = 0 ∧ h' = h0 ++ (frM n wf)) ∨ ((¬ z0 < 0) ∧ (¬ 3 < z0) ∧ x = 1 ∧ h' = h0 ++ (frM n wf)))) := by
  refine PMet.intro (by decide) (Nat.le_of_ble_eq_true rfl) ?_
  intro p e s m args below meth c X hr hlk hnm
  refine r_iload_n X dX12_isIn_0 rfl ?_
  refine r_iload_n X dX12_isIn_1 rfl ?_
  refine r_icmp_lt (tgt := 14) X dX12_isIn_2 rfl (fun q1 => ?_) (fun q1 => ?_)
  · refine r_iconst (v := 0) X dX12_isIn_14 (by decide +kernel) ?_
    exact r_ret_z X hr hlk (Or.inl rfl) dX12_isIn_15 (Nat.le_of_ble_eq_true rfl) (Nat.le_of_ble_eq_true rfl) ⟨_, rfl, Or.inl ⟨q1, rfl, rfl⟩⟩
  · refine r_iload_n X dX12_isIn_5 rfl ?_
    refine r_iload_n X dX12_isIn_6 rfl ?_
    refine r_icmp_gt (tgt := 14) X dX12_isIn_7 rfl (fun q2 => ?_) (fun q2 => ?_)
    · refine r_iconst (v := 0) X dX12_isIn_14 (by decide +kernel) ?_
      exact r_ret_z X hr hlk (Or.inl rfl) dX12_isIn_15 (Nat.le_of_ble_eq_true rfl) (Nat.le_of_ble_eq_true rfl) ⟨_, rfl, Or.inr (Or.inl ⟨q1, q2, rfl, rfl⟩)⟩
    · refine r_iconst (v := 1) X dX12_isIn_10 (by decide +kernel) ?_
      refine r_goto (tgt := 15) X dX12_isIn_11 rfl ?_
      exact r_ret_z X hr hlk (Or.inr rfl) dX12_isIn_15 (Nat.le_of_ble_eq_true rfl) (Nat.le_of_ble_eq_true rfl) ⟨_, rfl, Or.inr (Or.inr (⟨q1, q2, rfl, rfl⟩))⟩
set_option maxRecDepth 100000 in
set_option maxHeartbeats 4000000 in
theorem km6_X12_isVoter (l : Launch) (G : PG) (h0 : PH) (n : Nat) (hn : h0.length = n) (wf : Nat → Int32) (z0 : Int32) : PMet l G yX12_isVoter cX12_isVoter 2 (some .boolean) 0 0 0 [vR (n + 0), vI z0] (h0 ++ (frM n wf)) (qI (fun x h' => ((z0 < 0) ∧ x = 0 ∧ h' = h0 ++ (frM n wf)) ∨ ((¬ z0 < 0) ∧ x = 0 ∧ h' = h0 ++ (frM n wf)))) := by
  refine PMet.intro (by decide) (Nat.le_of_ble_eq_true rfl) ?_
  intro p e s m args below meth c X hr hlk hnm
  refine r_iload_n X dX12_isVoter_0 rfl ?_
  refine r_if_lt (tgt := 16) X dX12_isVoter_1 rfl (fun q1 => ?_) (fun q1 => ?_)
  · refine r_iconst (v := 0) X dX12_isVoter_16 (by decide +kernel) ?_
    exact r_ret_z X hr hlk (Or.inl rfl) dX12_isVoter_17 (Nat.le_of_ble_eq_true rfl) (Nat.le_of_ble_eq_true rfl) ⟨_, rfl, Or.inl ⟨q1, rfl, rfl⟩⟩
  · refine r_iload_n X dX12_isVoter_4 rfl ?_
    refine r_aload_n X dX12_isVoter_5 rfl ?_
    refine a_get (a := 0) X hn fg_X12_152 dX12_isVoter_6 rfl rfl ?_
    refine r_icmp_ge_t (tgt := 16) X dX12_isVoter_9 rfl (by have e0 : (0 : Int32).toInt = 0 := (by decide); simp only [Int32.lt_iff_toInt_lt, Int32.le_iff_toInt_le, ← Int32.toInt_inj] at q1 ⊢; omega) ?_
    refine r_iconst (v := 0) X dX12_isVoter_16 (by decide +kernel) ?_
    exact r_ret_z X hr hlk (Or.inl rfl) dX12_isVoter_17 (Nat.le_of_ble_eq_true rfl) (Nat.le_of_ble_eq_true rfl) ⟨_, rfl, Or.inr (⟨q1, rfl, rfl⟩)⟩
set_option maxRecDepth 100000 in
set_option maxHeartbeats 4000000 in
theorem km7_X12_canSet (l : Launch) (G : PG) (h0 : PH) (n : Nat) (hn : h0.length = n) (wf : Nat → Int32) (z0 z1 z2 : Int32) : PMet l G yX12_canSet cX12_canSet 4 (some .boolean) 1 0 0 [vR (n + 0), vI z0, vI z1, vI z2] (h0 ++ (frM n wf)) (qI (fun x h' => ((¬ z0 = 4) ∧ (((z0)) < 0) ∧ x = 0 ∧ h' = h0 ++ (frM n wf)) ∨ ((¬ z0 = 4) ∧ (¬ ((z0)) < 0) ∧ (3 < ((z0))) ∧ x = 0 ∧ h' = h0 ++ (frM n wf)) ∨ ((¬ z0 = 4) ∧ (¬ ((z0)) < 0) ∧ (¬ 3 < ((z0))) ∧ (((z1)) < 0) ∧ x = 0 ∧ h' = h0 ++ (frM n wf)) ∨ ((¬ z0 = 4) ∧ (¬ ((z0)) < 0) ∧ (¬ 3 < ((z0))) ∧ (¬ ((z1)) < 0) ∧ x = 0 ∧ h' = h0 ++ (frM n wf)) ∨ ((z0 = 4) ∧ (((z2)) < 0) ∧ x = 0 ∧ h' = h0 ++ (frM n wf)) ∨ ((z0 = 4) ∧ (¬ ((z2)) < 0) ∧ (9 < ((z2))) ∧ x = 0 ∧ h' = h0 ++ (frM n wf)) ∨ ((z0 = 4) ∧ (¬ ((z2)) < 0) ∧ (¬ 9 < ((z2))) ∧ x = 1 ∧ h' = h0 ++ (frM n wf)))) := by
  refine PMet.intro (by decide) (Nat.le_of_ble_eq_true rfl) ?_
  intro p e s m args below meth c X hr hlk hnm
  refine r_iload_n X dX12_canSet_0 rfl ?_
  refine r_iconst (v := 4) X dX12_canSet_1 (by decide +kernel) ?_
  refine r_icmp_ne (tgt := 14) X dX12_canSet_2 rfl (fun q1 => ?_) (fun q1 => ?_)
  · refine r_aload_n X dX12_canSet_14 rfl ?_
    refine r_iload_n X dX12_canSet_15 rfl ?_
    refine r_iconst (v := 0) X dX12_canSet_16 (by decide +kernel) ?_
    refine r_iconst (v := 3) X dX12_canSet_17 (by decide +kernel) ?_
    refine r_V3i X kv_X12_155 dX12_canSet_18 (apG (k := 0) hn rfl) rfl (km5_X12_isIn l G _ _ hn _ _) rfl (fun x h' hΨ => ?_)
    rcases hΨ with ⟨q2, rfl, rfl⟩ | ⟨q3, q4, rfl, rfl⟩ | ⟨q5, q6, rfl, rfl⟩
    · refine r_if_eq_t (tgt := 32) X dX12_canSet_21 rfl (by decide +kernel) ?_
      refine r_iconst (v := 0) X dX12_canSet_32 (by decide +kernel) ?_
      exact r_ret_z X hr hlk (Or.inl rfl) dX12_canSet_33 (Nat.le_of_ble_eq_true rfl) (Nat.le_of_ble_eq_true rfl) ⟨_, rfl, Or.inl ⟨q1, q2, rfl, rfl⟩⟩
    · refine r_if_eq_t (tgt := 32) X dX12_canSet_21 rfl (by decide +kernel) ?_
      refine r_iconst (v := 0) X dX12_canSet_32 (by decide +kernel) ?_
      exact r_ret_z X hr hlk (Or.inl rfl) dX12_canSet_33 (Nat.le_of_ble_eq_true rfl) (Nat.le_of_ble_eq_true rfl) ⟨_, rfl, Or.inr (Or.inl ⟨q1, q3, q4, rfl, rfl⟩)⟩
    · refine r_if_eq_f (tgt := 32) X dX12_canSet_21 rfl (by decide +kernel) ?_
      refine r_aload_n X dX12_canSet_24 rfl ?_
      refine r_iload_n X dX12_canSet_25 rfl ?_
      refine r_V1i X kv_X12_159 dX12_canSet_26 (apG (k := 0) hn rfl) rfl (km6_X12_isVoter l G _ _ hn _ _) rfl (fun x h' hΨ => ?_)
      rcases hΨ with ⟨q7, rfl, rfl⟩ | ⟨q8, rfl, rfl⟩
      · refine r_if_ne_f (tgt := 34) X dX12_canSet_29 rfl (by decide +kernel) ?_
        refine r_iconst (v := 0) X dX12_canSet_32 (by decide +kernel) ?_
        exact r_ret_z X hr hlk (Or.inl rfl) dX12_canSet_33 (Nat.le_of_ble_eq_true rfl) (Nat.le_of_ble_eq_true rfl) ⟨_, rfl, Or.inr (Or.inr (Or.inl ⟨q1, q5, q6, q7, rfl, rfl⟩))⟩
      · refine r_if_ne_f (tgt := 34) X dX12_canSet_29 rfl (by decide +kernel) ?_
        refine r_iconst (v := 0) X dX12_canSet_32 (by decide +kernel) ?_
        exact r_ret_z X hr hlk (Or.inl rfl) dX12_canSet_33 (Nat.le_of_ble_eq_true rfl) (Nat.le_of_ble_eq_true rfl) ⟨_, rfl, Or.inr (Or.inr (Or.inr (Or.inl ⟨q1, q5, q6, q8, rfl, rfl⟩)))⟩
  · refine r_aload_n X dX12_canSet_5 rfl ?_
    refine r_iload_n X dX12_canSet_6 rfl ?_
    refine r_iconst (v := 0) X dX12_canSet_7 (by decide +kernel) ?_
    refine r_bipush (v := 9) X dX12_canSet_8 (by decide +kernel) ?_
    refine r_V3i X kv_X12_155 dX12_canSet_10 (apG (k := 0) hn rfl) rfl (km4_X12_isIn l G _ _ hn _ _) rfl (fun x h' hΨ => ?_)
    rcases hΨ with ⟨q9, rfl, rfl⟩ | ⟨q10, q11, rfl, rfl⟩ | ⟨q12, q13, rfl, rfl⟩
    · exact r_ret_z X hr hlk (Or.inl rfl) dX12_canSet_13 (Nat.le_of_ble_eq_true rfl) (Nat.le_of_ble_eq_true rfl) ⟨_, rfl, Or.inr (Or.inr (Or.inr (Or.inr (Or.inl ⟨q1, q9, rfl, rfl⟩))))⟩
    · exact r_ret_z X hr hlk (Or.inl rfl) dX12_canSet_13 (Nat.le_of_ble_eq_true rfl) (Nat.le_of_ble_eq_true rfl) ⟨_, rfl, Or.inr (Or.inr (Or.inr (Or.inr (Or.inr (Or.inl ⟨q1, q10, q11, rfl, rfl⟩)))))⟩
    · exact r_ret_z X hr hlk (Or.inr rfl) dX12_canSet_13 (Nat.le_of_ble_eq_true rfl) (Nat.le_of_ble_eq_true rfl) ⟨_, rfl, Or.inr (Or.inr (Or.inr (Or.inr (Or.inr (Or.inr (⟨q1, q12, q13, rfl, rfl⟩))))))⟩
set_option maxRecDepth 100000 in
set_option maxHeartbeats 4000000 in
theorem m_set (l : Launch) (G : PG) (h0 : PH) (n : Nat) (hn : h0.length = n) (wf : Nat → Int32) (a b c0 : Int32) : PMet l G yX12_set cX12_set 4 (some .boolean) 2 0 0 [vR (n + 0), vI a, vI b, vI c0] (h0 ++ (frM n wf)) (qI (fun x h' => x = sp_set a b c0)) := by
  refine PMet.intro (by decide) (Nat.le_of_ble_eq_true rfl) ?_
  intro p e s m args below meth c X hr hlk hnm
  refine r_aload_n X dX12_set_0 rfl ?_
  refine r_iconst (v := 0) X dX12_set_1 (by decide +kernel) ?_
  refine a_put (a := 0) X hn fp_X12_140 dX12_set_2 rfl rfl rfl rfl ?_
  refine r_eq (h' := h0 ++ (frM n wf)) rfl rfl rfl ?_
  refine r_aload_n X dX12_set_5 rfl ?_
  refine r_iload_n X dX12_set_6 rfl ?_
  refine r_iload_n X dX12_set_7 rfl ?_
  refine r_iload_n X dX12_set_8 rfl ?_
  refine r_V3i X kv_X12_163 dX12_set_9 (apG (k := 0) hn rfl) rfl (km7_X12_canSet l G _ _ hn _ _ _ _) rfl (fun x h' hΨ => ?_)
  rcases hΨ with ⟨q1, q2, rfl, rfl⟩ | ⟨q3, q4, q5, rfl, rfl⟩ | ⟨q6, q7, q8, q9, rfl, rfl⟩ | ⟨q10, q11, q12, q13, rfl, rfl⟩ | ⟨q14, q15, rfl, rfl⟩ | ⟨q16, q17, q18, rfl, rfl⟩ | ⟨q19, q20, q21, rfl, rfl⟩
  · refine r_if_ne_f (tgt := 17) X dX12_set_12 rfl (by decide +kernel) ?_
    refine r_iconst (v := 0) X dX12_set_15 (by decide +kernel) ?_
    exact r_ret_z X hr hlk (Or.inl rfl) dX12_set_16 (Nat.le_of_ble_eq_true rfl) (Nat.le_of_ble_eq_true rfl) ⟨_, rfl, by unfold sp_set; (repeat' split) <;> first | rfl | (exfalso; have e0 : (0 : Int32).toInt = 0 := (by decide); have e1 : (1 : Int32).toInt = 1 := (by decide); have e2 : (4 : Int32).toInt = 4 := (by decide); have e3 : (9 : Int32).toInt = 9 := (by decide); simp only [inR, Int32.lt_iff_toInt_lt, Int32.le_iff_toInt_le, ← Int32.toInt_inj, true_or, or_true, not_true_eq_false, and_true, true_and, false_or, or_false, false_and, and_false, not_false_eq_true] at * <;> omega)⟩
  · refine r_if_ne_f (tgt := 17) X dX12_set_12 rfl (by decide +kernel) ?_
    refine r_iconst (v := 0) X dX12_set_15 (by decide +kernel) ?_
    exact r_ret_z X hr hlk (Or.inl rfl) dX12_set_16 (Nat.le_of_ble_eq_true rfl) (Nat.le_of_ble_eq_true rfl) ⟨_, rfl, by unfold sp_set; (repeat' split) <;> first | rfl | (exfalso; have e0 : (0 : Int32).toInt = 0 := (by decide); have e1 : (1 : Int32).toInt = 1 := (by decide); have e2 : (3 : Int32).toInt = 3 := (by decide); have e3 : (4 : Int32).toInt = 4 := (by decide); have e4 : (9 : Int32).toInt = 9 := (by decide); simp only [inR, Int32.lt_iff_toInt_lt, Int32.le_iff_toInt_le, ← Int32.toInt_inj, true_or, or_true, not_true_eq_false, and_true, true_and, false_or, or_false, false_and, and_false, not_false_eq_true] at * <;> omega)⟩
  · refine r_if_ne_f (tgt := 17) X dX12_set_12 rfl (by decide +kernel) ?_
    refine r_iconst (v := 0) X dX12_set_15 (by decide +kernel) ?_
    exact r_ret_z X hr hlk (Or.inl rfl) dX12_set_16 (Nat.le_of_ble_eq_true rfl) (Nat.le_of_ble_eq_true rfl) ⟨_, rfl, by unfold sp_set; (repeat' split) <;> first | rfl | (exfalso; have e0 : (0 : Int32).toInt = 0 := (by decide); have e1 : (1 : Int32).toInt = 1 := (by decide); have e2 : (3 : Int32).toInt = 3 := (by decide); have e3 : (4 : Int32).toInt = 4 := (by decide); have e4 : (9 : Int32).toInt = 9 := (by decide); simp only [inR, Int32.lt_iff_toInt_lt, Int32.le_iff_toInt_le, ← Int32.toInt_inj, true_or, or_true, not_true_eq_false, and_true, true_and, false_or, or_false, false_and, and_false, not_false_eq_true] at * <;> omega)⟩
  · refine r_if_ne_f (tgt := 17) X dX12_set_12 rfl (by decide +kernel) ?_
    refine r_iconst (v := 0) X dX12_set_15 (by decide +kernel) ?_
    exact r_ret_z X hr hlk (Or.inl rfl) dX12_set_16 (Nat.le_of_ble_eq_true rfl) (Nat.le_of_ble_eq_true rfl) ⟨_, rfl, by unfold sp_set; (repeat' split) <;> first | rfl | (exfalso; have e0 : (0 : Int32).toInt = 0 := (by decide); have e1 : (1 : Int32).toInt = 1 := (by decide); have e2 : (3 : Int32).toInt = 3 := (by decide); have e3 : (4 : Int32).toInt = 4 := (by decide); have e4 : (9 : Int32).toInt = 9 := (by decide); simp only [inR, Int32.lt_iff_toInt_lt, Int32.le_iff_toInt_le, ← Int32.toInt_inj, true_or, or_true, not_true_eq_false, and_true, true_and, false_or, or_false, false_and, and_false, not_false_eq_true] at * <;> omega)⟩
  · refine r_if_ne_f (tgt := 17) X dX12_set_12 rfl (by decide +kernel) ?_
    refine r_iconst (v := 0) X dX12_set_15 (by decide +kernel) ?_
    exact r_ret_z X hr hlk (Or.inl rfl) dX12_set_16 (Nat.le_of_ble_eq_true rfl) (Nat.le_of_ble_eq_true rfl) ⟨_, rfl, by unfold sp_set; (repeat' split) <;> first | rfl | (exfalso; have e0 : (0 : Int32).toInt = 0 := (by decide); have e1 : (1 : Int32).toInt = 1 := (by decide); have e2 : (4 : Int32).toInt = 4 := (by decide); have e3 : (9 : Int32).toInt = 9 := (by decide); simp only [inR, Int32.lt_iff_toInt_lt, Int32.le_iff_toInt_le, ← Int32.toInt_inj, true_or, or_true, not_true_eq_false, and_true, true_and, false_or, or_false, false_and, and_false, not_false_eq_true] at * <;> omega)⟩
  · refine r_if_ne_f (tgt := 17) X dX12_set_12 rfl (by decide +kernel) ?_
    refine r_iconst (v := 0) X dX12_set_15 (by decide +kernel) ?_
    exact r_ret_z X hr hlk (Or.inl rfl) dX12_set_16 (Nat.le_of_ble_eq_true rfl) (Nat.le_of_ble_eq_true rfl) ⟨_, rfl, by unfold sp_set; (repeat' split) <;> first | rfl | (exfalso; have e0 : (0 : Int32).toInt = 0 := (by decide); have e1 : (1 : Int32).toInt = 1 := (by decide); have e2 : (4 : Int32).toInt = 4 := (by decide); have e3 : (9 : Int32).toInt = 9 := (by decide); simp only [inR, Int32.lt_iff_toInt_lt, Int32.le_iff_toInt_le, ← Int32.toInt_inj, true_or, or_true, not_true_eq_false, and_true, true_and, false_or, or_false, false_and, and_false, not_false_eq_true] at * <;> omega)⟩
  · refine r_if_ne_t (tgt := 17) X dX12_set_12 rfl (by decide +kernel) ?_
    refine r_iload_n X dX12_set_17 rfl ?_
    refine r_if_ne_t (tgt := 28) X dX12_set_18 rfl (by have e1 : (0 : Int32).toInt = 0 := (by decide); have e2 : (4 : Int32).toInt = 4 := (by decide); simp only [Int32.lt_iff_toInt_lt, Int32.le_iff_toInt_le, ← Int32.toInt_inj] at q19 ⊢; omega) ?_
    refine r_iload_n X dX12_set_28 rfl ?_
    refine r_iconst (v := 1) X dX12_set_29 (by decide +kernel) ?_
    refine r_icmp_ne_t (tgt := 43) X dX12_set_30 rfl (by have e1 : (1 : Int32).toInt = 1 := (by decide); have e2 : (4 : Int32).toInt = 4 := (by decide); simp only [Int32.lt_iff_toInt_lt, Int32.le_iff_toInt_le, ← Int32.toInt_inj] at q19 ⊢; omega) ?_
    refine r_iload_n X dX12_set_43 rfl ?_
    refine r_iconst (v := 2) X dX12_set_44 (by decide +kernel) ?_
    refine r_icmp_ne_t (tgt := 55) X dX12_set_45 rfl (by have e1 : (2 : Int32).toInt = 2 := (by decide); have e2 : (4 : Int32).toInt = 4 := (by decide); simp only [Int32.lt_iff_toInt_lt, Int32.le_iff_toInt_le, ← Int32.toInt_inj] at q19 ⊢; omega) ?_
    refine r_iload_n X dX12_set_55 rfl ?_
    refine r_iconst (v := 3) X dX12_set_56 (by decide +kernel) ?_
    refine r_icmp_ne_t (tgt := 67) X dX12_set_57 rfl (by have e1 : (3 : Int32).toInt = 3 := (by decide); have e2 : (4 : Int32).toInt = 4 := (by decide); simp only [Int32.lt_iff_toInt_lt, Int32.le_iff_toInt_le, ← Int32.toInt_inj] at q19 ⊢; omega) ?_
    refine r_iload_n X dX12_set_67 rfl ?_
    refine r_iconst (v := 4) X dX12_set_68 (by decide +kernel) ?_
    refine r_icmp_ne_f (tgt := 79) X dX12_set_69 rfl (by have e1 : (4 : Int32).toInt = 4 := (by decide); simp only [Int32.lt_iff_toInt_lt, Int32.le_iff_toInt_le, ← Int32.toInt_inj] at q19 ⊢; omega) ?_
    refine r_aload_n X dX12_set_72 rfl ?_
    refine a_get (a := 0) X hn fg_X12_7 dX12_set_73 rfl rfl ?_
    refine r_iconst (v := 4) X dX12_set_76 (by decide +kernel) ?_
    refine r_iload_n X dX12_set_77 rfl ?_
    refine a_iastE (a := 1) (f' := nw 0 0 0 0 c0 0 0) X hn dX12_set_78 rfl (inK (by decide +kernel)) (nw_u4) ?_
    refine r_aload_n X dX12_set_79 rfl ?_
    refine r_iconst (v := 0) X dX12_set_80 (by decide +kernel) ?_
    refine a_put (a := 0) X hn fp_X12_143 dX12_set_81 rfl rfl rfl rfl ?_
    refine r_eq (h' := h0 ++ ((frM n wf).set 1 (eI 499 (nw 0 0 0 0 c0 0 0)))) rfl rfl rfl ?_
    refine r_iconst (v := 1) X dX12_set_84 (by decide +kernel) ?_
    exact r_ret_z X hr hlk (Or.inr rfl) dX12_set_85 (Nat.le_of_ble_eq_true rfl) (Nat.le_of_ble_eq_true rfl) ⟨_, rfl, by unfold sp_set; (repeat' split) <;> first | rfl | (exfalso; have e0 : (0 : Int32).toInt = 0 := (by decide); have e1 : (1 : Int32).toInt = 1 := (by decide); have e2 : (4 : Int32).toInt = 4 := (by decide); have e3 : (9 : Int32).toInt = 9 := (by decide); simp only [inR, Int32.lt_iff_toInt_lt, Int32.le_iff_toInt_le, ← Int32.toInt_inj, true_or, or_true, not_true_eq_false, and_true, true_and, false_or, or_false, false_and, and_false, not_false_eq_true] at * <;> omega)⟩
