set_option maxRecDepth 100000 in
set_option maxHeartbeats 4000000 in
theorem x_waxO (l : Launch) (G : PG) (h0 : PH) (n : Nat) (hn : h0.length = n) (T : PH) (a : Int32) (q0 : a.toInt < ((0 : Nat) : Int) ∨ ((9 : Nat) : Int) < a.toInt) : PMet l G yX11_wax cX11_wax 2 (some .int) 6 0 0 [vR (n + 0), vI a] (h0 ++ (frC n ++ T)) (qI (fun x h' => x = sp_wax a ∧ kp n 103 T h')) := by
  refine PMet.intro (by decide) (Nat.le_of_ble_eq_true rfl) ?_
  intro p e s m args below meth c X hr hlk hnm
  have qq_0 : ¬ a = 0 := by rintro rfl; revert q0; decide
  have qq_1 : ¬ a = 1 := by rintro rfl; revert q0; decide
  have qq_2 : ¬ a = 2 := by rintro rfl; revert q0; decide
  have qq_3 : ¬ a = 3 := by rintro rfl; revert q0; decide
  have qq_4 : ¬ a = 4 := by rintro rfl; revert q0; decide
  have qq_5 : ¬ a = 5 := by rintro rfl; revert q0; decide
  have qq_6 : ¬ a = 6 := by rintro rfl; revert q0; decide
  have qq_7 : ¬ a = 7 := by rintro rfl; revert q0; decide
  have qq_8 : ¬ a = 8 := by rintro rfl; revert q0; decide
  have qq_9 : ¬ a = 9 := by rintro rfl; revert q0; decide
  refine r_iload_n X dX11_wax_0 rfl ?_
  refine r_tabOut (tgt := 174) X dX11_wax_1 q0 rfl ?_
  refine r_ldc (v := -100000) X kc_X11_197 dX11_wax_174 ?_
  exact r_ret_i X hr hlk dX11_wax_176 (Nat.le_of_ble_eq_true rfl) (Nat.le_of_ble_eq_true rfl) ⟨_, rfl, by unfold sp_wax; (repeat' split) <;> first | rfl | (exfalso; have e0 : (-1 : Int32).toInt = -1 := (by decide); have e1 : (-100000 : Int32).toInt = -100000 := (by decide); have e2 : (0 : Int32).toInt = 0 := (by decide); have e3 : (1 : Int32).toInt = 1 := (by decide); have e4 : (12 : Int32).toInt = 12 := (by decide); have e5 : (2 : Int32).toInt = 2 := (by decide); have e6 : (3 : Int32).toInt = 3 := (by decide); have e7 : (4 : Int32).toInt = 4 := (by decide); have e8 : (5 : Int32).toInt = 5 := (by decide); have e9 : (6 : Int32).toInt = 6 := (by decide); have e10 : (7 : Int32).toInt = 7 := (by decide); have e11 : (8 : Int32).toInt = 8 := (by decide); have e12 : (9 : Int32).toInt = 9 := (by decide); simp only [inR, Int32.lt_iff_toInt_lt, Int32.le_iff_toInt_le, ← Int32.toInt_inj, true_or, or_true, not_true_eq_false, and_true, true_and, false_or, or_false, false_and, and_false, not_false_eq_true] at * <;> omega), kp_of hn rfl rfl⟩
set_option maxRecDepth 100000 in
set_option maxHeartbeats 4000000 in
theorem kwm1_X12_isIn (l : Launch) (G : PG) (h0 : PH) (n : Nat) (hn : h0.length = n) (wf : Nat → Int32) (z0 : Int32) : PMet l G yX12_isIn cX12_isIn 4 (some .boolean) 0 0 0 [vR (n + 0), vI z0, vI 0, vI 9] (h0 ++ (frM n wf)) (qI (fun x h' => ((z0 < 0) ∧ x = 0 ∧ h' = h0 ++ (frM n wf)) ∨ ((¬ z0 < 0) ∧ (9 < z0) ∧ x = 0 ∧ h' = h0 ++ (frM n wf)) ∨ ((¬ z0 < 0) ∧ (¬ 9 < z0) ∧ x = 1 ∧ h' = h0 ++ (frM n wf)))) := by
  refine PMet.intro (by decide) (Nat.le_of_ble_eq_true rfl) ?_
  intro p e s m args below meth c X hr hlk hnm
  refine r_iload_n X dX12_isIn_0 rfl ?_
  refine r_iload_n X dX12_isIn_1 rfl ?_
  refine r_icmp_lt (tgt := 14) X dX12_isIn_2 rfl (fun q1 => ?_) (fun q1 => ?_)
  · refine r_iconst (v := 0) X dX12_isIn_14 (by decide +kernel) ?_
    exact r_ret_z X hr hlk (Or.inl rfl) dX12_isIn_15 (Nat.le_of_ble_eq_true rfl) (Nat.le_of_ble_eq_true rfl) ⟨_, rfl, Or.inl ⟨q1, rfl, rfl⟩⟩
  · refine r_iload_n X dX12_isIn_5 rfl ?_
    refine r_iload_n X dX12_isIn_6 rfl ?_
    refine r_icmp_gt (tgt := 14) X dX12_isIn_7 rfl (fun q2 => ?_) (fun q2 => ?_)
    · refine r_iconst (v := 0) X dX12_isIn_14 (by decide +kernel) ?_
      exact r_ret_z X hr hlk (Or.inl rfl) dX12_isIn_15 (Nat.le_of_ble_eq_true rfl) (Nat.le_of_ble_eq_true rfl) ⟨_, rfl, Or.inr (Or.inl ⟨q1, q2, rfl, rfl⟩)⟩
    · refine r_iconst (v := 1) X dX12_isIn_10 (by decide +kernel) ?_
      refine r_goto (tgt := 15) X dX12_isIn_11 rfl ?_
      exact r_ret_z X hr hlk (Or.inr rfl) dX12_isIn_15 (Nat.le_of_ble_eq_true rfl) (Nat.le_of_ble_eq_true rfl) ⟨_, rfl, Or.inr (Or.inr (⟨q1, q2, rfl, rfl⟩))⟩
set_option maxRecDepth 100000 in
set_option maxHeartbeats 4000000 in
theorem m_waxO (l : Launch) (G : PG) (h0 : PH) (n : Nat) (hn : h0.length = n) (wf : Nat → Int32) (a : Int32) (q0 : a.toInt < ((0 : Nat) : Int) ∨ ((9 : Nat) : Int) < a.toInt) : PMet l G yX12_wax cX12_wax 2 (some .int) 6 0 0 [vR (n + 0), vI a] (h0 ++ (frM n wf)) (qI (fun x h' => x = sp_wax a)) := by
  refine PMet.intro (by decide) (Nat.le_of_ble_eq_true rfl) ?_
  intro p e s m args below meth c X hr hlk hnm
  have qq_0 : ¬ a = 0 := by rintro rfl; revert q0; decide
  have qq_1 : ¬ a = 1 := by rintro rfl; revert q0; decide
  have qq_2 : ¬ a = 2 := by rintro rfl; revert q0; decide
  have qq_3 : ¬ a = 3 := by rintro rfl; revert q0; decide
  have qq_4 : ¬ a = 4 := by rintro rfl; revert q0; decide
  have qq_5 : ¬ a = 5 := by rintro rfl; revert q0; decide
  have qq_6 : ¬ a = 6 := by rintro rfl; revert q0; decide
  have qq_7 : ¬ a = 7 := by rintro rfl; revert q0; decide
  have qq_8 : ¬ a = 8 := by rintro rfl; revert q0; decide
  have qq_9 : ¬ a = 9 := by rintro rfl; revert q0; decide
  refine r_aload_n X dX12_wax_0 rfl ?_
  refine r_iconst (v := 0) X dX12_wax_1 (by decide +kernel) ?_
  refine a_put (a := 0) X hn fp_X12_140 dX12_wax_2 rfl rfl rfl rfl ?_
  refine r_eq (h' := h0 ++ (frM n wf)) rfl rfl rfl ?_
  refine r_aload_n X dX12_wax_5 rfl ?_
  refine r_iload_n X dX12_wax_6 rfl ?_
  refine r_iconst (v := 0) X dX12_wax_7 (by decide +kernel) ?_
  refine r_bipush (v := 9) X dX12_wax_8 (by decide +kernel) ?_
  refine r_V3i X kv_X12_155 dX12_wax_10 (apG (k := 0) hn rfl) rfl (kwm1_X12_isIn l G _ _ hn _ _) rfl (fun x h' hΨ => ?_)
  rcases hΨ with ⟨q1, rfl, rfl⟩ | ⟨q2, q3, rfl, rfl⟩ | ⟨q4, q5, rfl, rfl⟩
  · refine r_if_ne_f (tgt := 20) X dX12_wax_13 rfl (by decide +kernel) ?_
    refine r_ldc_w (v := -100000) X kc_X12_405 dX12_wax_16 ?_
    exact r_ret_i X hr hlk dX12_wax_19 (Nat.le_of_ble_eq_true rfl) (Nat.le_of_ble_eq_true rfl) ⟨_, rfl, by unfold sp_wax; (repeat' split) <;> first | rfl | (exfalso; have e0 : (-1 : Int32).toInt = -1 := (by decide); have e1 : (-100000 : Int32).toInt = -100000 := (by decide); have e2 : (0 : Int32).toInt = 0 := (by decide); have e3 : (1 : Int32).toInt = 1 := (by decide); have e4 : (12 : Int32).toInt = 12 := (by decide); have e5 : (2 : Int32).toInt = 2 := (by decide); have e6 : (3 : Int32).toInt = 3 := (by decide); have e7 : (4 : Int32).toInt = 4 := (by decide); have e8 : (5 : Int32).toInt = 5 := (by decide); have e9 : (6 : Int32).toInt = 6 := (by decide); have e10 : (7 : Int32).toInt = 7 := (by decide); have e11 : (8 : Int32).toInt = 8 := (by decide); have e12 : (9 : Int32).toInt = 9 := (by decide); simp only [inR, Int32.lt_iff_toInt_lt, Int32.le_iff_toInt_le, ← Int32.toInt_inj, true_or, or_true, not_true_eq_false, and_true, true_and, false_or, or_false, false_and, and_false, not_false_eq_true] at * <;> omega)⟩
  · refine r_if_ne_f (tgt := 20) X dX12_wax_13 rfl (by decide +kernel) ?_
    refine r_ldc_w (v := -100000) X kc_X12_405 dX12_wax_16 ?_
    exact r_ret_i X hr hlk dX12_wax_19 (Nat.le_of_ble_eq_true rfl) (Nat.le_of_ble_eq_true rfl) ⟨_, rfl, by unfold sp_wax; (repeat' split) <;> first | rfl | (exfalso; have e0 : (-1 : Int32).toInt = -1 := (by decide); have e1 : (-100000 : Int32).toInt = -100000 := (by decide); have e2 : (0 : Int32).toInt = 0 := (by decide); have e3 : (1 : Int32).toInt = 1 := (by decide); have e4 : (12 : Int32).toInt = 12 := (by decide); have e5 : (2 : Int32).toInt = 2 := (by decide); have e6 : (3 : Int32).toInt = 3 := (by decide); have e7 : (4 : Int32).toInt = 4 := (by decide); have e8 : (5 : Int32).toInt = 5 := (by decide); have e9 : (6 : Int32).toInt = 6 := (by decide); have e10 : (7 : Int32).toInt = 7 := (by decide); have e11 : (8 : Int32).toInt = 8 := (by decide); have e12 : (9 : Int32).toInt = 9 := (by decide); simp only [inR, Int32.lt_iff_toInt_lt, Int32.le_iff_toInt_le, ← Int32.toInt_inj, true_or, or_true, not_true_eq_false, and_true, true_and, false_or, or_false, false_and, and_false, not_false_eq_true] at * <;> omega)⟩
  · exact absurd (by have e1 : (0 : Int32).toInt = 0 := (by decide); have e2 : (1 : Int32).toInt = 1 := (by decide); have e3 : (2 : Int32).toInt = 2 := (by decide); have e4 : (3 : Int32).toInt = 3 := (by decide); have e5 : (4 : Int32).toInt = 4 := (by decide); have e6 : (5 : Int32).toInt = 5 := (by decide); have e7 : (6 : Int32).toInt = 6 := (by decide); have e8 : (7 : Int32).toInt = 7 := (by decide); have e9 : (8 : Int32).toInt = 8 := (by decide); have e10 : (9 : Int32).toInt = 9 := (by decide); simp only [Int32.lt_iff_toInt_lt, Int32.le_iff_toInt_le, ← Int32.toInt_inj] at qq_0 qq_1 qq_2 qq_3 qq_4 qq_5 qq_6 qq_7 qq_8 qq_9 q4 q5; omega) (id : ¬ False)
theorem x_wax (l : Launch) (G : PG) (h0 : PH) (n : Nat) (hn : h0.length = n) (T : PH) (a : Int32) : PMet l G yX11_wax cX11_wax 2 (some .int) 6 0 0 [vR (n + 0), vI a] (h0 ++ (frC n ++ T)) (qI (fun x h' => x = sp_wax a ∧ kp n 103 T h')) := by
  rcases tabc a 0 9 (by decide) with q | ⟨j, hj, e⟩
  · exact x_waxO l G h0 n hn T a q
  · rcases (show j = 0 ∨ j = 1 ∨ j = 2 ∨ j = 3 ∨ j = 4 ∨ j = 5 ∨ j = 6 ∨ j = 7 ∨ j = 8 ∨ j = 9 by omega) with rfl | rfl | rfl | rfl | rfl | rfl | rfl | rfl | rfl | rfl
    · obtain rfl : a = 0 := e.trans (by decide +kernel)
      exact x_wax0 l G h0 n hn T
    · obtain rfl : a = 1 := e.trans (by decide +kernel)
      exact x_wax1 l G h0 n hn T
    · obtain rfl : a = 2 := e.trans (by decide +kernel)
      exact x_wax2 l G h0 n hn T
    · obtain rfl : a = 3 := e.trans (by decide +kernel)
      exact x_wax3 l G h0 n hn T
    · obtain rfl : a = 4 := e.trans (by decide +kernel)
      exact x_wax4 l G h0 n hn T
    · obtain rfl : a = 5 := e.trans (by decide +kernel)
      exact x_wax5 l G h0 n hn T
    · obtain rfl : a = 6 := e.trans (by decide +kernel)
      exact x_wax6 l G h0 n hn T
    · obtain rfl : a = 7 := e.trans (by decide +kernel)
      exact x_wax7 l G h0 n hn T
    · obtain rfl : a = 8 := e.trans (by decide +kernel)
      exact x_wax8 l G h0 n hn T
    · obtain rfl : a = 9 := e.trans (by decide +kernel)
      exact x_wax9 l G h0 n hn T
theorem m_wax (l : Launch) (G : PG) (h0 : PH) (n : Nat) (hn : h0.length = n) (wf : Nat → Int32) (a : Int32) : PMet l G yX12_wax cX12_wax 2 (some .int) 6 0 0 [vR (n + 0), vI a] (h0 ++ (frM n wf)) (qI (fun x h' => x = sp_wax a)) := by
  rcases tabc a 0 9 (by decide) with q | ⟨j, hj, e⟩
  · exact m_waxO l G h0 n hn wf a q
  · rcases (show j = 0 ∨ j = 1 ∨ j = 2 ∨ j = 3 ∨ j = 4 ∨ j = 5 ∨ j = 6 ∨ j = 7 ∨ j = 8 ∨ j = 9 by omega) with rfl | rfl | rfl | rfl | rfl | rfl | rfl | rfl | rfl | rfl
    · obtain rfl : a = 0 := e.trans (by decide +kernel)
      exact m_wax0 l G h0 n hn wf
    · obtain rfl : a = 1 := e.trans (by decide +kernel)
      exact m_wax1 l G h0 n hn wf
    · obtain rfl : a = 2 := e.trans (by decide +kernel)
      exact m_wax2 l G h0 n hn wf
    · obtain rfl : a = 3 := e.trans (by decide +kernel)
      exact m_wax3 l G h0 n hn wf
    · obtain rfl : a = 4 := e.trans (by decide +kernel)
      exact m_wax4 l G h0 n hn wf
    · obtain rfl : a = 5 := e.trans (by decide +kernel)
      exact m_wax5 l G h0 n hn wf
    · obtain rfl : a = 6 := e.trans (by decide +kernel)
      exact m_wax6 l G h0 n hn wf
    · obtain rfl : a = 7 := e.trans (by decide +kernel)
      exact m_wax7 l G h0 n hn wf
    · obtain rfl : a = 8 := e.trans (by decide +kernel)
      exact m_wax8 l G h0 n hn wf
    · obtain rfl : a = 9 := e.trans (by decide +kernel)
      exact m_wax9 l G h0 n hn wf
