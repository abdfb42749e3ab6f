set_option maxRecDepth 100000 in
set_option maxHeartbeats 4000000 in
theorem km1_X12_isIn (l : Launch) (G : PG) (h0 : PH) (n : Nat) (hn : h0.length = n) (wf : Nat → Int32) (z0 : Int32) : PMet l G yX12_isIn cX12_isIn 4 (some .boolean) 0 0 0 [vR (n + 0), vI z0, vI 0, vI 255] (h0 ++ (frM n wf)) (qI (fun x h' => ((z0 < 0) ∧ x = 0 ∧ h' = h0 ++ (frM n wf)) ∨ ((¬ z0 < 0) ∧ (255 < z0) ∧ x = 0 ∧ h' = h0 ++ (frM n wf)) ∨ ((¬ z0 < 0) ∧ (¬ 255 < z0) ∧ x = 1 ∧ h' = h0 ++ (frM n wf)))) := by
  refine PMet.intro (by decide) (Nat.le_of_ble_eq_true rfl) ?_
  intro p e s m args below meth c X hr hlk hnm
  refine r_iload_n X dX12_isIn_0 rfl ?_
  refine r_iload_n X dX12_isIn_1 rfl ?_
  refine r_icmp_lt (tgt := 14) X dX12_isIn_2 rfl (fun q1 => ?_) (fun q1 => ?_)
  · refine r_iconst (v := 0) X dX12_isIn_14 (by decide +kernel) ?_
    exact r_ret_z X hr hlk (Or.inl rfl) dX12_isIn_15 (Nat.le_of_ble_eq_true rfl) (Nat.le_of_ble_eq_true rfl) ⟨_, rfl, Or.inl ⟨q1, rfl, rfl⟩⟩
  · refine r_iload_n X dX12_isIn_5 rfl ?_
    refine r_iload_n X dX12_isIn_6 rfl ?_
    refine r_icmp_gt (tgt := 14) X dX12_isIn_7 rfl (fun q2 => ?_) (fun q2 => ?_)
    · refine r_iconst (v := 0) X dX12_isIn_14 (by decide +kernel) ?_
      exact r_ret_z X hr hlk (Or.inl rfl) dX12_isIn_15 (Nat.le_of_ble_eq_true rfl) (Nat.le_of_ble_eq_true rfl) ⟨_, rfl, Or.inr (Or.inl ⟨q1, q2, rfl, rfl⟩)⟩
    · refine r_iconst (v := 1) X dX12_isIn_10 (by decide +kernel) ?_
      refine r_goto (tgt := 15) X dX12_isIn_11 rfl ?_
      exact r_ret_z X hr hlk (Or.inr rfl) dX12_isIn_15 (Nat.le_of_ble_eq_true rfl) (Nat.le_of_ble_eq_true rfl) ⟨_, rfl, Or.inr (Or.inr (⟨q1, q2, rfl, rfl⟩))⟩
set_option maxRecDepth 100000 in
set_option maxHeartbeats 4000000 in
theorem km2_X12_isIn (l : Launch) (G : PG) (h0 : PH) (n : Nat) (hn : h0.length = n) (wf : Nat → Int32) (z0 : Int32) : PMet l G yX12_isIn cX12_isIn 4 (some .boolean) 0 0 0 [vR (n + 0), vI z0, vI ((-1)), vI 1] (h0 ++ (frM n wf)) (qI (fun x h' => ((z0 < (-1)) ∧ x = 0 ∧ h' = h0 ++ (frM n wf)) ∨ ((¬ z0 < (-1)) ∧ (1 < z0) ∧ x = 0 ∧ h' = h0 ++ (frM n wf)) ∨ ((¬ z0 < (-1)) ∧ (¬ 1 < z0) ∧ x = 1 ∧ h' = h0 ++ (frM n wf)))) := by
  refine PMet.intro (by decide) (Nat.le_of_ble_eq_true rfl) ?_
  intro p e s m args below meth c X hr hlk hnm
  refine r_iload_n X dX12_isIn_0 rfl ?_
  refine r_iload_n X dX12_isIn_1 rfl ?_
  refine r_icmp_lt (tgt := 14) X dX12_isIn_2 rfl (fun q1 => ?_) (fun q1 => ?_)
  · refine r_iconst (v := 0) X dX12_isIn_14 (by decide +kernel) ?_
    exact r_ret_z X hr hlk (Or.inl rfl) dX12_isIn_15 (Nat.le_of_ble_eq_true rfl) (Nat.le_of_ble_eq_true rfl) ⟨_, rfl, Or.inl ⟨q1, rfl, rfl⟩⟩
  · refine r_iload_n X dX12_isIn_5 rfl ?_
    refine r_iload_n X dX12_isIn_6 rfl ?_
    refine r_icmp_gt (tgt := 14) X dX12_isIn_7 rfl (fun q2 => ?_) (fun q2 => ?_)
    · refine r_iconst (v := 0) X dX12_isIn_14 (by decide +kernel) ?_
      exact r_ret_z X hr hlk (Or.inl rfl) dX12_isIn_15 (Nat.le_of_ble_eq_true rfl) (Nat.le_of_ble_eq_true rfl) ⟨_, rfl, Or.inr (Or.inl ⟨q1, q2, rfl, rfl⟩)⟩
    · refine r_iconst (v := 1) X dX12_isIn_10 (by decide +kernel) ?_
      refine r_goto (tgt := 15) X dX12_isIn_11 rfl ?_
      exact r_ret_z X hr hlk (Or.inr rfl) dX12_isIn_15 (Nat.le_of_ble_eq_true rfl) (Nat.le_of_ble_eq_true rfl) ⟨_, rfl, Or.inr (Or.inr (⟨q1, q2, rfl, rfl⟩))⟩
set_option maxRecDepth 100000 in
set_option maxHeartbeats 4000000 in
theorem km3_X12_isIn (l : Launch) (G : PG) (h0 : PH) (n : Nat) (hn : h0.length = n) (wf : Nat → Int32) (z0 : Int32) : PMet l G yX12_isIn cX12_isIn 4 (some .boolean) 0 0 0 [vR (n + 0), vI z0, vI 0, vI 11] (h0 ++ (frM n wf)) (qI (fun x h' => ((z0 < 0) ∧ x = 0 ∧ h' = h0 ++ (frM n wf)) ∨ ((¬ z0 < 0) ∧ (11 < z0) ∧ x = 0 ∧ h' = h0 ++ (frM n wf)) ∨ ((¬ z0 < 0) ∧ (¬ 11 < z0) ∧ x = 1 ∧ h' = h0 ++ (frM n wf)))) := by
  refine PMet.intro (by decide) (Nat.le_of_ble_eq_true rfl) ?_
  intro p e s m args below meth c X hr hlk hnm
  refine r_iload_n X dX12_isIn_0 rfl ?_
  refine r_iload_n X dX12_isIn_1 rfl ?_
  refine r_icmp_lt (tgt := 14) X dX12_isIn_2 rfl (fun q1 => ?_) (fun q1 => ?_)
  · refine r_iconst (v := 0) X dX12_isIn_14 (by decide +kernel) ?_
    exact r_ret_z X hr hlk (Or.inl rfl) dX12_isIn_15 (Nat.le_of_ble_eq_true rfl) (Nat.le_of_ble_eq_true rfl) ⟨_, rfl, Or.inl ⟨q1, rfl, rfl⟩⟩
  · refine r_iload_n X dX12_isIn_5 rfl ?_
    refine r_iload_n X dX12_isIn_6 rfl ?_
    refine r_icmp_gt (tgt := 14) X dX12_isIn_7 rfl (fun q2 => ?_) (fun q2 => ?_)
    · refine r_iconst (v := 0) X dX12_isIn_14 (by decide +kernel) ?_
      exact r_ret_z X hr hlk (Or.inl rfl) dX12_isIn_15 (Nat.le_of_ble_eq_true rfl) (Nat.le_of_ble_eq_true rfl) ⟨_, rfl, Or.inr (Or.inl ⟨q1, q2, rfl, rfl⟩)⟩
    · refine r_iconst (v := 1) X dX12_isIn_10 (by decide +kernel) ?_
      refine r_goto (tgt := 15) X dX12_isIn_11 rfl ?_
      exact r_ret_z X hr hlk (Or.inr rfl) dX12_isIn_15 (Nat.le_of_ble_eq_true rfl) (Nat.le_of_ble_eq_true rfl) ⟨_, rfl, Or.inr (Or.inr (⟨q1, q2, rfl, rfl⟩))⟩
set_option maxRecDepth 100000 in
set_option maxHeartbeats 4000000 in
theorem km4_X12_isIn (l : Launch) (G : PG) (h0 : PH) (n : Nat) (hn : h0.length = n) (wf : Nat → Int32) (z0 : Int32) : PMet l G yX12_isIn cX12_isIn 4 (some .boolean) 0 0 0 [vR (n + 0), vI z0, vI 0, vI 9] (h0 ++ (frM n wf)) (qI (fun x h' => ((z0 < 0) ∧ x = 0 ∧ h' = h0 ++ (frM n wf)) ∨ ((¬ z0 < 0) ∧ (9 < z0) ∧ x = 0 ∧ h' = h0 ++ (frM n wf)) ∨ ((¬ z0 < 0) ∧ (¬ 9 < z0) ∧ x = 1 ∧ h' = h0 ++ (frM n wf)))) := by
  refine PMet.intro (by decide) (Nat.le_of_ble_eq_true rfl) ?_
  intro p e s m args below meth c X hr hlk hnm
  refine r_iload_n X dX12_isIn_0 rfl ?_
  refine r_iload_n X dX12_isIn_1 rfl ?_
  refine r_icmp_lt (tgt := 14) X dX12_isIn_2 rfl (fun q1 => ?_) (fun q1 => ?_)
  · refine r_iconst (v := 0) X dX12_isIn_14 (by decide +kernel) ?_
    exact r_ret_z X hr hlk (Or.inl rfl) dX12_isIn_15 (Nat.le_of_ble_eq_true rfl) (Nat.le_of_ble_eq_true rfl) ⟨_, rfl, Or.inl ⟨q1, rfl, rfl⟩⟩
  · refine r_iload_n X dX12_isIn_5 rfl ?_
    refine r_iload_n X dX12_isIn_6 rfl ?_
    refine r_icmp_gt (tgt := 14) X dX12_isIn_7 rfl (fun q2 => ?_) (fun q2 => ?_)
    · refine r_iconst (v := 0) X dX12_isIn_14 (by decide +kernel) ?_
      exact r_ret_z X hr hlk (Or.inl rfl) dX12_isIn_15 (Nat.le_of_ble_eq_true rfl) (Nat.le_of_ble_eq_true rfl) ⟨_, rfl, Or.inr (Or.inl ⟨q1, q2, rfl, rfl⟩)⟩
    · refine r_iconst (v := 1) X dX12_isIn_10 (by decide +kernel) ?_
      refine r_goto (tgt := 15) X dX12_isIn_11 rfl ?_
      exact r_ret_z X hr hlk (Or.inr rfl) dX12_isIn_15 (Nat.le_of_ble_eq_true rfl) (Nat.le_of_ble_eq_true rfl) ⟨_, rfl, Or.inr (Or.inr (⟨q1, q2, rfl, rfl⟩))⟩
set_option maxRecDepth 100000 in
set_option maxHeartbeats 4000000 in
theorem m_voter (l : Launch) (G : PG) (h0 : PH) (n : Nat) (hn : h0.length = n) (wf : Nat → Int32) (a b c0 d : Int32) : PMet l G yX12_voter cX12_voter 5 (some .int) 1 0 0 [vR (n + 0), vI a, vI b, vI c0, vI d] (h0 ++ (frM n wf)) (qI (fun x h' => x = sp_voter a b c0 d)) := by
  refine PMet.intro (by decide) (Nat.le_of_ble_eq_true rfl) ?_
  intro p e s m args below meth c X hr hlk hnm
  refine r_aload_n X dX12_voter_0 rfl ?_
  refine r_iconst (v := 0) X dX12_voter_1 (by decide +kernel) ?_
  refine a_put (a := 0) X hn fp_X12_140 dX12_voter_2 rfl rfl rfl rfl ?_
  refine r_eq (h' := h0 ++ (frM n wf)) rfl rfl rfl ?_
  refine r_aload_n X dX12_voter_5 rfl ?_
  refine r_iload_n X dX12_voter_6 rfl ?_
  refine r_iconst (v := 0) X dX12_voter_7 (by decide +kernel) ?_
  refine r_sipush (v := 255) X dX12_voter_8 (by decide +kernel) ?_
  refine r_V3i X kv_X12_155 dX12_voter_11 (apG (k := 0) hn rfl) rfl (km1_X12_isIn l G _ _ hn _ _) rfl (fun x h' hΨ => ?_)
  rcases hΨ with ⟨q1, rfl, rfl⟩ | ⟨q2, q3, rfl, rfl⟩ | ⟨q4, q5, rfl, rfl⟩
  · refine r_if_eq_t (tgt := 59) X dX12_voter_14 rfl (by decide +kernel) ?_
    refine r_iconst (v := -1) X dX12_voter_59 (by decide +kernel) ?_
    exact r_ret_i X hr hlk dX12_voter_60 (Nat.le_of_ble_eq_true rfl) (Nat.le_of_ble_eq_true rfl) ⟨_, rfl, by unfold sp_voter; (repeat' split) <;> first | rfl | (exfalso; have e0 : (-1 : Int32).toInt = -1 := (by decide); have e1 : (0 : Int32).toInt = 0 := (by decide); have e2 : (1 : Int32).toInt = 1 := (by decide); have e3 : (11 : Int32).toInt = 11 := (by decide); have e4 : (255 : Int32).toInt = 255 := (by decide); have e5 : (9 : Int32).toInt = 9 := (by decide); simp only [inR, Int32.lt_iff_toInt_lt, Int32.le_iff_toInt_le, ← Int32.toInt_inj, true_or, or_true, not_true_eq_false, and_true, true_and, false_or, or_false, false_and, and_false, not_false_eq_true] at * <;> omega)⟩
  · refine r_if_eq_t (tgt := 59) X dX12_voter_14 rfl (by decide +kernel) ?_
    refine r_iconst (v := -1) X dX12_voter_59 (by decide +kernel) ?_
    exact r_ret_i X hr hlk dX12_voter_60 (Nat.le_of_ble_eq_true rfl) (Nat.le_of_ble_eq_true rfl) ⟨_, rfl, by unfold sp_voter; (repeat' split) <;> first | rfl | (exfalso; have e0 : (-1 : Int32).toInt = -1 := (by decide); have e1 : (0 : Int32).toInt = 0 := (by decide); have e2 : (1 : Int32).toInt = 1 := (by decide); have e3 : (11 : Int32).toInt = 11 := (by decide); have e4 : (255 : Int32).toInt = 255 := (by decide); have e5 : (9 : Int32).toInt = 9 := (by decide); simp only [inR, Int32.lt_iff_toInt_lt, Int32.le_iff_toInt_le, ← Int32.toInt_inj, true_or, or_true, not_true_eq_false, and_true, true_and, false_or, or_false, false_and, and_false, not_false_eq_true] at * <;> omega)⟩
  · refine r_if_eq_f (tgt := 59) X dX12_voter_14 rfl (by decide +kernel) ?_
    refine r_aload_n X dX12_voter_17 rfl ?_
    refine r_iload_n X dX12_voter_18 rfl ?_
    refine r_iconst (v := -1) X dX12_voter_19 (by decide +kernel) ?_
    refine r_iconst (v := 1) X dX12_voter_20 (by decide +kernel) ?_
    refine r_V3i X kv_X12_155 dX12_voter_21 (apG (k := 0) hn rfl) rfl (km2_X12_isIn l G _ _ hn _ _) rfl (fun x h' hΨ => ?_)
    rcases hΨ with ⟨q6, rfl, rfl⟩ | ⟨q7, q8, rfl, rfl⟩ | ⟨q9, q10, rfl, rfl⟩
    · refine r_if_eq_t (tgt := 59) X dX12_voter_24 rfl (by decide +kernel) ?_
      refine r_iconst (v := -1) X dX12_voter_59 (by decide +kernel) ?_
      exact r_ret_i X hr hlk dX12_voter_60 (Nat.le_of_ble_eq_true rfl) (Nat.le_of_ble_eq_true rfl) ⟨_, rfl, by unfold sp_voter; (repeat' split) <;> first | rfl | (exfalso; have e0 : (-1 : Int32).toInt = -1 := (by decide); have e1 : (0 : Int32).toInt = 0 := (by decide); have e2 : (1 : Int32).toInt = 1 := (by decide); have e3 : (11 : Int32).toInt = 11 := (by decide); have e4 : (255 : Int32).toInt = 255 := (by decide); have e5 : (9 : Int32).toInt = 9 := (by decide); simp only [inR, Int32.lt_iff_toInt_lt, Int32.le_iff_toInt_le, ← Int32.toInt_inj, true_or, or_true, not_true_eq_false, and_true, true_and, false_or, or_false, false_and, and_false, not_false_eq_true] at * <;> omega)⟩
    · refine r_if_eq_t (tgt := 59) X dX12_voter_24 rfl (by decide +kernel) ?_
      refine r_iconst (v := -1) X dX12_voter_59 (by decide +kernel) ?_
      exact r_ret_i X hr hlk dX12_voter_60 (Nat.le_of_ble_eq_true rfl) (Nat.le_of_ble_eq_true rfl) ⟨_, rfl, by unfold sp_voter; (repeat' split) <;> first | rfl | (exfalso; have e0 : (-1 : Int32).toInt = -1 := (by decide); have e1 : (0 : Int32).toInt = 0 := (by decide); have e2 : (1 : Int32).toInt = 1 := (by decide); have e3 : (11 : Int32).toInt = 11 := (by decide); have e4 : (255 : Int32).toInt = 255 := (by decide); have e5 : (9 : Int32).toInt = 9 := (by decide); simp only [inR, Int32.lt_iff_toInt_lt, Int32.le_iff_toInt_le, ← Int32.toInt_inj, true_or, or_true, not_true_eq_false, and_true, true_and, false_or, or_false, false_and, and_false, not_false_eq_true] at * <;> omega)⟩
    · refine r_if_eq_f (tgt := 59) X dX12_voter_24 rfl (by decide +kernel) ?_
      refine r_aload_n X dX12_voter_27 rfl ?_
      refine r_iload_n X dX12_voter_28 rfl ?_
      refine r_iconst (v := 0) X dX12_voter_29 (by decide +kernel) ?_
      refine r_bipush (v := 11) X dX12_voter_30 (by decide +kernel) ?_
      refine r_V3i X kv_X12_155 dX12_voter_32 (apG (k := 0) hn rfl) rfl (km3_X12_isIn l G _ _ hn _ _) rfl (fun x h' hΨ => ?_)
      rcases hΨ with ⟨q11, rfl, rfl⟩ | ⟨q12, q13, rfl, rfl⟩ | ⟨q14, q15, rfl, rfl⟩
      · refine r_if_eq_t (tgt := 59) X dX12_voter_35 rfl (by decide +kernel) ?_
        refine r_iconst (v := -1) X dX12_voter_59 (by decide +kernel) ?_
        exact r_ret_i X hr hlk dX12_voter_60 (Nat.le_of_ble_eq_true rfl) (Nat.le_of_ble_eq_true rfl) ⟨_, rfl, by unfold sp_voter; (repeat' split) <;> first | rfl | (exfalso; have e0 : (-1 : Int32).toInt = -1 := (by decide); have e1 : (0 : Int32).toInt = 0 := (by decide); have e2 : (1 : Int32).toInt = 1 := (by decide); have e3 : (11 : Int32).toInt = 11 := (by decide); have e4 : (255 : Int32).toInt = 255 := (by decide); have e5 : (9 : Int32).toInt = 9 := (by decide); simp only [inR, Int32.lt_iff_toInt_lt, Int32.le_iff_toInt_le, ← Int32.toInt_inj, true_or, or_true, not_true_eq_false, and_true, true_and, false_or, or_false, false_and, and_false, not_false_eq_true] at * <;> omega)⟩
      · refine r_if_eq_t (tgt := 59) X dX12_voter_35 rfl (by decide +kernel) ?_
        refine r_iconst (v := -1) X dX12_voter_59 (by decide +kernel) ?_
        exact r_ret_i X hr hlk dX12_voter_60 (Nat.le_of_ble_eq_true rfl) (Nat.le_of_ble_eq_true rfl) ⟨_, rfl, by unfold sp_voter; (repeat' split) <;> first | rfl | (exfalso; have e0 : (-1 : Int32).toInt = -1 := (by decide); have e1 : (0 : Int32).toInt = 0 := (by decide); have e2 : (1 : Int32).toInt = 1 := (by decide); have e3 : (11 : Int32).toInt = 11 := (by decide); have e4 : (255 : Int32).toInt = 255 := (by decide); have e5 : (9 : Int32).toInt = 9 := (by decide); simp only [inR, Int32.lt_iff_toInt_lt, Int32.le_iff_toInt_le, ← Int32.toInt_inj, true_or, or_true, not_true_eq_false, and_true, true_and, false_or, or_false, false_and, and_false, not_false_eq_true] at * <;> omega)⟩
      · refine r_if_eq_f (tgt := 59) X dX12_voter_35 rfl (by decide +kernel) ?_
        refine r_aload_n X dX12_voter_38 rfl ?_
        refine r_iload X dX12_voter_39 rfl ?_
        refine r_iconst (v := 0) X dX12_voter_41 (by decide +kernel) ?_
        refine r_bipush (v := 9) X dX12_voter_42 (by decide +kernel) ?_
        refine r_V3i X kv_X12_155 dX12_voter_44 (apG (k := 0) hn rfl) rfl (km4_X12_isIn l G _ _ hn _ _) rfl (fun x h' hΨ => ?_)
        rcases hΨ with ⟨q16, rfl, rfl⟩ | ⟨q17, q18, rfl, rfl⟩ | ⟨q19, q20, rfl, rfl⟩
        · refine r_if_eq_t (tgt := 59) X dX12_voter_47 rfl (by decide +kernel) ?_
          refine r_iconst (v := -1) X dX12_voter_59 (by decide +kernel) ?_
          exact r_ret_i X hr hlk dX12_voter_60 (Nat.le_of_ble_eq_true rfl) (Nat.le_of_ble_eq_true rfl) ⟨_, rfl, by unfold sp_voter; (repeat' split) <;> first | rfl | (exfalso; have e0 : (-1 : Int32).toInt = -1 := (by decide); have e1 : (0 : Int32).toInt = 0 := (by decide); have e2 : (1 : Int32).toInt = 1 := (by decide); have e3 : (11 : Int32).toInt = 11 := (by decide); have e4 : (255 : Int32).toInt = 255 := (by decide); have e5 : (9 : Int32).toInt = 9 := (by decide); simp only [inR, Int32.lt_iff_toInt_lt, Int32.le_iff_toInt_le, ← Int32.toInt_inj, true_or, or_true, not_true_eq_false, and_true, true_and, false_or, or_false, false_and, and_false, not_false_eq_true] at * <;> omega)⟩
        · refine r_if_eq_t (tgt := 59) X dX12_voter_47 rfl (by decide +kernel) ?_
          refine r_iconst (v := -1) X dX12_voter_59 (by decide +kernel) ?_
          exact r_ret_i X hr hlk dX12_voter_60 (Nat.le_of_ble_eq_true rfl) (Nat.le_of_ble_eq_true rfl) ⟨_, rfl, by unfold sp_voter; (repeat' split) <;> first | rfl | (exfalso; have e0 : (-1 : Int32).toInt = -1 := (by decide); have e1 : (0 : Int32).toInt = 0 := (by decide); have e2 : (1 : Int32).toInt = 1 := (by decide); have e3 : (11 : Int32).toInt = 11 := (by decide); have e4 : (255 : Int32).toInt = 255 := (by decide); have e5 : (9 : Int32).toInt = 9 := (by decide); simp only [inR, Int32.lt_iff_toInt_lt, Int32.le_iff_toInt_le, ← Int32.toInt_inj, true_or, or_true, not_true_eq_false, and_true, true_and, false_or, or_false, false_and, and_false, not_false_eq_true] at * <;> omega)⟩
        · refine r_if_eq_f (tgt := 59) X dX12_voter_47 rfl (by decide +kernel) ?_
          refine r_aload_n X dX12_voter_50 rfl ?_
          refine a_get (a := 0) X hn fg_X12_152 dX12_voter_51 rfl rfl ?_
          refine r_bipush (v := 20) X dX12_voter_54 (by decide +kernel) ?_
          refine r_icmp_ne_t (tgt := 61) X dX12_voter_56 rfl (by decide +kernel) ?_
          refine r_aload_n X dX12_voter_61 rfl ?_
          refine a_get (a := 0) X hn fg_X12_19 dX12_voter_62 rfl rfl ?_
          refine r_aload_n X dX12_voter_65 rfl ?_
          refine a_get (a := 0) X hn fg_X12_152 dX12_voter_66 rfl rfl ?_
          refine r_iload_n X dX12_voter_69 rfl ?_
          refine a_iast (a := 4) X hn dX12_voter_70 rfl (inK (by decide +kernel)) ?_
          refine r_aload_n X dX12_voter_71 rfl ?_
          refine a_get (a := 0) X hn fg_X12_22 dX12_voter_72 rfl rfl ?_
          refine r_aload_n X dX12_voter_75 rfl ?_
          refine a_get (a := 0) X hn fg_X12_152 dX12_voter_76 rfl rfl ?_
          refine r_iload_n X dX12_voter_79 rfl ?_
          refine a_iast (a := 5) X hn dX12_voter_80 rfl (inK (by decide +kernel)) ?_
          refine r_aload_n X dX12_voter_81 rfl ?_
          refine a_get (a := 0) X hn fg_X12_25 dX12_voter_82 rfl rfl ?_
          refine r_aload_n X dX12_voter_85 rfl ?_
          refine a_get (a := 0) X hn fg_X12_152 dX12_voter_86 rfl rfl ?_
          refine r_iload X dX12_voter_89 rfl ?_
          refine a_iast (a := 6) X hn dX12_voter_91 rfl (inK (by decide +kernel)) ?_
          refine r_aload_n X dX12_voter_92 rfl ?_
          refine a_get (a := 0) X hn fg_X12_7 dX12_voter_93 rfl rfl ?_
          refine r_bipush (v := 7) X dX12_voter_96 (by decide +kernel) ?_
          refine r_aload_n X dX12_voter_98 rfl ?_
          refine a_get (a := 0) X hn fg_X12_152 dX12_voter_99 rfl rfl ?_
          refine r_iaddE (v := 7) X dX12_voter_102 (by decide +kernel) ?_
          refine r_iload_n X dX12_voter_103 rfl ?_
          refine a_iast (a := 1) X hn dX12_voter_104 rfl (inK (by decide +kernel)) ?_
          refine r_eq (h' := h0 ++ (((((frM n wf).set 1 (eI 499 (upd (nw 0 0 0 0 0 0 0) (7 : Int32).toNatClampNeg (b)))).set 4 (eI 20 (upd (fun _ => 0) (0 : Int32).toNatClampNeg (a)))).set 5 (eI 20 (upd (fun _ => 0) (0 : Int32).toNatClampNeg (c0)))).set 6 (eI 20 (upd (fun _ => 0) (0 : Int32).toNatClampNeg (d))))) rfl rfl rfl ?_
          refine r_aload_n X dX12_voter_105 rfl ?_
          refine a_get (a := 0) X hn fg_X12_7 dX12_voter_106 rfl rfl ?_
          refine r_bipush (v := 27) X dX12_voter_109 (by decide +kernel) ?_
          refine r_aload_n X dX12_voter_111 rfl ?_
          refine a_get (a := 0) X hn fg_X12_152 dX12_voter_112 rfl rfl ?_
          refine r_iaddE (v := 27) X dX12_voter_115 (by decide +kernel) ?_
          refine r_iconst (v := 0) X dX12_voter_116 (by decide +kernel) ?_
          refine a_iast (a := 1) X hn dX12_voter_117 rfl (inK (by decide +kernel)) ?_
          refine r_eq (h' := h0 ++ (((((frM n wf).set 1 (eI 499 (upd (upd (nw 0 0 0 0 0 0 0) (7 : Int32).toNatClampNeg (b)) (27 : Int32).toNatClampNeg (0)))).set 4 (eI 20 (upd (fun _ => 0) (0 : Int32).toNatClampNeg (a)))).set 5 (eI 20 (upd (fun _ => 0) (0 : Int32).toNatClampNeg (c0)))).set 6 (eI 20 (upd (fun _ => 0) (0 : Int32).toNatClampNeg (d))))) rfl rfl rfl ?_
          refine r_aload_n X dX12_voter_118 rfl ?_
          refine a_get (a := 0) X hn fg_X12_7 dX12_voter_119 rfl rfl ?_
          refine r_bipush (v := 47) X dX12_voter_122 (by decide +kernel) ?_
          refine r_aload_n X dX12_voter_124 rfl ?_
          refine a_get (a := 0) X hn fg_X12_152 dX12_voter_125 rfl rfl ?_
          refine r_iaddE (v := 47) X dX12_voter_128 (by decide +kernel) ?_
          refine r_iconst (v := 0) X dX12_voter_129 (by decide +kernel) ?_
          refine a_iast (a := 1) X hn dX12_voter_130 rfl (inK (by decide +kernel)) ?_
          refine r_eq (h' := h0 ++ (((((frM n wf).set 1 (eI 499 (upd (upd (upd (nw 0 0 0 0 0 0 0) (7 : Int32).toNatClampNeg (b)) (27 : Int32).toNatClampNeg (0)) (47 : Int32).toNatClampNeg (0)))).set 4 (eI 20 (upd (fun _ => 0) (0 : Int32).toNatClampNeg (a)))).set 5 (eI 20 (upd (fun _ => 0) (0 : Int32).toNatClampNeg (c0)))).set 6 (eI 20 (upd (fun _ => 0) (0 : Int32).toNatClampNeg (d))))) rfl rfl rfl ?_
          refine r_aload_n X dX12_voter_131 rfl ?_
          refine r_aload_n X dX12_voter_132 rfl ?_
          refine a_get (a := 0) X hn fg_X12_152 dX12_voter_133 rfl rfl ?_
          refine r_iconst (v := 1) X dX12_voter_136 (by decide +kernel) ?_
          refine r_iaddE (v := 1) X dX12_voter_137 (by decide +kernel) ?_
          refine a_put (a := 0) X hn fp_X12_152 dX12_voter_138 rfl rfl rfl rfl ?_
          refine r_eq (h' := h0 ++ ((((((frM n wf).set 0 (eO 12 [vI 0, vR (n + 1), vR (n + 2), vI 0, vR (n + 3), vI 0, vI 1, vR (n + 4), vR (n + 5), vR (n + 6), vR (n + 7), vR (n + 8), vI 0, vI 0, vI 0, vI 0, vI 0, vR (n + 9), vR (n + 10), vR (n + 11), vR (n + 12), vR (n + 13), vR (n + 14), vR (n + 15), vR (n + 16), vI 0, vI 0, vI 0, vR (n + 17), vI 0, vI 0, vI 0, vI 0, vI ((-1)), vI 0, vR (n + 18), vI 0, vR (n + 19), vI 0, vR (n + 20), vR (n + 21), vR (n + 22), vR (n + 23), vI 0, vR (n + 24), vR (n + 25), vI 0, vR (n + 26), vR (n + 27), vR (n + 28), vI 0, vR (n + 29), vI 0, vR (n + 30), vI 0, vR (n + 31), vR (n + 32), vI 0, vR (n + 33), vR (n + 34), vR (n + 35), vI 0, vR (n + 36), vI 0, vR (n + 37), vI 0, vR (n + 38), vR (n + 39), vR (n + 40), vR (n + 41), vI 0, vI 0, vI 0, vI 0, vI 0, vR (n + 42)])).set 1 (eI 499 (upd (upd (upd (nw 0 0 0 0 0 0 0) (7 : Int32).toNatClampNeg (b)) (27 : Int32).toNatClampNeg (0)) (47 : Int32).toNatClampNeg (0)))).set 4 (eI 20 (upd (fun _ => 0) (0 : Int32).toNatClampNeg (a)))).set 5 (eI 20 (upd (fun _ => 0) (0 : Int32).toNatClampNeg (c0)))).set 6 (eI 20 (upd (fun _ => 0) (0 : Int32).toNatClampNeg (d))))) rfl rfl rfl ?_
          refine r_aload_n X dX12_voter_141 rfl ?_
          refine r_iconst (v := 0) X dX12_voter_142 (by decide +kernel) ?_
          refine a_put (a := 0) X hn fp_X12_143 dX12_voter_143 rfl rfl rfl rfl ?_
          refine r_eq (h' := h0 ++ ((((((frM n wf).set 0 (eO 12 [vI 0, vR (n + 1), vR (n + 2), vI 0, vR (n + 3), vI 0, vI 1, vR (n + 4), vR (n + 5), vR (n + 6), vR (n + 7), vR (n + 8), vI 0, vI 0, vI 0, vI 0, vI 0, vR (n + 9), vR (n + 10), vR (n + 11), vR (n + 12), vR (n + 13), vR (n + 14), vR (n + 15), vR (n + 16), vI 0, vI 0, vI 0, vR (n + 17), vI 0, vI 0, vI 0, vI 0, vI ((-1)), vI 0, vR (n + 18), vI 0, vR (n + 19), vI 0, vR (n + 20), vR (n + 21), vR (n + 22), vR (n + 23), vI 0, vR (n + 24), vR (n + 25), vI 0, vR (n + 26), vR (n + 27), vR (n + 28), vI 0, vR (n + 29), vI 0, vR (n + 30), vI 0, vR (n + 31), vR (n + 32), vI 0, vR (n + 33), vR (n + 34), vR (n + 35), vI 0, vR (n + 36), vI 0, vR (n + 37), vI 0, vR (n + 38), vR (n + 39), vR (n + 40), vR (n + 41), vI 0, vI 0, vI 0, vI 0, vI 0, vR (n + 42)])).set 1 (eI 499 (upd (upd (upd (nw 0 0 0 0 0 0 0) (7 : Int32).toNatClampNeg (b)) (27 : Int32).toNatClampNeg (0)) (47 : Int32).toNatClampNeg (0)))).set 4 (eI 20 (upd (fun _ => 0) (0 : Int32).toNatClampNeg (a)))).set 5 (eI 20 (upd (fun _ => 0) (0 : Int32).toNatClampNeg (c0)))).set 6 (eI 20 (upd (fun _ => 0) (0 : Int32).toNatClampNeg (d))))) rfl rfl rfl ?_
          refine r_aload_n X dX12_voter_146 rfl ?_
          refine a_get (a := 0) X hn fg_X12_152 dX12_voter_147 rfl rfl ?_
          refine r_iconst (v := 1) X dX12_voter_150 (by decide +kernel) ?_
          refine r_isubE (v := 0) X dX12_voter_151 (by decide +kernel) ?_
          exact r_ret_i X hr hlk dX12_voter_152 (Nat.le_of_ble_eq_true rfl) (Nat.le_of_ble_eq_true rfl) ⟨_, rfl, by unfold sp_voter; (repeat' split) <;> first | rfl | (exfalso; have e0 : (-1 : Int32).toInt = -1 := (by decide); have e1 : (0 : Int32).toInt = 0 := (by decide); have e2 : (1 : Int32).toInt = 1 := (by decide); have e3 : (11 : Int32).toInt = 11 := (by decide); have e4 : (255 : Int32).toInt = 255 := (by decide); have e5 : (9 : Int32).toInt = 9 := (by decide); simp only [inR, Int32.lt_iff_toInt_lt, Int32.le_iff_toInt_le, ← Int32.toInt_inj, true_or, or_true, not_true_eq_false, and_true, true_and, false_or, or_false, false_and, and_false, not_false_eq_true] at * <;> omega)⟩
