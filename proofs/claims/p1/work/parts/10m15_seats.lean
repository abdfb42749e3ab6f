set_option maxRecDepth 100000 in
set_option maxHeartbeats 4000000 in
theorem km19_X12_isIn (l : Launch) (G : PG) (h0 : PH) (n : Nat) (hn : h0.length = n) (wf : Nat → Int32) (z0 : Int32) : PMet l G yX12_isIn cX12_isIn 4 (some .boolean) 0 0 0 [vR (n + 0), vI z0, vI 1, vI 40] (h0 ++ (frM n wf)) (qI (fun x h' => ((z0 < 1) ∧ x = 0 ∧ h' = h0 ++ (frM n wf)) ∨ ((¬ z0 < 1) ∧ (40 < z0) ∧ x = 0 ∧ h' = h0 ++ (frM n wf)) ∨ ((¬ z0 < 1) ∧ (¬ 40 < z0) ∧ x = 1 ∧ h' = h0 ++ (frM n wf)))) := by
  refine PMet.intro (by decide) (Nat.le_of_ble_eq_true rfl) ?_
  intro p e s m args below meth c X hr hlk hnm
  refine r_iload_n X dX12_isIn_0 rfl ?_
  refine r_iload_n X dX12_isIn_1 rfl ?_
  refine r_icmp_lt (tgt := 14) X dX12_isIn_2 rfl (fun q1 => ?_) (fun q1 => ?_)
  · refine r_iconst (v := 0) X dX12_isIn_14 (by decide +kernel) ?_
    exact r_ret_z X hr hlk (Or.inl rfl) dX12_isIn_15 (Nat.le_of_ble_eq_true rfl) (Nat.le_of_ble_eq_true rfl) ⟨_, rfl, Or.inl ⟨q1, rfl, rfl⟩⟩
  · refine r_iload_n X dX12_isIn_5 rfl ?_
    refine r_iload_n X dX12_isIn_6 rfl ?_
    refine r_icmp_gt (tgt := 14) X dX12_isIn_7 rfl (fun q2 => ?_) (fun q2 => ?_)
    · refine r_iconst (v := 0) X dX12_isIn_14 (by decide +kernel) ?_
      exact r_ret_z X hr hlk (Or.inl rfl) dX12_isIn_15 (Nat.le_of_ble_eq_true rfl) (Nat.le_of_ble_eq_true rfl) ⟨_, rfl, Or.inr (Or.inl ⟨q1, q2, rfl, rfl⟩)⟩
    · refine r_iconst (v := 1) X dX12_isIn_10 (by decide +kernel) ?_
      refine r_goto (tgt := 15) X dX12_isIn_11 rfl ?_
      exact r_ret_z X hr hlk (Or.inr rfl) dX12_isIn_15 (Nat.le_of_ble_eq_true rfl) (Nat.le_of_ble_eq_true rfl) ⟨_, rfl, Or.inr (Or.inr (⟨q1, q2, rfl, rfl⟩))⟩
set_option maxRecDepth 100000 in
set_option maxHeartbeats 4000000 in
theorem km20_X12_isIn (l : Launch) (G : PG) (h0 : PH) (n : Nat) (hn : h0.length = n) (wf : Nat → Int32) (z0 : Int32) : PMet l G yX12_isIn cX12_isIn 4 (some .boolean) 0 0 0 [vR (n + 0), vI z0, vI 0, vI 1] (h0 ++ (frM n wf)) (qI (fun x h' => ((z0 < 0) ∧ x = 0 ∧ h' = h0 ++ (frM n wf)) ∨ ((¬ z0 < 0) ∧ (1 < z0) ∧ x = 0 ∧ h' = h0 ++ (frM n wf)) ∨ ((¬ z0 < 0) ∧ (¬ 1 < z0) ∧ x = 1 ∧ h' = h0 ++ (frM n wf)))) := by
  refine PMet.intro (by decide) (Nat.le_of_ble_eq_true rfl) ?_
  intro p e s m args below meth c X hr hlk hnm
  refine r_iload_n X dX12_isIn_0 rfl ?_
  refine r_iload_n X dX12_isIn_1 rfl ?_
  refine r_icmp_lt (tgt := 14) X dX12_isIn_2 rfl (fun q1 => ?_) (fun q1 => ?_)
  · refine r_iconst (v := 0) X dX12_isIn_14 (by decide +kernel) ?_
    exact r_ret_z X hr hlk (Or.inl rfl) dX12_isIn_15 (Nat.le_of_ble_eq_true rfl) (Nat.le_of_ble_eq_true rfl) ⟨_, rfl, Or.inl ⟨q1, rfl, rfl⟩⟩
  · refine r_iload_n X dX12_isIn_5 rfl ?_
    refine r_iload_n X dX12_isIn_6 rfl ?_
    refine r_icmp_gt (tgt := 14) X dX12_isIn_7 rfl (fun q2 => ?_) (fun q2 => ?_)
    · refine r_iconst (v := 0) X dX12_isIn_14 (by decide +kernel) ?_
      exact r_ret_z X hr hlk (Or.inl rfl) dX12_isIn_15 (Nat.le_of_ble_eq_true rfl) (Nat.le_of_ble_eq_true rfl) ⟨_, rfl, Or.inr (Or.inl ⟨q1, q2, rfl, rfl⟩)⟩
    · refine r_iconst (v := 1) X dX12_isIn_10 (by decide +kernel) ?_
      refine r_goto (tgt := 15) X dX12_isIn_11 rfl ?_
      exact r_ret_z X hr hlk (Or.inr rfl) dX12_isIn_15 (Nat.le_of_ble_eq_true rfl) (Nat.le_of_ble_eq_true rfl) ⟨_, rfl, Or.inr (Or.inr (⟨q1, q2, rfl, rfl⟩))⟩
set_option maxRecDepth 100000 in
set_option maxHeartbeats 4000000 in
theorem m_seats (l : Launch) (G : PG) (h0 : PH) (n : Nat) (hn : h0.length = n) (wf : Nat → Int32) (a b c0 : Int32) : PMet l G yX12_seats cX12_seats 7 (some .int) 1 0 0 [vR (n + 0), vI a, vI b, vI c0] (h0 ++ (frM n wf)) (qI (fun x h' => x = sp_seats a b c0)) := by
  refine PMet.intro (by decide) (Nat.le_of_ble_eq_true rfl) ?_
  intro p e s m args below meth c X hr hlk hnm
  refine r_aload_n X dX12_seats_0 rfl ?_
  refine r_iconst (v := 0) X dX12_seats_1 (by decide +kernel) ?_
  refine a_put (a := 0) X hn fp_X12_140 dX12_seats_2 rfl rfl rfl rfl ?_
  refine r_eq (h' := h0 ++ (frM n wf)) rfl rfl rfl ?_
  refine r_aload_n X dX12_seats_5 rfl ?_
  refine r_iload_n X dX12_seats_6 rfl ?_
  refine r_iconst (v := 1) X dX12_seats_7 (by decide +kernel) ?_
  refine r_bipush (v := 40) X dX12_seats_8 (by decide +kernel) ?_
  refine r_V3i X kv_X12_155 dX12_seats_10 (apG (k := 0) hn rfl) rfl (km19_X12_isIn l G _ _ hn _ _) rfl (fun x h' hΨ => ?_)
  rcases hΨ with ⟨q1, rfl, rfl⟩ | ⟨q2, q3, rfl, rfl⟩ | ⟨q4, q5, rfl, rfl⟩
  · refine r_if_eq_t (tgt := 41) X dX12_seats_13 rfl (by decide +kernel) ?_
    refine r_iconst (v := -1) X dX12_seats_41 (by decide +kernel) ?_
    exact r_ret_i X hr hlk dX12_seats_42 (Nat.le_of_ble_eq_true rfl) (Nat.le_of_ble_eq_true rfl) ⟨_, rfl, rfl⟩
  · refine r_if_eq_t (tgt := 41) X dX12_seats_13 rfl (by decide +kernel) ?_
    refine r_iconst (v := -1) X dX12_seats_41 (by decide +kernel) ?_
    exact r_ret_i X hr hlk dX12_seats_42 (Nat.le_of_ble_eq_true rfl) (Nat.le_of_ble_eq_true rfl) ⟨_, rfl, rfl⟩
  · refine r_if_eq_f (tgt := 41) X dX12_seats_13 rfl (by decide +kernel) ?_
    refine r_aload_n X dX12_seats_16 rfl ?_
    refine r_iload_n X dX12_seats_17 rfl ?_
    refine r_iconst (v := 0) X dX12_seats_18 (by decide +kernel) ?_
    refine r_iconst (v := 1) X dX12_seats_19 (by decide +kernel) ?_
    refine r_V3i X kv_X12_155 dX12_seats_20 (apG (k := 0) hn rfl) rfl (km20_X12_isIn l G _ _ hn _ _) rfl (fun x h' hΨ => ?_)
    rcases hΨ with ⟨q6, rfl, rfl⟩ | ⟨q7, q8, rfl, rfl⟩ | ⟨q9, q10, rfl, rfl⟩
    · refine r_if_eq_t (tgt := 41) X dX12_seats_23 rfl (by decide +kernel) ?_
      refine r_iconst (v := -1) X dX12_seats_41 (by decide +kernel) ?_
      exact r_ret_i X hr hlk dX12_seats_42 (Nat.le_of_ble_eq_true rfl) (Nat.le_of_ble_eq_true rfl) ⟨_, rfl, rfl⟩
    · refine r_if_eq_t (tgt := 41) X dX12_seats_23 rfl (by decide +kernel) ?_
      refine r_iconst (v := -1) X dX12_seats_41 (by decide +kernel) ?_
      exact r_ret_i X hr hlk dX12_seats_42 (Nat.le_of_ble_eq_true rfl) (Nat.le_of_ble_eq_true rfl) ⟨_, rfl, rfl⟩
    · refine r_if_eq_f (tgt := 41) X dX12_seats_23 rfl (by decide +kernel) ?_
      refine r_aload_n X dX12_seats_26 rfl ?_
      refine r_iload_n X dX12_seats_27 rfl ?_
      refine r_iconst (v := 0) X dX12_seats_28 (by decide +kernel) ?_
      refine r_aload_n X dX12_seats_29 rfl ?_
      refine a_get (a := 0) X hn fg_X12_450 dX12_seats_30 rfl rfl ?_
      refine r_iconst (v := 1) X dX12_seats_33 (by decide +kernel) ?_
      refine r_isubE (v := (-1)) X dX12_seats_34 (by decide +kernel) ?_
      refine r_V3i X kv_X12_155 dX12_seats_35 (apG (k := 0) hn rfl) rfl (km16_X12_isIn l G _ _ hn _ _) rfl (fun x h' hΨ => ?_)
      rcases hΨ with ⟨q11, rfl, rfl⟩ | ⟨q12, rfl, rfl⟩
      · refine r_if_ne_f (tgt := 43) X dX12_seats_38 rfl (by decide +kernel) ?_
        refine r_iconst (v := -1) X dX12_seats_41 (by decide +kernel) ?_
        exact r_ret_i X hr hlk dX12_seats_42 (Nat.le_of_ble_eq_true rfl) (Nat.le_of_ble_eq_true rfl) ⟨_, rfl, rfl⟩
      · refine r_if_ne_f (tgt := 43) X dX12_seats_38 rfl (by decide +kernel) ?_
        refine r_iconst (v := -1) X dX12_seats_41 (by decide +kernel) ?_
        exact r_ret_i X hr hlk dX12_seats_42 (Nat.le_of_ble_eq_true rfl) (Nat.le_of_ble_eq_true rfl) ⟨_, rfl, rfl⟩
