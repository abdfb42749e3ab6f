set_option maxRecDepth 100000 in
set_option maxHeartbeats 4000000 in
theorem kx53_X4_middleOf (l : Launch) (G : PG) (h0 : PH) (n : Nat) (hn : h0.length = n) (T : PH) : PMet l G yX4_middleOf cX4_middleOf 6 (some .int) 0 0 0 [vR (n + 89), vR (n + 16)] (h0 ++ (frC n ++ T)) (qI (fun x h' => x = (-1) ∧ h' = h0 ++ (frC n ++ T))) := by
  refine PMet.intro (by decide) (Nat.le_of_ble_eq_true rfl) ?_
  intro p e s m args below meth c X hr hlk hnm
  refine r_aload_n X dX4_middleOf_0 rfl ?_
  refine a_get (a := 16) X hn fg_X4_24 dX4_middleOf_1 rfl rfl ?_
  refine r_iconst (v := 1) X dX4_middleOf_4 (by decide +kernel) ?_
  refine r_iaddE (v := 1) X dX4_middleOf_5 (by decide +kernel) ?_
  refine r_iconst (v := 2) X dX4_middleOf_6 (by decide +kernel) ?_
  refine r_idivE (v := 0) X dX4_middleOf_7 (by decide +kernel) (by decide +kernel) ?_
  refine r_istore_n X dX4_middleOf_8 (by decide) ?_
  refine r_iload_n X dX4_middleOf_9 rfl ?_
  refine r_if_ne_f (tgt := 15) X dX4_middleOf_10 rfl (by decide +kernel) ?_
  refine r_iconst (v := -1) X dX4_middleOf_13 (by decide +kernel) ?_
  exact r_ret_i X hr hlk dX4_middleOf_14 (Nat.le_of_ble_eq_true rfl) (Nat.le_of_ble_eq_true rfl) ⟨_, rfl, ⟨rfl, rfl⟩⟩
set_option maxRecDepth 100000 in
set_option maxHeartbeats 4000000 in
theorem kx54_X4_farFromMiddle (l : Launch) (G : PG) (h0 : PH) (n : Nat) (hn : h0.length = n) (T : PH) : PMet l G yX4_farFromMiddle cX4_farFromMiddle 5 (some .int) 1 0 0 [vR (n + 89), vR (n + 16)] (h0 ++ (frC n ++ T)) (qI (fun x h' => x = 0 ∧ h' = h0 ++ (frC n ++ T))) := by
  refine PMet.intro (by decide) (Nat.le_of_ble_eq_true rfl) ?_
  intro p e s m args below meth c X hr hlk hnm
  refine r_aload_n X dX4_farFromMiddle_0 rfl ?_
  refine r_aload_n X dX4_farFromMiddle_1 rfl ?_
  refine r_V1i X kv_X4_44 dX4_farFromMiddle_2 (apG (k := 89) hn rfl) rfl (kx53_X4_middleOf l G _ _ hn _) rfl (fun x h' hΨ => ?_)
  obtain ⟨rfl, rfl⟩ := hΨ
  refine r_istore_n X dX4_farFromMiddle_5 (by decide) ?_
  refine r_iconst (v := 0) X dX4_farFromMiddle_6 (by decide +kernel) ?_
  refine r_istore_n X dX4_farFromMiddle_7 (by decide) ?_
  refine r_iconst (v := 0) X dX4_farFromMiddle_8 (by decide +kernel) ?_
  refine r_istore X dX4_farFromMiddle_9 (by decide) ?_
  refine r_iload X dX4_farFromMiddle_11 rfl ?_
  refine r_aload_n X dX4_farFromMiddle_13 rfl ?_
  refine a_get (a := 16) X hn fg_X4_24 dX4_farFromMiddle_14 rfl rfl ?_
  refine r_icmp_ge_t (tgt := 40) X dX4_farFromMiddle_17 rfl (by decide +kernel) ?_
  refine r_iload_n X dX4_farFromMiddle_40 rfl ?_
  exact r_ret_i X hr hlk dX4_farFromMiddle_41 (Nat.le_of_ble_eq_true rfl) (Nat.le_of_ble_eq_true rfl) ⟨_, rfl, ⟨rfl, rfl⟩⟩
set_option maxRecDepth 100000 in
set_option maxHeartbeats 4000000 in
theorem kx55_X4_timesTold (l : Launch) (G : PG) (h0 : PH) (n : Nat) (hn : h0.length = n) (T : PH) : PMet l G yX4_timesTold cX4_timesTold 4 (some .int) 0 0 0 [vR (n + 18), vI 0] (h0 ++ (frC n ++ T)) (qI (fun x h' => x = 0 ∧ h' = h0 ++ (frC n ++ T))) := by
  refine PMet.intro (by decide) (Nat.le_of_ble_eq_true rfl) ?_
  intro p e s m args below meth c X hr hlk hnm
  refine r_iconst (v := 0) X dX4_timesTold_0 (by decide +kernel) ?_
  refine r_istore_n X dX4_timesTold_1 (by decide) ?_
  refine r_iconst (v := 0) X dX4_timesTold_2 (by decide +kernel) ?_
  refine r_istore_n X dX4_timesTold_3 (by decide) ?_
  refine r_iload_n X dX4_timesTold_4 rfl ?_
  refine r_aload_n X dX4_timesTold_5 rfl ?_
  refine a_get (a := 18) X hn fg_X4_24 dX4_timesTold_6 rfl rfl ?_
  refine r_icmp_ge_t (tgt := 35) X dX4_timesTold_9 rfl (by decide +kernel) ?_
  refine r_iload_n X dX4_timesTold_35 rfl ?_
  exact r_ret_i X hr hlk dX4_timesTold_36 (Nat.le_of_ble_eq_true rfl) (Nat.le_of_ble_eq_true rfl) ⟨_, rfl, ⟨rfl, rfl⟩⟩
set_option maxRecDepth 100000 in
set_option maxHeartbeats 4000000 in
theorem kx56_X4_timesTold (l : Launch) (G : PG) (h0 : PH) (n : Nat) (hn : h0.length = n) (T : PH) : PMet l G yX4_timesTold cX4_timesTold 4 (some .int) 0 0 0 [vR (n + 18), vI 1] (h0 ++ (frC n ++ T)) (qI (fun x h' => x = 0 ∧ h' = h0 ++ (frC n ++ T))) := by
  refine PMet.intro (by decide) (Nat.le_of_ble_eq_true rfl) ?_
  intro p e s m args below meth c X hr hlk hnm
  refine r_iconst (v := 0) X dX4_timesTold_0 (by decide +kernel) ?_
  refine r_istore_n X dX4_timesTold_1 (by decide) ?_
  refine r_iconst (v := 0) X dX4_timesTold_2 (by decide +kernel) ?_
  refine r_istore_n X dX4_timesTold_3 (by decide) ?_
  refine r_iload_n X dX4_timesTold_4 rfl ?_
  refine r_aload_n X dX4_timesTold_5 rfl ?_
  refine a_get (a := 18) X hn fg_X4_24 dX4_timesTold_6 rfl rfl ?_
  refine r_icmp_ge_t (tgt := 35) X dX4_timesTold_9 rfl (by decide +kernel) ?_
  refine r_iload_n X dX4_timesTold_35 rfl ?_
  exact r_ret_i X hr hlk dX4_timesTold_36 (Nat.le_of_ble_eq_true rfl) (Nat.le_of_ble_eq_true rfl) ⟨_, rfl, ⟨rfl, rfl⟩⟩
set_option maxRecDepth 100000 in
set_option maxHeartbeats 4000000 in
theorem kx57_X4_timesTold (l : Launch) (G : PG) (h0 : PH) (n : Nat) (hn : h0.length = n) (T : PH) : PMet l G yX4_timesTold cX4_timesTold 4 (some .int) 0 0 0 [vR (n + 18), vI 2] (h0 ++ (frC n ++ T)) (qI (fun x h' => x = 0 ∧ h' = h0 ++ (frC n ++ T))) := by
  refine PMet.intro (by decide) (Nat.le_of_ble_eq_true rfl) ?_
  intro p e s m args below meth c X hr hlk hnm
  refine r_iconst (v := 0) X dX4_timesTold_0 (by decide +kernel) ?_
  refine r_istore_n X dX4_timesTold_1 (by decide) ?_
  refine r_iconst (v := 0) X dX4_timesTold_2 (by decide +kernel) ?_
  refine r_istore_n X dX4_timesTold_3 (by decide) ?_
  refine r_iload_n X dX4_timesTold_4 rfl ?_
  refine r_aload_n X dX4_timesTold_5 rfl ?_
  refine a_get (a := 18) X hn fg_X4_24 dX4_timesTold_6 rfl rfl ?_
  refine r_icmp_ge_t (tgt := 35) X dX4_timesTold_9 rfl (by decide +kernel) ?_
  refine r_iload_n X dX4_timesTold_35 rfl ?_
  exact r_ret_i X hr hlk dX4_timesTold_36 (Nat.le_of_ble_eq_true rfl) (Nat.le_of_ble_eq_true rfl) ⟨_, rfl, ⟨rfl, rfl⟩⟩
set_option maxRecDepth 100000 in
set_option maxHeartbeats 4000000 in
theorem kx58_X4_timesTold (l : Launch) (G : PG) (h0 : PH) (n : Nat) (hn : h0.length = n) (T : PH) : PMet l G yX4_timesTold cX4_timesTold 4 (some .int) 0 0 0 [vR (n + 18), vI 3] (h0 ++ (frC n ++ T)) (qI (fun x h' => x = 0 ∧ h' = h0 ++ (frC n ++ T))) := by
  refine PMet.intro (by decide) (Nat.le_of_ble_eq_true rfl) ?_
  intro p e s m args below meth c X hr hlk hnm
  refine r_iconst (v := 0) X dX4_timesTold_0 (by decide +kernel) ?_
  refine r_istore_n X dX4_timesTold_1 (by decide) ?_
  refine r_iconst (v := 0) X dX4_timesTold_2 (by decide +kernel) ?_
  refine r_istore_n X dX4_timesTold_3 (by decide) ?_
  refine r_iload_n X dX4_timesTold_4 rfl ?_
  refine r_aload_n X dX4_timesTold_5 rfl ?_
  refine a_get (a := 18) X hn fg_X4_24 dX4_timesTold_6 rfl rfl ?_
  refine r_icmp_ge_t (tgt := 35) X dX4_timesTold_9 rfl (by decide +kernel) ?_
  refine r_iload_n X dX4_timesTold_35 rfl ?_
  exact r_ret_i X hr hlk dX4_timesTold_36 (Nat.le_of_ble_eq_true rfl) (Nat.le_of_ble_eq_true rfl) ⟨_, rfl, ⟨rfl, rfl⟩⟩
set_option maxRecDepth 100000 in
set_option maxHeartbeats 4000000 in
theorem kx59_X4_timesTold (l : Launch) (G : PG) (h0 : PH) (n : Nat) (hn : h0.length = n) (T : PH) : PMet l G yX4_timesTold cX4_timesTold 4 (some .int) 0 0 0 [vR (n + 18), vI 4] (h0 ++ (frC n ++ T)) (qI (fun x h' => x = 0 ∧ h' = h0 ++ (frC n ++ T))) := by
  refine PMet.intro (by decide) (Nat.le_of_ble_eq_true rfl) ?_
  intro p e s m args below meth c X hr hlk hnm
  refine r_iconst (v := 0) X dX4_timesTold_0 (by decide +kernel) ?_
  refine r_istore_n X dX4_timesTold_1 (by decide) ?_
  refine r_iconst (v := 0) X dX4_timesTold_2 (by decide +kernel) ?_
  refine r_istore_n X dX4_timesTold_3 (by decide) ?_
  refine r_iload_n X dX4_timesTold_4 rfl ?_
  refine r_aload_n X dX4_timesTold_5 rfl ?_
  refine a_get (a := 18) X hn fg_X4_24 dX4_timesTold_6 rfl rfl ?_
  refine r_icmp_ge_t (tgt := 35) X dX4_timesTold_9 rfl (by decide +kernel) ?_
  refine r_iload_n X dX4_timesTold_35 rfl ?_
  exact r_ret_i X hr hlk dX4_timesTold_36 (Nat.le_of_ble_eq_true rfl) (Nat.le_of_ble_eq_true rfl) ⟨_, rfl, ⟨rfl, rfl⟩⟩
set_option maxRecDepth 100000 in
set_option maxHeartbeats 4000000 in
theorem kx60_X4_timesTold (l : Launch) (G : PG) (h0 : PH) (n : Nat) (hn : h0.length = n) (T : PH) : PMet l G yX4_timesTold cX4_timesTold 4 (some .int) 0 0 0 [vR (n + 18), vI 5] (h0 ++ (frC n ++ T)) (qI (fun x h' => x = 0 ∧ h' = h0 ++ (frC n ++ T))) := by
  refine PMet.intro (by decide) (Nat.le_of_ble_eq_true rfl) ?_
  intro p e s m args below meth c X hr hlk hnm
  refine r_iconst (v := 0) X dX4_timesTold_0 (by decide +kernel) ?_
  refine r_istore_n X dX4_timesTold_1 (by decide) ?_
  refine r_iconst (v := 0) X dX4_timesTold_2 (by decide +kernel) ?_
  refine r_istore_n X dX4_timesTold_3 (by decide) ?_
  refine r_iload_n X dX4_timesTold_4 rfl ?_
  refine r_aload_n X dX4_timesTold_5 rfl ?_
  refine a_get (a := 18) X hn fg_X4_24 dX4_timesTold_6 rfl rfl ?_
  refine r_icmp_ge_t (tgt := 35) X dX4_timesTold_9 rfl (by decide +kernel) ?_
  refine r_iload_n X dX4_timesTold_35 rfl ?_
  exact r_ret_i X hr hlk dX4_timesTold_36 (Nat.le_of_ble_eq_true rfl) (Nat.le_of_ble_eq_true rfl) ⟨_, rfl, ⟨rfl, rfl⟩⟩
set_option maxRecDepth 100000 in
set_option maxHeartbeats 4000000 in
theorem kx61_X4_timesTold (l : Launch) (G : PG) (h0 : PH) (n : Nat) (hn : h0.length = n) (T : PH) : PMet l G yX4_timesTold cX4_timesTold 4 (some .int) 0 0 0 [vR (n + 18), vI 6] (h0 ++ (frC n ++ T)) (qI (fun x h' => x = 0 ∧ h' = h0 ++ (frC n ++ T))) := by
  refine PMet.intro (by decide) (Nat.le_of_ble_eq_true rfl) ?_
  intro p e s m args below meth c X hr hlk hnm
  refine r_iconst (v := 0) X dX4_timesTold_0 (by decide +kernel) ?_
  refine r_istore_n X dX4_timesTold_1 (by decide) ?_
  refine r_iconst (v := 0) X dX4_timesTold_2 (by decide +kernel) ?_
  refine r_istore_n X dX4_timesTold_3 (by decide) ?_
  refine r_iload_n X dX4_timesTold_4 rfl ?_
  refine r_aload_n X dX4_timesTold_5 rfl ?_
  refine a_get (a := 18) X hn fg_X4_24 dX4_timesTold_6 rfl rfl ?_
  refine r_icmp_ge_t (tgt := 35) X dX4_timesTold_9 rfl (by decide +kernel) ?_
  refine r_iload_n X dX4_timesTold_35 rfl ?_
  exact r_ret_i X hr hlk dX4_timesTold_36 (Nat.le_of_ble_eq_true rfl) (Nat.le_of_ble_eq_true rfl) ⟨_, rfl, ⟨rfl, rfl⟩⟩
set_option maxRecDepth 100000 in
set_option maxHeartbeats 4000000 in
theorem kx62_X4_timesTold (l : Launch) (G : PG) (h0 : PH) (n : Nat) (hn : h0.length = n) (T : PH) : PMet l G yX4_timesTold cX4_timesTold 4 (some .int) 0 0 0 [vR (n + 18), vI 7] (h0 ++ (frC n ++ T)) (qI (fun x h' => x = 0 ∧ h' = h0 ++ (frC n ++ T))) := by
  refine PMet.intro (by decide) (Nat.le_of_ble_eq_true rfl) ?_
  intro p e s m args below meth c X hr hlk hnm
  refine r_iconst (v := 0) X dX4_timesTold_0 (by decide +kernel) ?_
  refine r_istore_n X dX4_timesTold_1 (by decide) ?_
  refine r_iconst (v := 0) X dX4_timesTold_2 (by decide +kernel) ?_
  refine r_istore_n X dX4_timesTold_3 (by decide) ?_
  refine r_iload_n X dX4_timesTold_4 rfl ?_
  refine r_aload_n X dX4_timesTold_5 rfl ?_
  refine a_get (a := 18) X hn fg_X4_24 dX4_timesTold_6 rfl rfl ?_
  refine r_icmp_ge_t (tgt := 35) X dX4_timesTold_9 rfl (by decide +kernel) ?_
  refine r_iload_n X dX4_timesTold_35 rfl ?_
  exact r_ret_i X hr hlk dX4_timesTold_36 (Nat.le_of_ble_eq_true rfl) (Nat.le_of_ble_eq_true rfl) ⟨_, rfl, ⟨rfl, rfl⟩⟩
set_option maxRecDepth 100000 in
set_option maxHeartbeats 4000000 in
theorem kx63_X4_timesTold (l : Launch) (G : PG) (h0 : PH) (n : Nat) (hn : h0.length = n) (T : PH) : PMet l G yX4_timesTold cX4_timesTold 4 (some .int) 0 0 0 [vR (n + 18), vI 8] (h0 ++ (frC n ++ T)) (qI (fun x h' => x = 0 ∧ h' = h0 ++ (frC n ++ T))) := by
  refine PMet.intro (by decide) (Nat.le_of_ble_eq_true rfl) ?_
  intro p e s m args below meth c X hr hlk hnm
  refine r_iconst (v := 0) X dX4_timesTold_0 (by decide +kernel) ?_
  refine r_istore_n X dX4_timesTold_1 (by decide) ?_
  refine r_iconst (v := 0) X dX4_timesTold_2 (by decide +kernel) ?_
  refine r_istore_n X dX4_timesTold_3 (by decide) ?_
  refine r_iload_n X dX4_timesTold_4 rfl ?_
  refine r_aload_n X dX4_timesTold_5 rfl ?_
  refine a_get (a := 18) X hn fg_X4_24 dX4_timesTold_6 rfl rfl ?_
  refine r_icmp_ge_t (tgt := 35) X dX4_timesTold_9 rfl (by decide +kernel) ?_
  refine r_iload_n X dX4_timesTold_35 rfl ?_
  exact r_ret_i X hr hlk dX4_timesTold_36 (Nat.le_of_ble_eq_true rfl) (Nat.le_of_ble_eq_true rfl) ⟨_, rfl, ⟨rfl, rfl⟩⟩
set_option maxRecDepth 100000 in
set_option maxHeartbeats 4000000 in
theorem kx64_X4_timesTold (l : Launch) (G : PG) (h0 : PH) (n : Nat) (hn : h0.length = n) (T : PH) : PMet l G yX4_timesTold cX4_timesTold 4 (some .int) 0 0 0 [vR (n + 18), vI 9] (h0 ++ (frC n ++ T)) (qI (fun x h' => x = 0 ∧ h' = h0 ++ (frC n ++ T))) := by
  refine PMet.intro (by decide) (Nat.le_of_ble_eq_true rfl) ?_
  intro p e s m args below meth c X hr hlk hnm
  refine r_iconst (v := 0) X dX4_timesTold_0 (by decide +kernel) ?_
  refine r_istore_n X dX4_timesTold_1 (by decide) ?_
  refine r_iconst (v := 0) X dX4_timesTold_2 (by decide +kernel) ?_
  refine r_istore_n X dX4_timesTold_3 (by decide) ?_
  refine r_iload_n X dX4_timesTold_4 rfl ?_
  refine r_aload_n X dX4_timesTold_5 rfl ?_
  refine a_get (a := 18) X hn fg_X4_24 dX4_timesTold_6 rfl rfl ?_
  refine r_icmp_ge_t (tgt := 35) X dX4_timesTold_9 rfl (by decide +kernel) ?_
  refine r_iload_n X dX4_timesTold_35 rfl ?_
  exact r_ret_i X hr hlk dX4_timesTold_36 (Nat.le_of_ble_eq_true rfl) (Nat.le_of_ble_eq_true rfl) ⟨_, rfl, ⟨rfl, rfl⟩⟩
set_option maxRecDepth 100000 in
set_option maxHeartbeats 4000000 in
theorem kx65_X4_moreThanHalf (l : Launch) (G : PG) (h0 : PH) (n : Nat) (hn : h0.length = n) (T : PH) : PMet l G yX4_moreThanHalf cX4_moreThanHalf 3 (some .int) 1 0 0 [vR (n + 89), vR (n + 18)] (h0 ++ (frC n ++ T)) (qI (fun x h' => x = (-1) ∧ h' = h0 ++ (frC n ++ T))) := by
  refine PMet.intro (by decide) (Nat.le_of_ble_eq_true rfl) ?_
  intro p e s m args below meth c X hr hlk hnm
  refine r_iconst (v := 0) X dX4_moreThanHalf_0 (by decide +kernel) ?_
  refine r_istore_n X dX4_moreThanHalf_1 (by decide) ?_
  refine r_iload_n X dX4_moreThanHalf_2 rfl ?_
  refine r_bipush (v := 9) X dX4_moreThanHalf_3 (by decide +kernel) ?_
  refine r_icmp_gt_f (tgt := 30) X dX4_moreThanHalf_5 rfl (by decide +kernel) ?_
  refine r_iconst (v := 2) X dX4_moreThanHalf_8 (by decide +kernel) ?_
  refine r_aload_n X dX4_moreThanHalf_9 rfl ?_
  refine r_iload_n X dX4_moreThanHalf_10 rfl ?_
  refine r_S2i X ks_X4_51 dX4_moreThanHalf_11 (kx55_X4_timesTold l G _ _ hn _) rfl (fun x h' hΨ => ?_)
  obtain ⟨rfl, rfl⟩ := hΨ
  refine r_imulE (v := 0) X dX4_moreThanHalf_14 (by decide +kernel) ?_
  refine r_aload_n X dX4_moreThanHalf_15 rfl ?_
  refine a_get (a := 18) X hn fg_X4_24 dX4_moreThanHalf_16 rfl rfl ?_
  refine r_icmp_le_t (tgt := 24) X dX4_moreThanHalf_19 rfl (by decide +kernel) ?_
  refine r_iinc (v := 1) X dX4_moreThanHalf_24 rfl (by decide +kernel) (by decide) ?_
  refine r_goto (tgt := 2) X dX4_moreThanHalf_27 rfl ?_
  refine r_iload_n X dX4_moreThanHalf_2 rfl ?_
  refine r_bipush (v := 9) X dX4_moreThanHalf_3 (by decide +kernel) ?_
  refine r_icmp_gt_f (tgt := 30) X dX4_moreThanHalf_5 rfl (by decide +kernel) ?_
  refine r_iconst (v := 2) X dX4_moreThanHalf_8 (by decide +kernel) ?_
  refine r_aload_n X dX4_moreThanHalf_9 rfl ?_
  refine r_iload_n X dX4_moreThanHalf_10 rfl ?_
  refine r_S2i X ks_X4_51 dX4_moreThanHalf_11 (kx56_X4_timesTold l G _ _ hn _) rfl (fun x h' hΨ => ?_)
  obtain ⟨rfl, rfl⟩ := hΨ
  refine r_imulE (v := 0) X dX4_moreThanHalf_14 (by decide +kernel) ?_
  refine r_aload_n X dX4_moreThanHalf_15 rfl ?_
  refine a_get (a := 18) X hn fg_X4_24 dX4_moreThanHalf_16 rfl rfl ?_
  refine r_icmp_le_t (tgt := 24) X dX4_moreThanHalf_19 rfl (by decide +kernel) ?_
  refine r_iinc (v := 2) X dX4_moreThanHalf_24 rfl (by decide +kernel) (by decide) ?_
  refine r_goto (tgt := 2) X dX4_moreThanHalf_27 rfl ?_
  refine r_iload_n X dX4_moreThanHalf_2 rfl ?_
  refine r_bipush (v := 9) X dX4_moreThanHalf_3 (by decide +kernel) ?_
  refine r_icmp_gt_f (tgt := 30) X dX4_moreThanHalf_5 rfl (by decide +kernel) ?_
  refine r_iconst (v := 2) X dX4_moreThanHalf_8 (by decide +kernel) ?_
  refine r_aload_n X dX4_moreThanHalf_9 rfl ?_
  refine r_iload_n X dX4_moreThanHalf_10 rfl ?_
  refine r_S2i X ks_X4_51 dX4_moreThanHalf_11 (kx57_X4_timesTold l G _ _ hn _) rfl (fun x h' hΨ => ?_)
  obtain ⟨rfl, rfl⟩ := hΨ
  refine r_imulE (v := 0) X dX4_moreThanHalf_14 (by decide +kernel) ?_
  refine r_aload_n X dX4_moreThanHalf_15 rfl ?_
  refine a_get (a := 18) X hn fg_X4_24 dX4_moreThanHalf_16 rfl rfl ?_
  refine r_icmp_le_t (tgt := 24) X dX4_moreThanHalf_19 rfl (by decide +kernel) ?_
  refine r_iinc (v := 3) X dX4_moreThanHalf_24 rfl (by decide +kernel) (by decide) ?_
  refine r_goto (tgt := 2) X dX4_moreThanHalf_27 rfl ?_
  refine r_iload_n X dX4_moreThanHalf_2 rfl ?_
  refine r_bipush (v := 9) X dX4_moreThanHalf_3 (by decide +kernel) ?_
  refine r_icmp_gt_f (tgt := 30) X dX4_moreThanHalf_5 rfl (by decide +kernel) ?_
  refine r_iconst (v := 2) X dX4_moreThanHalf_8 (by decide +kernel) ?_
  refine r_aload_n X dX4_moreThanHalf_9 rfl ?_
  refine r_iload_n X dX4_moreThanHalf_10 rfl ?_
  refine r_S2i X ks_X4_51 dX4_moreThanHalf_11 (kx58_X4_timesTold l G _ _ hn _) rfl (fun x h' hΨ => ?_)
  obtain ⟨rfl, rfl⟩ := hΨ
  refine r_imulE (v := 0) X dX4_moreThanHalf_14 (by decide +kernel) ?_
  refine r_aload_n X dX4_moreThanHalf_15 rfl ?_
  refine a_get (a := 18) X hn fg_X4_24 dX4_moreThanHalf_16 rfl rfl ?_
  refine r_icmp_le_t (tgt := 24) X dX4_moreThanHalf_19 rfl (by decide +kernel) ?_
  refine r_iinc (v := 4) X dX4_moreThanHalf_24 rfl (by decide +kernel) (by decide) ?_
  refine r_eq (ls' := [some (vR (n + 89)), some (vR (n + 18)), some (vI 4)]) rfl rfl rfl ?_
  refine r_goto (tgt := 2) X dX4_moreThanHalf_27 rfl ?_
  refine r_iload_n X dX4_moreThanHalf_2 rfl ?_
  refine r_bipush (v := 9) X dX4_moreThanHalf_3 (by decide +kernel) ?_
  refine r_icmp_gt_f (tgt := 30) X dX4_moreThanHalf_5 rfl (by decide +kernel) ?_
  refine r_iconst (v := 2) X dX4_moreThanHalf_8 (by decide +kernel) ?_
  refine r_aload_n X dX4_moreThanHalf_9 rfl ?_
  refine r_iload_n X dX4_moreThanHalf_10 rfl ?_
  refine r_S2i X ks_X4_51 dX4_moreThanHalf_11 (kx59_X4_timesTold l G _ _ hn _) rfl (fun x h' hΨ => ?_)
  obtain ⟨rfl, rfl⟩ := hΨ
  refine r_imulE (v := 0) X dX4_moreThanHalf_14 (by decide +kernel) ?_
  refine r_aload_n X dX4_moreThanHalf_15 rfl ?_
  refine a_get (a := 18) X hn fg_X4_24 dX4_moreThanHalf_16 rfl rfl ?_
  refine r_icmp_le_t (tgt := 24) X dX4_moreThanHalf_19 rfl (by decide +kernel) ?_
  refine r_iinc (v := 5) X dX4_moreThanHalf_24 rfl (by decide +kernel) (by decide) ?_
  refine r_goto (tgt := 2) X dX4_moreThanHalf_27 rfl ?_
  refine r_iload_n X dX4_moreThanHalf_2 rfl ?_
  refine r_bipush (v := 9) X dX4_moreThanHalf_3 (by decide +kernel) ?_
  refine r_icmp_gt_f (tgt := 30) X dX4_moreThanHalf_5 rfl (by decide +kernel) ?_
  refine r_iconst (v := 2) X dX4_moreThanHalf_8 (by decide +kernel) ?_
  refine r_aload_n X dX4_moreThanHalf_9 rfl ?_
  refine r_iload_n X dX4_moreThanHalf_10 rfl ?_
  refine r_S2i X ks_X4_51 dX4_moreThanHalf_11 (kx60_X4_timesTold l G _ _ hn _) rfl (fun x h' hΨ => ?_)
  obtain ⟨rfl, rfl⟩ := hΨ
  refine r_imulE (v := 0) X dX4_moreThanHalf_14 (by decide +kernel) ?_
  refine r_aload_n X dX4_moreThanHalf_15 rfl ?_
  refine a_get (a := 18) X hn fg_X4_24 dX4_moreThanHalf_16 rfl rfl ?_
  refine r_icmp_le_t (tgt := 24) X dX4_moreThanHalf_19 rfl (by decide +kernel) ?_
  refine r_iinc (v := 6) X dX4_moreThanHalf_24 rfl (by decide +kernel) (by decide) ?_
  refine r_goto (tgt := 2) X dX4_moreThanHalf_27 rfl ?_
  refine r_iload_n X dX4_moreThanHalf_2 rfl ?_
  refine r_bipush (v := 9) X dX4_moreThanHalf_3 (by decide +kernel) ?_
  refine r_icmp_gt_f (tgt := 30) X dX4_moreThanHalf_5 rfl (by decide +kernel) ?_
  refine r_iconst (v := 2) X dX4_moreThanHalf_8 (by decide +kernel) ?_
  refine r_aload_n X dX4_moreThanHalf_9 rfl ?_
  refine r_iload_n X dX4_moreThanHalf_10 rfl ?_
  refine r_S2i X ks_X4_51 dX4_moreThanHalf_11 (kx61_X4_timesTold l G _ _ hn _) rfl (fun x h' hΨ => ?_)
  obtain ⟨rfl, rfl⟩ := hΨ
  refine r_imulE (v := 0) X dX4_moreThanHalf_14 (by decide +kernel) ?_
  refine r_aload_n X dX4_moreThanHalf_15 rfl ?_
  refine a_get (a := 18) X hn fg_X4_24 dX4_moreThanHalf_16 rfl rfl ?_
  refine r_icmp_le_t (tgt := 24) X dX4_moreThanHalf_19 rfl (by decide +kernel) ?_
  refine r_iinc (v := 7) X dX4_moreThanHalf_24 rfl (by decide +kernel) (by decide) ?_
  refine r_goto (tgt := 2) X dX4_moreThanHalf_27 rfl ?_
  refine r_iload_n X dX4_moreThanHalf_2 rfl ?_
  refine r_bipush (v := 9) X dX4_moreThanHalf_3 (by decide +kernel) ?_
  refine r_icmp_gt_f (tgt := 30) X dX4_moreThanHalf_5 rfl (by decide +kernel) ?_
  refine r_iconst (v := 2) X dX4_moreThanHalf_8 (by decide +kernel) ?_
  refine r_aload_n X dX4_moreThanHalf_9 rfl ?_
  refine r_iload_n X dX4_moreThanHalf_10 rfl ?_
  refine r_S2i X ks_X4_51 dX4_moreThanHalf_11 (kx62_X4_timesTold l G _ _ hn _) rfl (fun x h' hΨ => ?_)
  obtain ⟨rfl, rfl⟩ := hΨ
  refine r_imulE (v := 0) X dX4_moreThanHalf_14 (by decide +kernel) ?_
  refine r_aload_n X dX4_moreThanHalf_15 rfl ?_
  refine a_get (a := 18) X hn fg_X4_24 dX4_moreThanHalf_16 rfl rfl ?_
  refine r_icmp_le_t (tgt := 24) X dX4_moreThanHalf_19 rfl (by decide +kernel) ?_
  refine r_iinc (v := 8) X dX4_moreThanHalf_24 rfl (by decide +kernel) (by decide) ?_
  refine r_goto (tgt := 2) X dX4_moreThanHalf_27 rfl ?_
  refine r_iload_n X dX4_moreThanHalf_2 rfl ?_
  refine r_bipush (v := 9) X dX4_moreThanHalf_3 (by decide +kernel) ?_
  refine r_icmp_gt_f (tgt := 30) X dX4_moreThanHalf_5 rfl (by decide +kernel) ?_
  refine r_iconst (v := 2) X dX4_moreThanHalf_8 (by decide +kernel) ?_
  refine r_aload_n X dX4_moreThanHalf_9 rfl ?_
  refine r_iload_n X dX4_moreThanHalf_10 rfl ?_
  refine r_S2i X ks_X4_51 dX4_moreThanHalf_11 (kx63_X4_timesTold l G _ _ hn _) rfl (fun x h' hΨ => ?_)
  obtain ⟨rfl, rfl⟩ := hΨ
  refine r_imulE (v := 0) X dX4_moreThanHalf_14 (by decide +kernel) ?_
  refine r_aload_n X dX4_moreThanHalf_15 rfl ?_
  refine a_get (a := 18) X hn fg_X4_24 dX4_moreThanHalf_16 rfl rfl ?_
  refine r_icmp_le_t (tgt := 24) X dX4_moreThanHalf_19 rfl (by decide +kernel) ?_
  refine r_iinc (v := 9) X dX4_moreThanHalf_24 rfl (by decide +kernel) (by decide) ?_
  refine r_eq (ls' := [some (vR (n + 89)), some (vR (n + 18)), some (vI 9)]) rfl rfl rfl ?_
  refine r_goto (tgt := 2) X dX4_moreThanHalf_27 rfl ?_
  refine r_iload_n X dX4_moreThanHalf_2 rfl ?_
  refine r_bipush (v := 9) X dX4_moreThanHalf_3 (by decide +kernel) ?_
  refine r_icmp_gt_f (tgt := 30) X dX4_moreThanHalf_5 rfl (by decide +kernel) ?_
  refine r_iconst (v := 2) X dX4_moreThanHalf_8 (by decide +kernel) ?_
  refine r_aload_n X dX4_moreThanHalf_9 rfl ?_
  refine r_iload_n X dX4_moreThanHalf_10 rfl ?_
  refine r_S2i X ks_X4_51 dX4_moreThanHalf_11 (kx64_X4_timesTold l G _ _ hn _) rfl (fun x h' hΨ => ?_)
  obtain ⟨rfl, rfl⟩ := hΨ
  refine r_imulE (v := 0) X dX4_moreThanHalf_14 (by decide +kernel) ?_
  refine r_aload_n X dX4_moreThanHalf_15 rfl ?_
  refine a_get (a := 18) X hn fg_X4_24 dX4_moreThanHalf_16 rfl rfl ?_
  refine r_icmp_le_t (tgt := 24) X dX4_moreThanHalf_19 rfl (by decide +kernel) ?_
  refine r_iinc (v := 10) X dX4_moreThanHalf_24 rfl (by decide +kernel) (by decide) ?_
  refine r_goto (tgt := 2) X dX4_moreThanHalf_27 rfl ?_
  refine r_iload_n X dX4_moreThanHalf_2 rfl ?_
  refine r_bipush (v := 9) X dX4_moreThanHalf_3 (by decide +kernel) ?_
  refine r_icmp_gt_t (tgt := 30) X dX4_moreThanHalf_5 rfl (by decide +kernel) ?_
  refine r_iconst (v := -1) X dX4_moreThanHalf_30 (by decide +kernel) ?_
  exact r_ret_i X hr hlk dX4_moreThanHalf_31 (Nat.le_of_ble_eq_true rfl) (Nat.le_of_ble_eq_true rfl) ⟨_, rfl, ⟨rfl, rfl⟩⟩
set_option maxRecDepth 100000 in
set_option maxHeartbeats 4000000 in
theorem kx66_X4_mostTold (l : Launch) (G : PG) (h0 : PH) (n : Nat) (hn : h0.length = n) (T : PH) : PMet l G yX4_mostTold cX4_mostTold 4 (some .int) 1 0 0 [vR (n + 89), vR (n + 18)] (h0 ++ (frC n ++ T)) (qI (fun x h' => x = 0 ∧ h' = h0 ++ (frC n ++ T))) := by
  refine PMet.intro (by decide) (Nat.le_of_ble_eq_true rfl) ?_
  intro p e s m args below meth c X hr hlk hnm
  refine r_iconst (v := 0) X dX4_mostTold_0 (by decide +kernel) ?_
  refine r_istore_n X dX4_mostTold_1 (by decide) ?_
  refine r_iconst (v := 0) X dX4_mostTold_2 (by decide +kernel) ?_
  refine r_istore_n X dX4_mostTold_3 (by decide) ?_
  refine r_iload_n X dX4_mostTold_4 rfl ?_
  refine r_bipush (v := 9) X dX4_mostTold_5 (by decide +kernel) ?_
  refine r_icmp_gt_f (tgt := 26) X dX4_mostTold_7 rfl (by decide +kernel) ?_
  refine r_iload_n X dX4_mostTold_10 rfl ?_
  refine r_aload_n X dX4_mostTold_11 rfl ?_
  refine r_iload_n X dX4_mostTold_12 rfl ?_
  refine r_S2i X ks_X4_51 dX4_mostTold_13 (kx55_X4_timesTold l G _ _ hn _) rfl (fun x h' hΨ => ?_)
  obtain ⟨rfl, rfl⟩ := hΨ
  refine r_max (v := 0) X ks_X4_55.1.1 dX4_mostTold_16 rfl (by decide +kernel) ?_
  refine r_istore_n X dX4_mostTold_19 (by decide) ?_
  refine r_iinc (v := 1) X dX4_mostTold_20 rfl (by decide +kernel) (by decide) ?_
  refine r_goto (tgt := 4) X dX4_mostTold_23 rfl ?_
  refine r_iload_n X dX4_mostTold_4 rfl ?_
  refine r_bipush (v := 9) X dX4_mostTold_5 (by decide +kernel) ?_
  refine r_icmp_gt_f (tgt := 26) X dX4_mostTold_7 rfl (by decide +kernel) ?_
  refine r_iload_n X dX4_mostTold_10 rfl ?_
  refine r_aload_n X dX4_mostTold_11 rfl ?_
  refine r_iload_n X dX4_mostTold_12 rfl ?_
  refine r_S2i X ks_X4_51 dX4_mostTold_13 (kx56_X4_timesTold l G _ _ hn _) rfl (fun x h' hΨ => ?_)
  obtain ⟨rfl, rfl⟩ := hΨ
  refine r_max (v := 0) X ks_X4_55.1.1 dX4_mostTold_16 rfl (by decide +kernel) ?_
  refine r_istore_n X dX4_mostTold_19 (by decide) ?_
  refine r_eq (ls' := [some (vR (n + 89)), some (vR (n + 18)), some (vI 0), some (vI 1)]) rfl rfl rfl ?_
  refine r_iinc (v := 2) X dX4_mostTold_20 rfl (by decide +kernel) (by decide) ?_
  refine r_goto (tgt := 4) X dX4_mostTold_23 rfl ?_
  refine r_iload_n X dX4_mostTold_4 rfl ?_
  refine r_bipush (v := 9) X dX4_mostTold_5 (by decide +kernel) ?_
  refine r_icmp_gt_f (tgt := 26) X dX4_mostTold_7 rfl (by decide +kernel) ?_
  refine r_iload_n X dX4_mostTold_10 rfl ?_
  refine r_aload_n X dX4_mostTold_11 rfl ?_
  refine r_iload_n X dX4_mostTold_12 rfl ?_
  refine r_S2i X ks_X4_51 dX4_mostTold_13 (kx57_X4_timesTold l G _ _ hn _) rfl (fun x h' hΨ => ?_)
  obtain ⟨rfl, rfl⟩ := hΨ
  refine r_max (v := 0) X ks_X4_55.1.1 dX4_mostTold_16 rfl (by decide +kernel) ?_
  refine r_istore_n X dX4_mostTold_19 (by decide) ?_
  refine r_iinc (v := 3) X dX4_mostTold_20 rfl (by decide +kernel) (by decide) ?_
  refine r_goto (tgt := 4) X dX4_mostTold_23 rfl ?_
  refine r_iload_n X dX4_mostTold_4 rfl ?_
  refine r_bipush (v := 9) X dX4_mostTold_5 (by decide +kernel) ?_
  refine r_icmp_gt_f (tgt := 26) X dX4_mostTold_7 rfl (by decide +kernel) ?_
  refine r_iload_n X dX4_mostTold_10 rfl ?_
  refine r_aload_n X dX4_mostTold_11 rfl ?_
  refine r_iload_n X dX4_mostTold_12 rfl ?_
  refine r_S2i X ks_X4_51 dX4_mostTold_13 (kx58_X4_timesTold l G _ _ hn _) rfl (fun x h' hΨ => ?_)
  obtain ⟨rfl, rfl⟩ := hΨ
  refine r_max (v := 0) X ks_X4_55.1.1 dX4_mostTold_16 rfl (by decide +kernel) ?_
  refine r_istore_n X dX4_mostTold_19 (by decide) ?_
  refine r_iinc (v := 4) X dX4_mostTold_20 rfl (by decide +kernel) (by decide) ?_
  refine r_eq (ls' := [some (vR (n + 89)), some (vR (n + 18)), some (vI 0), some (vI 4)]) rfl rfl rfl ?_
  refine r_goto (tgt := 4) X dX4_mostTold_23 rfl ?_
  refine r_iload_n X dX4_mostTold_4 rfl ?_
  refine r_bipush (v := 9) X dX4_mostTold_5 (by decide +kernel) ?_
  refine r_icmp_gt_f (tgt := 26) X dX4_mostTold_7 rfl (by decide +kernel) ?_
  refine r_iload_n X dX4_mostTold_10 rfl ?_
  refine r_aload_n X dX4_mostTold_11 rfl ?_
  refine r_iload_n X dX4_mostTold_12 rfl ?_
  refine r_S2i X ks_X4_51 dX4_mostTold_13 (kx59_X4_timesTold l G _ _ hn _) rfl (fun x h' hΨ => ?_)
  obtain ⟨rfl, rfl⟩ := hΨ
  refine r_max (v := 0) X ks_X4_55.1.1 dX4_mostTold_16 rfl (by decide +kernel) ?_
  refine r_istore_n X dX4_mostTold_19 (by decide) ?_
  refine r_iinc (v := 5) X dX4_mostTold_20 rfl (by decide +kernel) (by decide) ?_
  refine r_goto (tgt := 4) X dX4_mostTold_23 rfl ?_
  refine r_iload_n X dX4_mostTold_4 rfl ?_
  refine r_bipush (v := 9) X dX4_mostTold_5 (by decide +kernel) ?_
  refine r_icmp_gt_f (tgt := 26) X dX4_mostTold_7 rfl (by decide +kernel) ?_
  refine r_iload_n X dX4_mostTold_10 rfl ?_
  refine r_aload_n X dX4_mostTold_11 rfl ?_
  refine r_iload_n X dX4_mostTold_12 rfl ?_
  refine r_S2i X ks_X4_51 dX4_mostTold_13 (kx60_X4_timesTold l G _ _ hn _) rfl (fun x h' hΨ => ?_)
  obtain ⟨rfl, rfl⟩ := hΨ
  refine r_max (v := 0) X ks_X4_55.1.1 dX4_mostTold_16 rfl (by decide +kernel) ?_
  refine r_istore_n X dX4_mostTold_19 (by decide) ?_
  refine r_iinc (v := 6) X dX4_mostTold_20 rfl (by decide +kernel) (by decide) ?_
  refine r_goto (tgt := 4) X dX4_mostTold_23 rfl ?_
  refine r_iload_n X dX4_mostTold_4 rfl ?_
  refine r_bipush (v := 9) X dX4_mostTold_5 (by decide +kernel) ?_
  refine r_icmp_gt_f (tgt := 26) X dX4_mostTold_7 rfl (by decide +kernel) ?_
  refine r_iload_n X dX4_mostTold_10 rfl ?_
  refine r_aload_n X dX4_mostTold_11 rfl ?_
  refine r_iload_n X dX4_mostTold_12 rfl ?_
  refine r_S2i X ks_X4_51 dX4_mostTold_13 (kx61_X4_timesTold l G _ _ hn _) rfl (fun x h' hΨ => ?_)
  obtain ⟨rfl, rfl⟩ := hΨ
  refine r_max (v := 0) X ks_X4_55.1.1 dX4_mostTold_16 rfl (by decide +kernel) ?_
  refine r_istore_n X dX4_mostTold_19 (by decide) ?_
  refine r_eq (ls' := [some (vR (n + 89)), some (vR (n + 18)), some (vI 0), some (vI 6)]) rfl rfl rfl ?_
  refine r_iinc (v := 7) X dX4_mostTold_20 rfl (by decide +kernel) (by decide) ?_
  refine r_goto (tgt := 4) X dX4_mostTold_23 rfl ?_
  refine r_iload_n X dX4_mostTold_4 rfl ?_
  refine r_bipush (v := 9) X dX4_mostTold_5 (by decide +kernel) ?_
  refine r_icmp_gt_f (tgt := 26) X dX4_mostTold_7 rfl (by decide +kernel) ?_
  refine r_iload_n X dX4_mostTold_10 rfl ?_
  refine r_aload_n X dX4_mostTold_11 rfl ?_
  refine r_iload_n X dX4_mostTold_12 rfl ?_
  refine r_S2i X ks_X4_51 dX4_mostTold_13 (kx62_X4_timesTold l G _ _ hn _) rfl (fun x h' hΨ => ?_)
  obtain ⟨rfl, rfl⟩ := hΨ
  refine r_max (v := 0) X ks_X4_55.1.1 dX4_mostTold_16 rfl (by decide +kernel) ?_
  refine r_istore_n X dX4_mostTold_19 (by decide) ?_
  refine r_iinc (v := 8) X dX4_mostTold_20 rfl (by decide +kernel) (by decide) ?_
  refine r_goto (tgt := 4) X dX4_mostTold_23 rfl ?_
  refine r_iload_n X dX4_mostTold_4 rfl ?_
  refine r_bipush (v := 9) X dX4_mostTold_5 (by decide +kernel) ?_
  refine r_icmp_gt_f (tgt := 26) X dX4_mostTold_7 rfl (by decide +kernel) ?_
  refine r_iload_n X dX4_mostTold_10 rfl ?_
  refine r_aload_n X dX4_mostTold_11 rfl ?_
  refine r_iload_n X dX4_mostTold_12 rfl ?_
  refine r_S2i X ks_X4_51 dX4_mostTold_13 (kx63_X4_timesTold l G _ _ hn _) rfl (fun x h' hΨ => ?_)
  obtain ⟨rfl, rfl⟩ := hΨ
  refine r_max (v := 0) X ks_X4_55.1.1 dX4_mostTold_16 rfl (by decide +kernel) ?_
  refine r_istore_n X dX4_mostTold_19 (by decide) ?_
  refine r_iinc (v := 9) X dX4_mostTold_20 rfl (by decide +kernel) (by decide) ?_
  refine r_eq (ls' := [some (vR (n + 89)), some (vR (n + 18)), some (vI 0), some (vI 9)]) rfl rfl rfl ?_
  refine r_goto (tgt := 4) X dX4_mostTold_23 rfl ?_
  refine r_iload_n X dX4_mostTold_4 rfl ?_
  refine r_bipush (v := 9) X dX4_mostTold_5 (by decide +kernel) ?_
  refine r_icmp_gt_f (tgt := 26) X dX4_mostTold_7 rfl (by decide +kernel) ?_
  refine r_iload_n X dX4_mostTold_10 rfl ?_
  refine r_aload_n X dX4_mostTold_11 rfl ?_
  refine r_iload_n X dX4_mostTold_12 rfl ?_
  refine r_S2i X ks_X4_51 dX4_mostTold_13 (kx64_X4_timesTold l G _ _ hn _) rfl (fun x h' hΨ => ?_)
  obtain ⟨rfl, rfl⟩ := hΨ
  refine r_max (v := 0) X ks_X4_55.1.1 dX4_mostTold_16 rfl (by decide +kernel) ?_
  refine r_istore_n X dX4_mostTold_19 (by decide) ?_
  refine r_iinc (v := 10) X dX4_mostTold_20 rfl (by decide +kernel) (by decide) ?_
  refine r_goto (tgt := 4) X dX4_mostTold_23 rfl ?_
  refine r_iload_n X dX4_mostTold_4 rfl ?_
  refine r_bipush (v := 9) X dX4_mostTold_5 (by decide +kernel) ?_
  refine r_icmp_gt_t (tgt := 26) X dX4_mostTold_7 rfl (by decide +kernel) ?_
  refine r_iload_n X dX4_mostTold_26 rfl ?_
  exact r_ret_i X hr hlk dX4_mostTold_27 (Nat.le_of_ble_eq_true rfl) (Nat.le_of_ble_eq_true rfl) ⟨_, rfl, ⟨rfl, rfl⟩⟩
set_option maxRecDepth 100000 in
set_option maxHeartbeats 4000000 in
theorem x_middle (l : Launch) (G : PG) (h0 : PH) (n : Nat) (hn : h0.length = n) (T : PH) (a : Int32) : PMet l G yX11_middle cX11_middle 2 (some .int) 2 0 0 [vR (n + 0), vI a] (h0 ++ (frC n ++ T)) (qI (fun x h' => x = sp_middle a ∧ kp n 103 T h')) := by
  refine PMet.intro (by decide) (Nat.le_of_ble_eq_true rfl) ?_
  intro p e s m args below meth c X hr hlk hnm
  refine r_iload_n X dX11_middle_0 rfl ?_
  rcases tabc a 0 3 (by decide) with q1 | ⟨q1j, q1l, q1e⟩
  · refine r_tabOut (tgt := 100) X dX11_middle_1 q1 rfl ?_
    have q1_0 : ¬ a = 0 := by rintro rfl; revert q1; decide
    have q1_1 : ¬ a = 1 := by rintro rfl; revert q1; decide
    have q1_2 : ¬ a = 2 := by rintro rfl; revert q1; decide
    have q1_3 : ¬ a = 3 := by rintro rfl; revert q1; decide
    refine r_iconst (v := -1) X dX11_middle_100 (by decide +kernel) ?_
    exact r_ret_i X hr hlk dX11_middle_101 (Nat.le_of_ble_eq_true rfl) (Nat.le_of_ble_eq_true rfl) ⟨_, rfl, by unfold sp_middle; (repeat' split) <;> first | rfl | (exfalso; have e0 : (-1 : Int32).toInt = -1 := (by decide); have e1 : (0 : Int32).toInt = 0 := (by decide); have e2 : (1 : Int32).toInt = 1 := (by decide); have e3 : (2 : Int32).toInt = 2 := (by decide); have e4 : (3 : Int32).toInt = 3 := (by decide); simp only [inR, Int32.lt_iff_toInt_lt, Int32.le_iff_toInt_le, ← Int32.toInt_inj, true_or, or_true, not_true_eq_false, and_true, true_and, false_or, or_false, false_and, and_false, not_false_eq_true] at * <;> omega), kp_of hn rfl rfl⟩
  · rcases (show q1j = 0 ∨ q1j = 1 ∨ q1j = 2 ∨ q1j = 3 by omega) with rfl | rfl | rfl | rfl
    · obtain rfl : a = 0 := q1e.trans (by decide +kernel)
      refine r_tabIn (off := 31) (tgt := 32) X dX11_middle_1 (by decide +kernel) (by decide +kernel) (by decide +kernel) rfl ?_
      refine r_aload_n X dX11_middle_32 rfl ?_
      refine a_get (a := 0) X hn fg_X11_54 dX11_middle_33 rfl rfl ?_
      refine r_aload_n X dX11_middle_36 rfl ?_
      refine a_get (a := 0) X hn fg_X11_12 dX11_middle_37 rfl rfl ?_
      refine a_get (a := 1) X hn fg_X11_246 dX11_middle_40 rfl rfl ?_
      refine r_iconst (v := 2) X dX11_middle_43 (by decide +kernel) ?_
      refine a_aald (a := 8) (v := vR (n + 16)) (C := RX9) X hn rfl dX11_middle_44 rfl (inK (by decide +kernel)) rfl ?_
      refine r_V1i X kv_X11_263 dX11_middle_45 (apG (k := 89) hn rfl) rfl (kx53_X4_middleOf l G _ _ hn _) rfl (fun x h' hΨ => ?_)
      obtain ⟨rfl, rfl⟩ := hΨ
      exact r_ret_i X hr hlk dX11_middle_48 (Nat.le_of_ble_eq_true rfl) (Nat.le_of_ble_eq_true rfl) ⟨_, rfl, by unfold sp_middle; (repeat' split) <;> first | rfl | (exfalso; have e0 : (-1 : Int32).toInt = -1 := (by decide); have e1 : (0 : Int32).toInt = 0 := (by decide); have e2 : (1 : Int32).toInt = 1 := (by decide); have e3 : (3 : Int32).toInt = 3 := (by decide); simp only [inR, Int32.lt_iff_toInt_lt, Int32.le_iff_toInt_le, ← Int32.toInt_inj, true_or, or_true, not_true_eq_false, and_true, true_and, false_or, or_false, false_and, and_false, not_false_eq_true] at * <;> omega), kp_of hn rfl rfl⟩
    · obtain rfl : a = 1 := q1e.trans (by decide +kernel)
      refine r_tabIn (off := 48) (tgt := 49) X dX11_middle_1 (by decide +kernel) (by decide +kernel) (by decide +kernel) rfl ?_
      refine r_aload_n X dX11_middle_49 rfl ?_
      refine a_get (a := 0) X hn fg_X11_54 dX11_middle_50 rfl rfl ?_
      refine r_aload_n X dX11_middle_53 rfl ?_
      refine a_get (a := 0) X hn fg_X11_12 dX11_middle_54 rfl rfl ?_
      refine a_get (a := 1) X hn fg_X11_246 dX11_middle_57 rfl rfl ?_
      refine r_iconst (v := 2) X dX11_middle_60 (by decide +kernel) ?_
      refine a_aald (a := 8) (v := vR (n + 16)) (C := RX9) X hn rfl dX11_middle_61 rfl (inK (by decide +kernel)) rfl ?_
      refine r_V1i X kv_X11_267 dX11_middle_62 (apG (k := 89) hn rfl) rfl (kx54_X4_farFromMiddle l G _ _ hn _) rfl (fun x h' hΨ => ?_)
      obtain ⟨rfl, rfl⟩ := hΨ
      exact r_ret_i X hr hlk dX11_middle_65 (Nat.le_of_ble_eq_true rfl) (Nat.le_of_ble_eq_true rfl) ⟨_, rfl, by unfold sp_middle; (repeat' split) <;> first | rfl | (exfalso; have e0 : (-1 : Int32).toInt = -1 := (by decide); have e1 : (0 : Int32).toInt = 0 := (by decide); have e2 : (1 : Int32).toInt = 1 := (by decide); have e3 : (3 : Int32).toInt = 3 := (by decide); simp only [inR, Int32.lt_iff_toInt_lt, Int32.le_iff_toInt_le, ← Int32.toInt_inj, true_or, or_true, not_true_eq_false, and_true, true_and, false_or, or_false, false_and, and_false, not_false_eq_true] at * <;> omega), kp_of hn rfl rfl⟩
    · obtain rfl : a = 2 := q1e.trans (by decide +kernel)
      refine r_tabIn (off := 65) (tgt := 66) X dX11_middle_1 (by decide +kernel) (by decide +kernel) (by decide +kernel) rfl ?_
      refine r_aload_n X dX11_middle_66 rfl ?_
      refine a_get (a := 0) X hn fg_X11_54 dX11_middle_67 rfl rfl ?_
      refine r_aload_n X dX11_middle_70 rfl ?_
      refine a_get (a := 0) X hn fg_X11_12 dX11_middle_71 rfl rfl ?_
      refine a_get (a := 1) X hn fg_X11_246 dX11_middle_74 rfl rfl ?_
      refine r_iconst (v := 3) X dX11_middle_77 (by decide +kernel) ?_
      refine a_aald (a := 8) (v := vR (n + 18)) (C := RX9) X hn rfl dX11_middle_78 rfl (inK (by decide +kernel)) rfl ?_
      refine r_V1i X kv_X11_270 dX11_middle_79 (apG (k := 89) hn rfl) rfl (kx65_X4_moreThanHalf l G _ _ hn _) rfl (fun x h' hΨ => ?_)
      obtain ⟨rfl, rfl⟩ := hΨ
      exact r_ret_i X hr hlk dX11_middle_82 (Nat.le_of_ble_eq_true rfl) (Nat.le_of_ble_eq_true rfl) ⟨_, rfl, by unfold sp_middle; (repeat' split) <;> first | rfl | (exfalso; have e0 : (-1 : Int32).toInt = -1 := (by decide); have e1 : (0 : Int32).toInt = 0 := (by decide); have e2 : (1 : Int32).toInt = 1 := (by decide); have e3 : (2 : Int32).toInt = 2 := (by decide); have e4 : (3 : Int32).toInt = 3 := (by decide); simp only [inR, Int32.lt_iff_toInt_lt, Int32.le_iff_toInt_le, ← Int32.toInt_inj, true_or, or_true, not_true_eq_false, and_true, true_and, false_or, or_false, false_and, and_false, not_false_eq_true] at * <;> omega), kp_of hn rfl rfl⟩
    · obtain rfl : a = 3 := q1e.trans (by decide +kernel)
      refine r_tabIn (off := 82) (tgt := 83) X dX11_middle_1 (by decide +kernel) (by decide +kernel) (by decide +kernel) rfl ?_
      refine r_aload_n X dX11_middle_83 rfl ?_
      refine a_get (a := 0) X hn fg_X11_54 dX11_middle_84 rfl rfl ?_
      refine r_aload_n X dX11_middle_87 rfl ?_
      refine a_get (a := 0) X hn fg_X11_12 dX11_middle_88 rfl rfl ?_
      refine a_get (a := 1) X hn fg_X11_246 dX11_middle_91 rfl rfl ?_
      refine r_iconst (v := 3) X dX11_middle_94 (by decide +kernel) ?_
      refine a_aald (a := 8) (v := vR (n + 18)) (C := RX9) X hn rfl dX11_middle_95 rfl (inK (by decide +kernel)) rfl ?_
      refine r_V1i X kv_X11_273 dX11_middle_96 (apG (k := 89) hn rfl) rfl (kx66_X4_mostTold l G _ _ hn _) rfl (fun x h' hΨ => ?_)
      obtain ⟨rfl, rfl⟩ := hΨ
      exact r_ret_i X hr hlk dX11_middle_99 (Nat.le_of_ble_eq_true rfl) (Nat.le_of_ble_eq_true rfl) ⟨_, rfl, by unfold sp_middle; (repeat' split) <;> first | rfl | (exfalso; have e0 : (-1 : Int32).toInt = -1 := (by decide); have e1 : (0 : Int32).toInt = 0 := (by decide); have e2 : (1 : Int32).toInt = 1 := (by decide); have e3 : (3 : Int32).toInt = 3 := (by decide); simp only [inR, Int32.lt_iff_toInt_lt, Int32.le_iff_toInt_le, ← Int32.toInt_inj, true_or, or_true, not_true_eq_false, and_true, true_and, false_or, or_false, false_and, and_false, not_false_eq_true] at * <;> omega), kp_of hn rfl rfl⟩
