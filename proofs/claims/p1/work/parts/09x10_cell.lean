set_option maxRecDepth 100000 in
set_option maxHeartbeats 4000000 in
theorem kx30_X0_mark (l : Launch) (G : PG) (h0 : PH) (n : Nat) (hn : h0.length = n) (T : PH) (z0 : Nat) (hz0 : z0 ≤ 143) : PMet l G yX0_mark cX0_mark 2 (some .int) 0 0 0 [vR (n + 2), vI (nI z0)] (h0 ++ (frC n ++ T)) (qI (fun x h' => x = 0 ∧ h' = h0 ++ (frC n ++ T))) := by
  refine PMet.intro (by decide) (Nat.le_of_ble_eq_true rfl) ?_
  intro p e s m args below meth c X hr hlk hnm
  refine r_iload_n X dX0_mark_0 rfl ?_
  refine r_if_lt_f (tgt := 20) X dX0_mark_1 rfl (by have e0 : (0 : Int32).toInt = 0 := (by decide); have e1 : (nI z0).toInt = ((z0 : Nat) : Int) := toN (rfl) (by omega); simp only [Int32.lt_iff_toInt_lt, Int32.le_iff_toInt_le, ← Int32.toInt_inj] at  ⊢; omega) ?_
  refine r_iload_n X dX0_mark_4 rfl ?_
  refine r_sipush (v := 144) X dX0_mark_5 (by decide +kernel) ?_
  refine r_icmp_ge_f (tgt := 20) X dX0_mark_8 rfl (by have e0 : (144 : Int32).toInt = 144 := (by decide); have e1 : (nI z0).toInt = ((z0 : Nat) : Int) := toN (rfl) (by omega); simp only [Int32.lt_iff_toInt_lt, Int32.le_iff_toInt_le, ← Int32.toInt_inj] at  ⊢; omega) ?_
  refine r_aload_n X dX0_mark_11 rfl ?_
  refine a_get (a := 2) X hn fg_X0_15 dX0_mark_12 rfl rfl ?_
  refine r_iload_n X dX0_mark_15 rfl ?_
  refine a_iald (a := 4) (v := 0) X hn dX0_mark_16 rfl (vin (k := z0) (rfl) (by omega) (by decide)) rfl ?_
  refine r_goto (tgt := 21) X dX0_mark_17 rfl ?_
  exact r_ret_i X hr hlk dX0_mark_21 (Nat.le_of_ble_eq_true rfl) (Nat.le_of_ble_eq_true rfl) ⟨_, rfl, ⟨rfl, rfl⟩⟩
set_option maxRecDepth 100000 in
set_option maxHeartbeats 4000000 in
theorem kx31_X0_owner (l : Launch) (G : PG) (h0 : PH) (n : Nat) (hn : h0.length = n) (T : PH) (z0 : Nat) (hz0 : z0 ≤ 143) : PMet l G yX0_owner cX0_owner 3 (some .int) 1 0 0 [vR (n + 2), vI (nI z0)] (h0 ++ (frC n ++ T)) (qI (fun x h' => x = (-1) ∧ h' = h0 ++ (frC n ++ T))) := by
  refine PMet.intro (by decide) (Nat.le_of_ble_eq_true rfl) ?_
  intro p e s m args below meth c X hr hlk hnm
  refine r_aload_n X dX0_owner_0 rfl ?_
  refine r_iload_n X dX0_owner_1 rfl ?_
  refine r_V1i X kv_X0_57 dX0_owner_2 (apG (k := 2) hn rfl) rfl (kx30_X0_mark l G _ _ hn _ _ (by omega)) rfl (fun x h' hΨ => ?_)
  obtain ⟨rfl, rfl⟩ := hΨ
  refine r_istore_n X dX0_owner_5 (by decide) ?_
  refine r_iload_n X dX0_owner_6 rfl ?_
  refine r_if_ne_f (tgt := 14) X dX0_owner_7 rfl (by decide +kernel) ?_
  refine r_iconst (v := -1) X dX0_owner_10 (by decide +kernel) ?_
  refine r_goto (tgt := 20) X dX0_owner_11 rfl ?_
  exact r_ret_i X hr hlk dX0_owner_20 (Nat.le_of_ble_eq_true rfl) (Nat.le_of_ble_eq_true rfl) ⟨_, rfl, ⟨rfl, rfl⟩⟩
set_option maxRecDepth 100000 in
set_option maxHeartbeats 4000000 in
theorem kx32_J6_compare_7cf53 (l : Launch) (G : PG) (h0 : PH) (n : Nat) (hn : h0.length = n) (T : PH) : PMet l G yJ6_compare_7cf53 cJ6_compare_7cf53 2 (some .int) 0 0 0 [vI 0, vI 0] (h0 ++ (frC n ++ T)) (qI (fun x h' => x = 0 ∧ h' = h0 ++ (frC n ++ T))) := by
  refine PMet.intro (by decide) (Nat.le_of_ble_eq_true rfl) ?_
  intro p e s m args below meth c X hr hlk hnm
  refine r_iload_n X dJ6_compare_7cf53_0 rfl ?_
  refine r_iload_n X dJ6_compare_7cf53_1 rfl ?_
  refine r_icmp_ge_t (tgt := 9) X dJ6_compare_7cf53_2 rfl (by decide +kernel) ?_
  refine r_iload_n X dJ6_compare_7cf53_9 rfl ?_
  refine r_iload_n X dJ6_compare_7cf53_10 rfl ?_
  refine r_icmp_ne_f (tgt := 18) X dJ6_compare_7cf53_11 rfl (by decide +kernel) ?_
  refine r_iconst (v := 0) X dJ6_compare_7cf53_14 (by decide +kernel) ?_
  refine r_goto (tgt := 19) X dJ6_compare_7cf53_15 rfl ?_
  exact r_ret_i X hr hlk dJ6_compare_7cf53_19 (Nat.le_of_ble_eq_true rfl) (Nat.le_of_ble_eq_true rfl) ⟨_, rfl, ⟨rfl, rfl⟩⟩
set_option maxRecDepth 100000 in
set_option maxHeartbeats 4000000 in
theorem kx33_X0_way (l : Launch) (G : PG) (h0 : PH) (n : Nat) (hn : h0.length = n) (T : PH) (z0 : Nat) (hz0 : z0 ≤ 143) : PMet l G yX0_way cX0_way 2 (some .int) 1 0 0 [vR (n + 2), vI (nI z0)] (h0 ++ (frC n ++ T)) (qI (fun x h' => x = 0 ∧ h' = h0 ++ (frC n ++ T))) := by
  refine PMet.intro (by decide) (Nat.le_of_ble_eq_true rfl) ?_
  intro p e s m args below meth c X hr hlk hnm
  refine r_aload_n X dX0_way_0 rfl ?_
  refine r_iload_n X dX0_way_1 rfl ?_
  refine r_V1i X kv_X0_57 dX0_way_2 (apG (k := 2) hn rfl) rfl (kx30_X0_mark l G _ _ hn _ _ (by omega)) rfl (fun x h' hΨ => ?_)
  obtain ⟨rfl, rfl⟩ := hΨ
  refine r_iconst (v := 0) X dX0_way_5 (by decide +kernel) ?_
  refine r_S2i X ks_X0_66 dX0_way_6 (kx32_J6_compare_7cf53 l G _ _ hn _) rfl (fun x h' hΨ => ?_)
  obtain ⟨rfl, rfl⟩ := hΨ
  exact r_ret_i X hr hlk dX0_way_9 (Nat.le_of_ble_eq_true rfl) (Nat.le_of_ble_eq_true rfl) ⟨_, rfl, ⟨rfl, rfl⟩⟩
set_option maxRecDepth 100000 in
set_option maxHeartbeats 4000000 in
theorem kx34_X0_depth (l : Launch) (G : PG) (h0 : PH) (n : Nat) (hn : h0.length = n) (T : PH) (z0 : Nat) (hz0 : z0 ≤ 143) : PMet l G yX0_depth cX0_depth 2 (some .int) 1 0 0 [vR (n + 2), vI (nI z0)] (h0 ++ (frC n ++ T)) (qI (fun x h' => x = 0 ∧ h' = h0 ++ (frC n ++ T))) := by
  refine PMet.intro (by decide) (Nat.le_of_ble_eq_true rfl) ?_
  intro p e s m args below meth c X hr hlk hnm
  refine r_aload_n X dX0_depth_0 rfl ?_
  refine r_iload_n X dX0_depth_1 rfl ?_
  refine r_V1i X kv_X0_57 dX0_depth_2 (apG (k := 2) hn rfl) rfl (kx30_X0_mark l G _ _ hn _ _ (by omega)) rfl (fun x h' hΨ => ?_)
  obtain ⟨rfl, rfl⟩ := hΨ
  refine r_abs (v := 0) X ks_X0_61.1.1 dX0_depth_5 rfl (by decide +kernel) ?_
  refine r_bipush (v := 15) X dX0_depth_8 (by decide +kernel) ?_
  refine r_iandE (v := 0) X dX0_depth_10 (by decide +kernel) ?_
  exact r_ret_i X hr hlk dX0_depth_11 (Nat.le_of_ble_eq_true rfl) (Nat.le_of_ble_eq_true rfl) ⟨_, rfl, ⟨rfl, rfl⟩⟩
set_option maxRecDepth 100000 in
set_option maxHeartbeats 4000000 in
theorem x_cell (l : Launch) (G : PG) (h0 : PH) (n : Nat) (hn : h0.length = n) (T : PH) (a b c0 : Int32) : PMet l G yX11_cell cX11_cell 6 (some .int) 2 0 0 [vR (n + 0), vI a, vI b, vI c0] (h0 ++ (frC n ++ T)) (qI (fun x h' => x = sp_cell a b c0 ∧ kp n 103 T h')) := by
  refine PMet.intro (by decide) (Nat.le_of_ble_eq_true rfl) ?_
  intro p e s m args below meth c X hr hlk hnm
  refine r_iload_n X dX11_cell_0 rfl ?_
  refine r_iload_n X dX11_cell_1 rfl ?_
  refine r_S2i X ks_X11_124 dX11_cell_2 (kx22_X11_cellAt l G _ _ hn _ _ _) rfl (fun x h' hΨ => ?_)
  rcases hΨ with ⟨q1, rfl, rfl⟩ | ⟨q2, q3, rfl, rfl⟩ | ⟨q4, q5, q6, rfl, rfl⟩ | ⟨q7, q8, q9, q10, rfl, rfl⟩ | ⟨q11, q12, q13, q14, rfl, rfl⟩
  · refine r_istore X dX11_cell_5 (by decide) ?_
    refine r_iload X dX11_cell_7 rfl ?_
    refine r_iconst (v := -1) X dX11_cell_9 (by decide +kernel) ?_
    refine r_icmp_eq_t (tgt := 22) X dX11_cell_10 rfl (by decide +kernel) ?_
    refine r_bipush (v := -2) X dX11_cell_22 (by decide +kernel) ?_
    exact r_ret_i X hr hlk dX11_cell_24 (Nat.le_of_ble_eq_true rfl) (Nat.le_of_ble_eq_true rfl) ⟨_, rfl, by unfold sp_cell; (repeat' split) <;> first | rfl | (exfalso; have e0 : (-1 : Int32).toInt = -1 := (by decide); have e1 : (-2 : Int32).toInt = -2 := (by decide); have e2 : (0 : Int32).toInt = 0 := (by decide); have e3 : (11 : Int32).toInt = 11 := (by decide); have e4 : (3 : Int32).toInt = 3 := (by decide); have e5 : (4 : Int32).toInt = 4 := (by decide); simp only [inR, Int32.lt_iff_toInt_lt, Int32.le_iff_toInt_le, ← Int32.toInt_inj, true_or, or_true, not_true_eq_false, and_true, true_and, false_or, or_false, false_and, and_false, not_false_eq_true] at * <;> omega), kp_of hn rfl rfl⟩
  · refine r_istore X dX11_cell_5 (by decide) ?_
    refine r_iload X dX11_cell_7 rfl ?_
    refine r_iconst (v := -1) X dX11_cell_9 (by decide +kernel) ?_
    refine r_icmp_eq_t (tgt := 22) X dX11_cell_10 rfl (by decide +kernel) ?_
    refine r_bipush (v := -2) X dX11_cell_22 (by decide +kernel) ?_
    exact r_ret_i X hr hlk dX11_cell_24 (Nat.le_of_ble_eq_true rfl) (Nat.le_of_ble_eq_true rfl) ⟨_, rfl, by unfold sp_cell; (repeat' split) <;> first | rfl | (exfalso; have e0 : (-1 : Int32).toInt = -1 := (by decide); have e1 : (-2 : Int32).toInt = -2 := (by decide); have e2 : (0 : Int32).toInt = 0 := (by decide); have e3 : (11 : Int32).toInt = 11 := (by decide); have e4 : (12 : Int32).toInt = 12 := (by decide); have e5 : (3 : Int32).toInt = 3 := (by decide); have e6 : (4 : Int32).toInt = 4 := (by decide); simp only [inR, Int32.lt_iff_toInt_lt, Int32.le_iff_toInt_le, ← Int32.toInt_inj, true_or, or_true, not_true_eq_false, and_true, true_and, false_or, or_false, false_and, and_false, not_false_eq_true] at * <;> omega), kp_of hn rfl rfl⟩
  · refine r_istore X dX11_cell_5 (by decide) ?_
    refine r_iload X dX11_cell_7 rfl ?_
    refine r_iconst (v := -1) X dX11_cell_9 (by decide +kernel) ?_
    refine r_icmp_eq_t (tgt := 22) X dX11_cell_10 rfl (by decide +kernel) ?_
    refine r_bipush (v := -2) X dX11_cell_22 (by decide +kernel) ?_
    exact r_ret_i X hr hlk dX11_cell_24 (Nat.le_of_ble_eq_true rfl) (Nat.le_of_ble_eq_true rfl) ⟨_, rfl, by unfold sp_cell; (repeat' split) <;> first | rfl | (exfalso; have e0 : (-1 : Int32).toInt = -1 := (by decide); have e1 : (-2 : Int32).toInt = -2 := (by decide); have e2 : (0 : Int32).toInt = 0 := (by decide); have e3 : (11 : Int32).toInt = 11 := (by decide); have e4 : (12 : Int32).toInt = 12 := (by decide); have e5 : (3 : Int32).toInt = 3 := (by decide); have e6 : (4 : Int32).toInt = 4 := (by decide); simp only [inR, Int32.lt_iff_toInt_lt, Int32.le_iff_toInt_le, ← Int32.toInt_inj, true_or, or_true, not_true_eq_false, and_true, true_and, false_or, or_false, false_and, and_false, not_false_eq_true] at * <;> omega), kp_of hn rfl rfl⟩
  · refine r_istore X dX11_cell_5 (by decide) ?_
    refine r_iload X dX11_cell_7 rfl ?_
    refine r_iconst (v := -1) X dX11_cell_9 (by decide +kernel) ?_
    refine r_icmp_eq_t (tgt := 22) X dX11_cell_10 rfl (by decide +kernel) ?_
    refine r_bipush (v := -2) X dX11_cell_22 (by decide +kernel) ?_
    exact r_ret_i X hr hlk dX11_cell_24 (Nat.le_of_ble_eq_true rfl) (Nat.le_of_ble_eq_true rfl) ⟨_, rfl, by unfold sp_cell; (repeat' split) <;> first | rfl | (exfalso; have e0 : (-1 : Int32).toInt = -1 := (by decide); have e1 : (-2 : Int32).toInt = -2 := (by decide); have e2 : (0 : Int32).toInt = 0 := (by decide); have e3 : (11 : Int32).toInt = 11 := (by decide); have e4 : (12 : Int32).toInt = 12 := (by decide); have e5 : (3 : Int32).toInt = 3 := (by decide); have e6 : (4 : Int32).toInt = 4 := (by decide); simp only [inR, Int32.lt_iff_toInt_lt, Int32.le_iff_toInt_le, ← Int32.toInt_inj, true_or, or_true, not_true_eq_false, and_true, true_and, false_or, or_false, false_and, and_false, not_false_eq_true] at * <;> omega), kp_of hn rfl rfl⟩
  · refine r_istore X dX11_cell_5 (by decide) ?_
    refine r_iload X dX11_cell_7 rfl ?_
    refine r_iconst (v := -1) X dX11_cell_9 (by decide +kernel) ?_
    obtain ⟨j_a, hj_a, rfl⟩ : ∃ j : Nat, j ≤ 11 ∧ a = nI j := nI_of2 (M := 11) (by decide) (by have e1 : (0 : Int32).toInt = 0 := (by decide); have e2 : (12 : Int32).toInt = 12 := (by decide); simp only [Int32.lt_iff_toInt_lt, Int32.le_iff_toInt_le, ← Int32.toInt_inj] at q11 q12 ⊢; omega) (by have e1 : (0 : Int32).toInt = 0 := (by decide); have e2 : (11 : Int32).toInt = 11 := (by decide); have e3 : (12 : Int32).toInt = 12 := (by decide); simp only [Int32.lt_iff_toInt_lt, Int32.le_iff_toInt_le, ← Int32.toInt_inj] at q11 q12 ⊢; omega)
    obtain ⟨j_b, hj_b, rfl⟩ : ∃ j : Nat, j ≤ 11 ∧ b = nI j := nI_of2 (M := 11) (by decide) (by have e1 : (0 : Int32).toInt = 0 := (by decide); have e2 : (12 : Int32).toInt = 12 := (by decide); simp only [Int32.lt_iff_toInt_lt, Int32.le_iff_toInt_le, ← Int32.toInt_inj] at q13 q14 ⊢; omega) (by have e1 : (0 : Int32).toInt = 0 := (by decide); have e2 : (11 : Int32).toInt = 11 := (by decide); have e3 : (12 : Int32).toInt = 12 := (by decide); simp only [Int32.lt_iff_toInt_lt, Int32.le_iff_toInt_le, ← Int32.toInt_inj] at q13 q14 ⊢; omega)
    refine r_icmp_eq_f (tgt := 22) X dX11_cell_10 rfl (by have e0 : ((((nI j_a)) * 12) + ((nI j_b))).toInt = ((((j_a * 12) + j_b) : Nat) : Int) := toN (nadd (nmul (rfl) ((rfl : (12 : Int32) = nI 12))) (rfl)) (by omega); have e1 : (-1 : Int32).toInt = -1 := (by decide); simp only [Int32.lt_iff_toInt_lt, Int32.le_iff_toInt_le, ← Int32.toInt_inj] at  ⊢; omega) ?_
    refine r_iload_n X dX11_cell_13 rfl ?_
    refine r_if_lt (tgt := 22) X dX11_cell_14 rfl (fun q15 => ?_) (fun q15 => ?_)
    · refine r_bipush (v := -2) X dX11_cell_22 (by decide +kernel) ?_
      exact r_ret_i X hr hlk dX11_cell_24 (Nat.le_of_ble_eq_true rfl) (Nat.le_of_ble_eq_true rfl) ⟨_, rfl, by unfold sp_cell; (repeat' split) <;> first | rfl | (exfalso; have e0 : (-1 : Int32).toInt = -1 := (by decide); have e1 : (-2 : Int32).toInt = -2 := (by decide); have e2 : (0 : Int32).toInt = 0 := (by decide); have e3 : (11 : Int32).toInt = 11 := (by decide); have e4 : (12 : Int32).toInt = 12 := (by decide); have e5 : (3 : Int32).toInt = 3 := (by decide); have e6 : (4 : Int32).toInt = 4 := (by decide); have en0 : (nI j_a).toInt = ((j_a : Nat) : Int) := toN rfl (by omega); have en1 : (nI j_b).toInt = ((j_b : Nat) : Int) := toN rfl (by omega); simp only [inR, Int32.lt_iff_toInt_lt, Int32.le_iff_toInt_le, ← Int32.toInt_inj, true_or, or_true, not_true_eq_false, and_true, true_and, false_or, or_false, false_and, and_false, not_false_eq_true] at * <;> omega), kp_of hn rfl rfl⟩
    · refine r_iload_n X dX11_cell_17 rfl ?_
      refine r_iconst (v := 4) X dX11_cell_18 (by decide +kernel) ?_
      refine r_icmp_le (tgt := 25) X dX11_cell_19 rfl (fun q16 => ?_) (fun q16 => ?_)
      · refine r_aload_n X dX11_cell_25 rfl ?_
        refine a_get (a := 0) X hn fg_X11_12 dX11_cell_26 rfl rfl ?_
        refine a_get (a := 1) X hn fg_X11_67 dX11_cell_29 rfl rfl ?_
        refine r_iload X dX11_cell_32 rfl ?_
        refine r_eq (st' := [vI (nI ((j_a * 12) + j_b)), vR (n + 2)]) rfl rfl (by rw [show ((((nI j_a)) * 12) + ((nI j_b)) : Int32) = nI ((j_a * 12) + j_b) from nadd (nmul (rfl) ((rfl : (12 : Int32) = nI 12))) (rfl)]) ?_
        refine r_V1i X kv_X11_127 dX11_cell_34 (apG (k := 2) hn rfl) rfl (kx24_X0_marked l G _ _ hn _ _ (by omega)) rfl (fun x h' hΨ => ?_)
        obtain ⟨rfl, rfl⟩ := hΨ
        refine r_if_ne_f (tgt := 44) X dX11_cell_37 rfl (by decide +kernel) ?_
        refine r_iconst (v := 1) X dX11_cell_40 (by decide +kernel) ?_
        refine r_goto (tgt := 45) X dX11_cell_41 rfl ?_
        refine r_istore X dX11_cell_45 (by decide) ?_
        refine r_iload_n X dX11_cell_47 rfl ?_
        rcases tabc c0 0 3 (by decide) with q17 | ⟨q17j, q17l, q17e⟩
        · refine r_tabOut (tgt := 138) X dX11_cell_48 q17 rfl ?_
          have q17_0 : ¬ c0 = 0 := by rintro rfl; revert q17; decide
          have q17_1 : ¬ c0 = 1 := by rintro rfl; revert q17; decide
          have q17_2 : ¬ c0 = 2 := by rintro rfl; revert q17; decide
          have q17_3 : ¬ c0 = 3 := by rintro rfl; revert q17; decide
          refine r_iload X dX11_cell_138 rfl ?_
          refine r_if_eq_f (tgt := 147) X dX11_cell_140 rfl (by decide +kernel) ?_
          refine r_iconst (v := -1) X dX11_cell_143 (by decide +kernel) ?_
          refine r_goto (tgt := 156) X dX11_cell_144 rfl ?_
          exact r_ret_i X hr hlk dX11_cell_156 (Nat.le_of_ble_eq_true rfl) (Nat.le_of_ble_eq_true rfl) ⟨_, rfl, by unfold sp_cell; (repeat' split) <;> first | rfl | (exfalso; have e0 : (-1 : Int32).toInt = -1 := (by decide); have e1 : (-2 : Int32).toInt = -2 := (by decide); have e2 : (0 : Int32).toInt = 0 := (by decide); have e3 : (1 : Int32).toInt = 1 := (by decide); have e4 : (11 : Int32).toInt = 11 := (by decide); have e5 : (12 : Int32).toInt = 12 := (by decide); have e6 : (2 : Int32).toInt = 2 := (by decide); have e7 : (3 : Int32).toInt = 3 := (by decide); have e8 : (4 : Int32).toInt = 4 := (by decide); have en0 : (nI j_a).toInt = ((j_a : Nat) : Int) := toN rfl (by omega); have en1 : (nI j_b).toInt = ((j_b : Nat) : Int) := toN rfl (by omega); simp only [inR, Int32.lt_iff_toInt_lt, Int32.le_iff_toInt_le, ← Int32.toInt_inj, true_or, or_true, not_true_eq_false, and_true, true_and, false_or, or_false, false_and, and_false, not_false_eq_true] at * <;> omega), kp_of hn rfl rfl⟩
        · rcases (show q17j = 0 ∨ q17j = 1 ∨ q17j = 2 ∨ q17j = 3 by omega) with rfl | rfl | rfl | rfl
          · obtain rfl : c0 = 0 := q17e.trans (by decide +kernel)
            refine r_tabIn (off := 32) (tgt := 80) X dX11_cell_48 (by decide +kernel) (by decide +kernel) (by decide +kernel) rfl ?_
            refine r_aload_n X dX11_cell_80 rfl ?_
            refine a_get (a := 0) X hn fg_X11_12 dX11_cell_81 rfl rfl ?_
            refine a_get (a := 1) X hn fg_X11_67 dX11_cell_84 rfl rfl ?_
            refine r_iload X dX11_cell_87 rfl ?_
            refine r_eq (st' := [vI (nI ((j_a * 12) + j_b)), vR (n + 2)]) rfl rfl (by rw [show ((((nI j_a)) * 12) + ((nI j_b)) : Int32) = nI ((j_a * 12) + j_b) from nadd (nmul (rfl) ((rfl : (12 : Int32) = nI 12))) (rfl)]) ?_
            refine r_V1i X kv_X11_176 dX11_cell_89 (apG (k := 2) hn rfl) rfl (kx31_X0_owner l G _ _ hn _ _ (by omega)) rfl (fun x h' hΨ => ?_)
            obtain ⟨rfl, rfl⟩ := hΨ
            exact r_ret_i X hr hlk dX11_cell_92 (Nat.le_of_ble_eq_true rfl) (Nat.le_of_ble_eq_true rfl) ⟨_, rfl, by unfold sp_cell; (repeat' split) <;> first | rfl | (exfalso; have e0 : (-1 : Int32).toInt = -1 := (by decide); have e1 : (-2 : Int32).toInt = -2 := (by decide); have e2 : (0 : Int32).toInt = 0 := (by decide); have e3 : (11 : Int32).toInt = 11 := (by decide); have e4 : (12 : Int32).toInt = 12 := (by decide); have e5 : (3 : Int32).toInt = 3 := (by decide); have e6 : (4 : Int32).toInt = 4 := (by decide); have en0 : (nI j_a).toInt = ((j_a : Nat) : Int) := toN rfl (by omega); have en1 : (nI j_b).toInt = ((j_b : Nat) : Int) := toN rfl (by omega); simp only [inR, Int32.lt_iff_toInt_lt, Int32.le_iff_toInt_le, ← Int32.toInt_inj, true_or, or_true, not_true_eq_false, and_true, true_and, false_or, or_false, false_and, and_false, not_false_eq_true] at * <;> omega), kp_of hn rfl rfl⟩
          · obtain rfl : c0 = 1 := q17e.trans (by decide +kernel)
            refine r_tabIn (off := 45) (tgt := 93) X dX11_cell_48 (by decide +kernel) (by decide +kernel) (by decide +kernel) rfl ?_
            refine r_aload_n X dX11_cell_93 rfl ?_
            refine a_get (a := 0) X hn fg_X11_12 dX11_cell_94 rfl rfl ?_
            refine a_get (a := 1) X hn fg_X11_67 dX11_cell_97 rfl rfl ?_
            refine r_iload X dX11_cell_100 rfl ?_
            refine r_eq (st' := [vI (nI ((j_a * 12) + j_b)), vR (n + 2)]) rfl rfl (by rw [show ((((nI j_a)) * 12) + ((nI j_b)) : Int32) = nI ((j_a * 12) + j_b) from nadd (nmul (rfl) ((rfl : (12 : Int32) = nI 12))) (rfl)]) ?_
            refine r_V1i X kv_X11_179 dX11_cell_102 (apG (k := 2) hn rfl) rfl (kx33_X0_way l G _ _ hn _ _ (by omega)) rfl (fun x h' hΨ => ?_)
            obtain ⟨rfl, rfl⟩ := hΨ
            exact r_ret_i X hr hlk dX11_cell_105 (Nat.le_of_ble_eq_true rfl) (Nat.le_of_ble_eq_true rfl) ⟨_, rfl, by unfold sp_cell; (repeat' split) <;> first | rfl | (exfalso; have e0 : (-1 : Int32).toInt = -1 := (by decide); have e1 : (-2 : Int32).toInt = -2 := (by decide); have e2 : (0 : Int32).toInt = 0 := (by decide); have e3 : (1 : Int32).toInt = 1 := (by decide); have e4 : (11 : Int32).toInt = 11 := (by decide); have e5 : (12 : Int32).toInt = 12 := (by decide); have e6 : (3 : Int32).toInt = 3 := (by decide); have e7 : (4 : Int32).toInt = 4 := (by decide); have en0 : (nI j_a).toInt = ((j_a : Nat) : Int) := toN rfl (by omega); have en1 : (nI j_b).toInt = ((j_b : Nat) : Int) := toN rfl (by omega); simp only [inR, Int32.lt_iff_toInt_lt, Int32.le_iff_toInt_le, ← Int32.toInt_inj, true_or, or_true, not_true_eq_false, and_true, true_and, false_or, or_false, false_and, and_false, not_false_eq_true] at * <;> omega), kp_of hn rfl rfl⟩
          · obtain rfl : c0 = 2 := q17e.trans (by decide +kernel)
            refine r_tabIn (off := 58) (tgt := 106) X dX11_cell_48 (by decide +kernel) (by decide +kernel) (by decide +kernel) rfl ?_
            refine r_aload_n X dX11_cell_106 rfl ?_
            refine a_get (a := 0) X hn fg_X11_12 dX11_cell_107 rfl rfl ?_
            refine a_get (a := 1) X hn fg_X11_67 dX11_cell_110 rfl rfl ?_
            refine r_iload X dX11_cell_113 rfl ?_
            refine r_eq (st' := [vI (nI ((j_a * 12) + j_b)), vR (n + 2)]) rfl rfl (by rw [show ((((nI j_a)) * 12) + ((nI j_b)) : Int32) = nI ((j_a * 12) + j_b) from nadd (nmul (rfl) ((rfl : (12 : Int32) = nI 12))) (rfl)]) ?_
            refine r_V1i X kv_X11_182 dX11_cell_115 (apG (k := 2) hn rfl) rfl (kx34_X0_depth l G _ _ hn _ _ (by omega)) rfl (fun x h' hΨ => ?_)
            obtain ⟨rfl, rfl⟩ := hΨ
            exact r_ret_i X hr hlk dX11_cell_118 (Nat.le_of_ble_eq_true rfl) (Nat.le_of_ble_eq_true rfl) ⟨_, rfl, by unfold sp_cell; (repeat' split) <;> first | rfl | (exfalso; have e0 : (-1 : Int32).toInt = -1 := (by decide); have e1 : (-2 : Int32).toInt = -2 := (by decide); have e2 : (0 : Int32).toInt = 0 := (by decide); have e3 : (11 : Int32).toInt = 11 := (by decide); have e4 : (12 : Int32).toInt = 12 := (by decide); have e5 : (2 : Int32).toInt = 2 := (by decide); have e6 : (3 : Int32).toInt = 3 := (by decide); have e7 : (4 : Int32).toInt = 4 := (by decide); have en0 : (nI j_a).toInt = ((j_a : Nat) : Int) := toN rfl (by omega); have en1 : (nI j_b).toInt = ((j_b : Nat) : Int) := toN rfl (by omega); simp only [inR, Int32.lt_iff_toInt_lt, Int32.le_iff_toInt_le, ← Int32.toInt_inj, true_or, or_true, not_true_eq_false, and_true, true_and, false_or, or_false, false_and, and_false, not_false_eq_true] at * <;> omega), kp_of hn rfl rfl⟩
          · obtain rfl : c0 = 3 := q17e.trans (by decide +kernel)
            refine r_tabIn (off := 71) (tgt := 119) X dX11_cell_48 (by decide +kernel) (by decide +kernel) (by decide +kernel) rfl ?_
            refine r_iload X dX11_cell_119 rfl ?_
            refine r_if_eq_f (tgt := 128) X dX11_cell_121 rfl (by decide +kernel) ?_
            refine r_iconst (v := -1) X dX11_cell_124 (by decide +kernel) ?_
            refine r_goto (tgt := 137) X dX11_cell_125 rfl ?_
            exact r_ret_i X hr hlk dX11_cell_137 (Nat.le_of_ble_eq_true rfl) (Nat.le_of_ble_eq_true rfl) ⟨_, rfl, by unfold sp_cell; (repeat' split) <;> first | rfl | (exfalso; have e0 : (-1 : Int32).toInt = -1 := (by decide); have e1 : (-2 : Int32).toInt = -2 := (by decide); have e2 : (0 : Int32).toInt = 0 := (by decide); have e3 : (11 : Int32).toInt = 11 := (by decide); have e4 : (12 : Int32).toInt = 12 := (by decide); have e5 : (3 : Int32).toInt = 3 := (by decide); have e6 : (4 : Int32).toInt = 4 := (by decide); have en0 : (nI j_a).toInt = ((j_a : Nat) : Int) := toN rfl (by omega); have en1 : (nI j_b).toInt = ((j_b : Nat) : Int) := toN rfl (by omega); simp only [inR, Int32.lt_iff_toInt_lt, Int32.le_iff_toInt_le, ← Int32.toInt_inj, true_or, or_true, not_true_eq_false, and_true, true_and, false_or, or_false, false_and, and_false, not_false_eq_true] at * <;> omega), kp_of hn rfl rfl⟩
      · refine r_bipush (v := -2) X dX11_cell_22 (by decide +kernel) ?_
        exact r_ret_i X hr hlk dX11_cell_24 (Nat.le_of_ble_eq_true rfl) (Nat.le_of_ble_eq_true rfl) ⟨_, rfl, by unfold sp_cell; (repeat' split) <;> first | rfl | (exfalso; have e0 : (-1 : Int32).toInt = -1 := (by decide); have e1 : (-2 : Int32).toInt = -2 := (by decide); have e2 : (0 : Int32).toInt = 0 := (by decide); have e3 : (11 : Int32).toInt = 11 := (by decide); have e4 : (12 : Int32).toInt = 12 := (by decide); have e5 : (3 : Int32).toInt = 3 := (by decide); have e6 : (4 : Int32).toInt = 4 := (by decide); have en0 : (nI j_a).toInt = ((j_a : Nat) : Int) := toN rfl (by omega); have en1 : (nI j_b).toInt = ((j_b : Nat) : Int) := toN rfl (by omega); simp only [inR, Int32.lt_iff_toInt_lt, Int32.le_iff_toInt_le, ← Int32.toInt_inj, true_or, or_true, not_true_eq_false, and_true, true_and, false_or, or_false, false_and, and_false, not_false_eq_true] at * <;> omega), kp_of hn rfl rfl⟩
