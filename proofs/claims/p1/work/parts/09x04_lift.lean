set_option maxRecDepth 100000 in
set_option maxHeartbeats 4000000 in
theorem kx22_X11_cellAt (l : Launch) (G : PG) (h0 : PH) (n : Nat) (hn : h0.length = n) (T : PH) (z0 z1 : Int32) : PMet l G yX11_cellAt cX11_cellAt 3 (some .int) 0 0 0 [vI z0, vI z1] (h0 ++ (frC n ++ T)) (qI (fun x h' => ((z0 < 0) ∧ x = (-1) ∧ h' = h0 ++ (frC n ++ T)) ∨ ((¬ z0 < 0) ∧ (12 ≤ z0) ∧ x = (-1) ∧ h' = h0 ++ (frC n ++ T)) ∨ ((¬ z0 < 0) ∧ (¬ 12 ≤ z0) ∧ (z1 < 0) ∧ x = (-1) ∧ h' = h0 ++ (frC n ++ T)) ∨ ((¬ z0 < 0) ∧ (¬ 12 ≤ z0) ∧ (¬ z1 < 0) ∧ (12 ≤ z1) ∧ x = (-1) ∧ h' = h0 ++ (frC n ++ T)) ∨ ((¬ z0 < 0) ∧ (¬ 12 ≤ z0) ∧ (¬ z1 < 0) ∧ (¬ 12 ≤ z1) ∧ x = (z0 * 12) + z1 ∧ h' = h0 ++ (frC n ++ T)))) := by
  refine PMet.intro (by decide) (Nat.le_of_ble_eq_true rfl) ?_
  intro p e s m args below meth c X hr hlk hnm
  refine r_iload_n X dX11_cellAt_0 rfl ?_
  refine r_if_lt (tgt := 24) X dX11_cellAt_1 rfl (fun q1 => ?_) (fun q1 => ?_)
  · refine r_iconst (v := 0) X dX11_cellAt_24 (by decide +kernel) ?_
    refine r_istore_n X dX11_cellAt_25 (by decide) ?_
    refine r_iload_n X dX11_cellAt_26 rfl ?_
    refine r_if_eq_t (tgt := 39) X dX11_cellAt_27 rfl (by decide +kernel) ?_
    refine r_iconst (v := -1) X dX11_cellAt_39 (by decide +kernel) ?_
    exact r_ret_i X hr hlk dX11_cellAt_40 (Nat.le_of_ble_eq_true rfl) (Nat.le_of_ble_eq_true rfl) ⟨_, rfl, Or.inl ⟨q1, rfl, rfl⟩⟩
  · refine r_iload_n X dX11_cellAt_4 rfl ?_
    refine r_bipush (v := 12) X dX11_cellAt_5 (by decide +kernel) ?_
    refine r_icmp_ge (tgt := 24) X dX11_cellAt_7 rfl (fun q2 => ?_) (fun q2 => ?_)
    · refine r_iconst (v := 0) X dX11_cellAt_24 (by decide +kernel) ?_
      refine r_istore_n X dX11_cellAt_25 (by decide) ?_
      refine r_iload_n X dX11_cellAt_26 rfl ?_
      refine r_if_eq_t (tgt := 39) X dX11_cellAt_27 rfl (by decide +kernel) ?_
      refine r_iconst (v := -1) X dX11_cellAt_39 (by decide +kernel) ?_
      exact r_ret_i X hr hlk dX11_cellAt_40 (Nat.le_of_ble_eq_true rfl) (Nat.le_of_ble_eq_true rfl) ⟨_, rfl, Or.inr (Or.inl ⟨q1, q2, rfl, rfl⟩)⟩
    · refine r_iload_n X dX11_cellAt_10 rfl ?_
      refine r_if_lt (tgt := 24) X dX11_cellAt_11 rfl (fun q3 => ?_) (fun q3 => ?_)
      · refine r_iconst (v := 0) X dX11_cellAt_24 (by decide +kernel) ?_
        refine r_istore_n X dX11_cellAt_25 (by decide) ?_
        refine r_iload_n X dX11_cellAt_26 rfl ?_
        refine r_if_eq_t (tgt := 39) X dX11_cellAt_27 rfl (by decide +kernel) ?_
        refine r_iconst (v := -1) X dX11_cellAt_39 (by decide +kernel) ?_
        exact r_ret_i X hr hlk dX11_cellAt_40 (Nat.le_of_ble_eq_true rfl) (Nat.le_of_ble_eq_true rfl) ⟨_, rfl, Or.inr (Or.inr (Or.inl ⟨q1, q2, q3, rfl, rfl⟩))⟩
      · refine r_iload_n X dX11_cellAt_14 rfl ?_
        refine r_bipush (v := 12) X dX11_cellAt_15 (by decide +kernel) ?_
        refine r_icmp_ge (tgt := 24) X dX11_cellAt_17 rfl (fun q4 => ?_) (fun q4 => ?_)
        · refine r_iconst (v := 0) X dX11_cellAt_24 (by decide +kernel) ?_
          refine r_istore_n X dX11_cellAt_25 (by decide) ?_
          refine r_iload_n X dX11_cellAt_26 rfl ?_
          refine r_if_eq_t (tgt := 39) X dX11_cellAt_27 rfl (by decide +kernel) ?_
          refine r_iconst (v := -1) X dX11_cellAt_39 (by decide +kernel) ?_
          exact r_ret_i X hr hlk dX11_cellAt_40 (Nat.le_of_ble_eq_true rfl) (Nat.le_of_ble_eq_true rfl) ⟨_, rfl, Or.inr (Or.inr (Or.inr (Or.inl ⟨q1, q2, q3, q4, rfl, rfl⟩)))⟩
        · refine r_iconst (v := 1) X dX11_cellAt_20 (by decide +kernel) ?_
          refine r_goto (tgt := 25) X dX11_cellAt_21 rfl ?_
          refine r_istore_n X dX11_cellAt_25 (by decide) ?_
          refine r_iload_n X dX11_cellAt_26 rfl ?_
          refine r_if_eq_f (tgt := 39) X dX11_cellAt_27 rfl (by decide +kernel) ?_
          refine r_iload_n X dX11_cellAt_30 rfl ?_
          refine r_bipush (v := 12) X dX11_cellAt_31 (by decide +kernel) ?_
          refine r_imul X dX11_cellAt_33 ?_
          refine r_iload_n X dX11_cellAt_34 rfl ?_
          refine r_iadd X dX11_cellAt_35 ?_
          refine r_goto (tgt := 40) X dX11_cellAt_36 rfl ?_
          exact r_ret_i X hr hlk dX11_cellAt_40 (Nat.le_of_ble_eq_true rfl) (Nat.le_of_ble_eq_true rfl) ⟨_, rfl, Or.inr (Or.inr (Or.inr (Or.inr (⟨q1, q2, q3, q4, rfl, rfl⟩))))⟩
set_option maxRecDepth 100000 in
set_option maxHeartbeats 4000000 in
theorem kx23_X0_marked (l : Launch) (G : PG) (h0 : PH) (n : Nat) (hn : h0.length = n) (T : PH) : PMet l G yX0_marked cX0_marked 2 (some .boolean) 0 0 0 [vR (n + 2), vI ((-1))] (h0 ++ (frC n ++ T)) (qI (fun x h' => x = 0 ∧ h' = h0 ++ (frC n ++ T))) := by
  refine PMet.intro (by decide) (Nat.le_of_ble_eq_true rfl) ?_
  intro p e s m args below meth c X hr hlk hnm
  refine r_iload_n X dX0_marked_0 rfl ?_
  refine r_if_lt_t (tgt := 24) X dX0_marked_1 rfl (by decide +kernel) ?_
  refine r_iconst (v := 0) X dX0_marked_24 (by decide +kernel) ?_
  exact r_ret_z X hr hlk (Or.inl rfl) dX0_marked_25 (Nat.le_of_ble_eq_true rfl) (Nat.le_of_ble_eq_true rfl) ⟨_, rfl, ⟨rfl, rfl⟩⟩
set_option maxRecDepth 100000 in
set_option maxHeartbeats 4000000 in
theorem kx24_X0_marked (l : Launch) (G : PG) (h0 : PH) (n : Nat) (hn : h0.length = n) (T : PH) (z0 : Nat) (hz0 : z0 ≤ 143) : PMet l G yX0_marked cX0_marked 2 (some .boolean) 0 0 0 [vR (n + 2), vI (nI z0)] (h0 ++ (frC n ++ T)) (qI (fun x h' => x = 0 ∧ h' = h0 ++ (frC n ++ T))) := by
  refine PMet.intro (by decide) (Nat.le_of_ble_eq_true rfl) ?_
  intro p e s m args below meth c X hr hlk hnm
  refine r_iload_n X dX0_marked_0 rfl ?_
  refine r_if_lt_f (tgt := 24) X dX0_marked_1 rfl (by have e0 : (0 : Int32).toInt = 0 := (by decide); have e1 : (nI z0).toInt = ((z0 : Nat) : Int) := toN (rfl) (by omega); simp only [Int32.lt_iff_toInt_lt, Int32.le_iff_toInt_le, ← Int32.toInt_inj] at  ⊢; omega) ?_
  refine r_iload_n X dX0_marked_4 rfl ?_
  refine r_sipush (v := 144) X dX0_marked_5 (by decide +kernel) ?_
  refine r_icmp_ge_f (tgt := 24) X dX0_marked_8 rfl (by have e0 : (144 : Int32).toInt = 144 := (by decide); have e1 : (nI z0).toInt = ((z0 : Nat) : Int) := toN (rfl) (by omega); simp only [Int32.lt_iff_toInt_lt, Int32.le_iff_toInt_le, ← Int32.toInt_inj] at  ⊢; omega) ?_
  refine r_aload_n X dX0_marked_11 rfl ?_
  refine a_get (a := 2) X hn fg_X0_15 dX0_marked_12 rfl rfl ?_
  refine r_iload_n X dX0_marked_15 rfl ?_
  refine a_iald (a := 4) (v := 0) X hn dX0_marked_16 rfl (vin (k := z0) (rfl) (by omega) (by decide)) rfl ?_
  refine r_if_eq_t (tgt := 24) X dX0_marked_17 rfl (by decide +kernel) ?_
  refine r_iconst (v := 0) X dX0_marked_24 (by decide +kernel) ?_
  exact r_ret_z X hr hlk (Or.inl rfl) dX0_marked_25 (Nat.le_of_ble_eq_true rfl) (Nat.le_of_ble_eq_true rfl) ⟨_, rfl, ⟨rfl, rfl⟩⟩
set_option maxRecDepth 100000 in
set_option maxHeartbeats 4000000 in
theorem x_lift (l : Launch) (G : PG) (h0 : PH) (n : Nat) (hn : h0.length = n) (T : PH) (a b : Int32) : PMet l G yX11_lift cX11_lift 4 (some .boolean) 1 0 0 [vR (n + 0), vI a, vI b] (h0 ++ (frC n ++ T)) (qI (fun x h' => x = sp_lift a b ∧ kp n 103 T h')) := by
  refine PMet.intro (by decide) (Nat.le_of_ble_eq_true rfl) ?_
  intro p e s m args below meth c X hr hlk hnm
  refine r_iload_n X dX11_lift_0 rfl ?_
  refine r_iload_n X dX11_lift_1 rfl ?_
  refine r_S2i X ks_X11_124 dX11_lift_2 (kx22_X11_cellAt l G _ _ hn _ _ _) rfl (fun x h' hΨ => ?_)
  rcases hΨ with ⟨q1, rfl, rfl⟩ | ⟨q2, q3, rfl, rfl⟩ | ⟨q4, q5, q6, rfl, rfl⟩ | ⟨q7, q8, q9, q10, rfl, rfl⟩ | ⟨q11, q12, q13, q14, rfl, rfl⟩
  · refine r_istore_n X dX11_lift_5 (by decide) ?_
    refine r_aload_n X dX11_lift_6 rfl ?_
    refine a_get (a := 0) X hn fg_X11_12 dX11_lift_7 rfl rfl ?_
    refine a_get (a := 1) X hn fg_X11_67 dX11_lift_10 rfl rfl ?_
    refine r_iload_n X dX11_lift_13 rfl ?_
    refine r_V1i X kv_X11_127 dX11_lift_14 (apG (k := 2) hn rfl) rfl (kx23_X0_marked l G _ _ hn _) rfl (fun x h' hΨ => ?_)
    obtain ⟨rfl, rfl⟩ := hΨ
    refine r_if_ne_f (tgt := 22) X dX11_lift_17 rfl (by decide +kernel) ?_
    refine r_iconst (v := 0) X dX11_lift_20 (by decide +kernel) ?_
    exact r_ret_z X hr hlk (Or.inl rfl) dX11_lift_21 (Nat.le_of_ble_eq_true rfl) (Nat.le_of_ble_eq_true rfl) ⟨_, rfl, rfl, kp_of hn rfl rfl⟩
  · refine r_istore_n X dX11_lift_5 (by decide) ?_
    refine r_aload_n X dX11_lift_6 rfl ?_
    refine a_get (a := 0) X hn fg_X11_12 dX11_lift_7 rfl rfl ?_
    refine a_get (a := 1) X hn fg_X11_67 dX11_lift_10 rfl rfl ?_
    refine r_iload_n X dX11_lift_13 rfl ?_
    refine r_V1i X kv_X11_127 dX11_lift_14 (apG (k := 2) hn rfl) rfl (kx23_X0_marked l G _ _ hn _) rfl (fun x h' hΨ => ?_)
    obtain ⟨rfl, rfl⟩ := hΨ
    refine r_if_ne_f (tgt := 22) X dX11_lift_17 rfl (by decide +kernel) ?_
    refine r_iconst (v := 0) X dX11_lift_20 (by decide +kernel) ?_
    exact r_ret_z X hr hlk (Or.inl rfl) dX11_lift_21 (Nat.le_of_ble_eq_true rfl) (Nat.le_of_ble_eq_true rfl) ⟨_, rfl, rfl, kp_of hn rfl rfl⟩
  · refine r_istore_n X dX11_lift_5 (by decide) ?_
    refine r_aload_n X dX11_lift_6 rfl ?_
    refine a_get (a := 0) X hn fg_X11_12 dX11_lift_7 rfl rfl ?_
    refine a_get (a := 1) X hn fg_X11_67 dX11_lift_10 rfl rfl ?_
    refine r_iload_n X dX11_lift_13 rfl ?_
    refine r_V1i X kv_X11_127 dX11_lift_14 (apG (k := 2) hn rfl) rfl (kx23_X0_marked l G _ _ hn _) rfl (fun x h' hΨ => ?_)
    obtain ⟨rfl, rfl⟩ := hΨ
    refine r_if_ne_f (tgt := 22) X dX11_lift_17 rfl (by decide +kernel) ?_
    refine r_iconst (v := 0) X dX11_lift_20 (by decide +kernel) ?_
    exact r_ret_z X hr hlk (Or.inl rfl) dX11_lift_21 (Nat.le_of_ble_eq_true rfl) (Nat.le_of_ble_eq_true rfl) ⟨_, rfl, rfl, kp_of hn rfl rfl⟩
  · refine r_istore_n X dX11_lift_5 (by decide) ?_
    refine r_aload_n X dX11_lift_6 rfl ?_
    refine a_get (a := 0) X hn fg_X11_12 dX11_lift_7 rfl rfl ?_
    refine a_get (a := 1) X hn fg_X11_67 dX11_lift_10 rfl rfl ?_
    refine r_iload_n X dX11_lift_13 rfl ?_
    refine r_V1i X kv_X11_127 dX11_lift_14 (apG (k := 2) hn rfl) rfl (kx23_X0_marked l G _ _ hn _) rfl (fun x h' hΨ => ?_)
    obtain ⟨rfl, rfl⟩ := hΨ
    refine r_if_ne_f (tgt := 22) X dX11_lift_17 rfl (by decide +kernel) ?_
    refine r_iconst (v := 0) X dX11_lift_20 (by decide +kernel) ?_
    exact r_ret_z X hr hlk (Or.inl rfl) dX11_lift_21 (Nat.le_of_ble_eq_true rfl) (Nat.le_of_ble_eq_true rfl) ⟨_, rfl, rfl, kp_of hn rfl rfl⟩
  · refine r_istore_n X dX11_lift_5 (by decide) ?_
    refine r_aload_n X dX11_lift_6 rfl ?_
    refine a_get (a := 0) X hn fg_X11_12 dX11_lift_7 rfl rfl ?_
    refine a_get (a := 1) X hn fg_X11_67 dX11_lift_10 rfl rfl ?_
    refine r_iload_n X dX11_lift_13 rfl ?_
    obtain ⟨j_a, hj_a, rfl⟩ : ∃ j : Nat, j ≤ 11 ∧ a = nI j := nI_of2 (M := 11) (by decide) (by have e1 : (0 : Int32).toInt = 0 := (by decide); have e2 : (12 : Int32).toInt = 12 := (by decide); simp only [Int32.lt_iff_toInt_lt, Int32.le_iff_toInt_le, ← Int32.toInt_inj] at q11 q12 ⊢; omega) (by have e1 : (0 : Int32).toInt = 0 := (by decide); have e2 : (11 : Int32).toInt = 11 := (by decide); have e3 : (12 : Int32).toInt = 12 := (by decide); simp only [Int32.lt_iff_toInt_lt, Int32.le_iff_toInt_le, ← Int32.toInt_inj] at q11 q12 ⊢; omega)
    obtain ⟨j_b, hj_b, rfl⟩ : ∃ j : Nat, j ≤ 11 ∧ b = nI j := nI_of2 (M := 11) (by decide) (by have e1 : (0 : Int32).toInt = 0 := (by decide); have e2 : (12 : Int32).toInt = 12 := (by decide); simp only [Int32.lt_iff_toInt_lt, Int32.le_iff_toInt_le, ← Int32.toInt_inj] at q13 q14 ⊢; omega) (by have e1 : (0 : Int32).toInt = 0 := (by decide); have e2 : (11 : Int32).toInt = 11 := (by decide); have e3 : (12 : Int32).toInt = 12 := (by decide); simp only [Int32.lt_iff_toInt_lt, Int32.le_iff_toInt_le, ← Int32.toInt_inj] at q13 q14 ⊢; omega)
    refine r_eq (st' := [vI (nI ((j_a * 12) + j_b)), vR (n + 2)]) rfl rfl (by rw [show ((((nI j_a)) * 12) + ((nI j_b)) : Int32) = nI ((j_a * 12) + j_b) from nadd (nmul (rfl) ((rfl : (12 : Int32) = nI 12))) (rfl)]) ?_
    refine r_V1i X kv_X11_127 dX11_lift_14 (apG (k := 2) hn rfl) rfl (kx24_X0_marked l G _ _ hn _ _ (by omega)) rfl (fun x h' hΨ => ?_)
    obtain ⟨rfl, rfl⟩ := hΨ
    refine r_if_ne_f (tgt := 22) X dX11_lift_17 rfl (by decide +kernel) ?_
    refine r_iconst (v := 0) X dX11_lift_20 (by decide +kernel) ?_
    exact r_ret_z X hr hlk (Or.inl rfl) dX11_lift_21 (Nat.le_of_ble_eq_true rfl) (Nat.le_of_ble_eq_true rfl) ⟨_, rfl, rfl, kp_of hn rfl rfl⟩
