set_option maxRecDepth 100000 in
set_option maxHeartbeats 4000000 in
theorem kx35_X0_alike (l : Launch) (G : PG) (h0 : PH) (n : Nat) (hn : h0.length = n) (T : PH) (z0 z1 : Int32) : PMet l G yX0_alike cX0_alike 5 (some .int) 0 0 0 [vR (n + 2), vI z0, vI z1] (h0 ++ (frC n ++ T)) (qI (fun x h' => x = 0 ∧ h' = h0 ++ (frC n ++ T))) := by
  refine PMet.intro (by decide) (Nat.le_of_ble_eq_true rfl) ?_
  intro p e s m args below meth c X hr hlk hnm
  refine r_iconst (v := 0) X dX0_alike_0 (by decide +kernel) ?_
  refine r_istore_n X dX0_alike_1 (by decide) ?_
  refine r_iconst (v := 0) X dX0_alike_2 (by decide +kernel) ?_
  refine r_istore X dX0_alike_3 (by decide) ?_
  refine r_iload X dX0_alike_5 rfl ?_
  refine r_aload_n X dX0_alike_7 rfl ?_
  refine a_get (a := 2) X hn fg_X0_18 dX0_alike_8 rfl rfl ?_
  refine r_icmp_ge_t (tgt := 43) X dX0_alike_11 rfl (by decide +kernel) ?_
  refine r_iload_n X dX0_alike_43 rfl ?_
  exact r_ret_i X hr hlk dX0_alike_44 (Nat.le_of_ble_eq_true rfl) (Nat.le_of_ble_eq_true rfl) ⟨_, rfl, ⟨rfl, rfl⟩⟩
set_option maxRecDepth 100000 in
set_option maxHeartbeats 4000000 in
theorem kx36_X0_nearest (l : Launch) (G : PG) (h0 : PH) (n : Nat) (hn : h0.length = n) (T : PH) (z0 : Int32) : PMet l G yX0_nearest cX0_nearest 6 (some .int) 0 0 0 [vR (n + 2), vI z0] (h0 ++ (frC n ++ T)) (qI (fun x h' => x = (-1) ∧ h' = h0 ++ (frC n ++ T))) := by
  refine PMet.intro (by decide) (Nat.le_of_ble_eq_true rfl) ?_
  intro p e s m args below meth c X hr hlk hnm
  refine r_iconst (v := -1) X dX0_nearest_0 (by decide +kernel) ?_
  refine r_istore_n X dX0_nearest_1 (by decide) ?_
  refine r_bipush (v := 9) X dX0_nearest_2 (by decide +kernel) ?_
  refine r_istore_n X dX0_nearest_4 (by decide) ?_
  refine r_iconst (v := 0) X dX0_nearest_5 (by decide +kernel) ?_
  refine r_istore X dX0_nearest_6 (by decide) ?_
  refine r_iload X dX0_nearest_8 rfl ?_
  refine r_aload_n X dX0_nearest_10 rfl ?_
  refine a_get (a := 2) X hn fg_X0_18 dX0_nearest_11 rfl rfl ?_
  refine r_icmp_ge_t (tgt := 49) X dX0_nearest_14 rfl (by decide +kernel) ?_
  refine r_iload_n X dX0_nearest_49 rfl ?_
  exact r_ret_i X hr hlk dX0_nearest_50 (Nat.le_of_ble_eq_true rfl) (Nat.le_of_ble_eq_true rfl) ⟨_, rfl, ⟨rfl, rfl⟩⟩
set_option maxRecDepth 100000 in
set_option maxHeartbeats 4000000 in
theorem x_whose (l : Launch) (G : PG) (h0 : PH) (n : Nat) (hn : h0.length = n) (T : PH) (a b : Int32) : PMet l G yX11_whose cX11_whose 3 (some .int) 1 0 0 [vR (n + 0), vI a, vI b] (h0 ++ (frC n ++ T)) (qI (fun x h' => x = sp_whose a b ∧ kp n 103 T h')) := by
  refine PMet.intro (by decide) (Nat.le_of_ble_eq_true rfl) ?_
  intro p e s m args below meth c X hr hlk hnm
  refine r_iload_n X dX11_whose_0 rfl ?_
  refine r_if_lt (tgt := 22) X dX11_whose_1 rfl (fun q1 => ?_) (fun q1 => ?_)
  · refine r_iconst (v := -1) X dX11_whose_22 (by decide +kernel) ?_
    exact r_ret_i X hr hlk dX11_whose_23 (Nat.le_of_ble_eq_true rfl) (Nat.le_of_ble_eq_true rfl) ⟨_, rfl, by unfold sp_whose; (repeat' split) <;> first | rfl | (exfalso; have e0 : (-1 : Int32).toInt = -1 := (by decide); have e1 : (0 : Int32).toInt = 0 := (by decide); have e2 : (255 : Int32).toInt = 255 := (by decide); have e3 : (8 : Int32).toInt = 8 := (by decide); simp only [inR, Int32.lt_iff_toInt_lt, Int32.le_iff_toInt_le, ← Int32.toInt_inj, true_or, or_true, not_true_eq_false, and_true, true_and, false_or, or_false, false_and, and_false, not_false_eq_true] at * <;> omega), kp_of hn rfl rfl⟩
  · refine r_iload_n X dX11_whose_4 rfl ?_
    refine r_sipush (v := 255) X dX11_whose_5 (by decide +kernel) ?_
    refine r_icmp_gt (tgt := 22) X dX11_whose_8 rfl (fun q2 => ?_) (fun q2 => ?_)
    · refine r_iconst (v := -1) X dX11_whose_22 (by decide +kernel) ?_
      exact r_ret_i X hr hlk dX11_whose_23 (Nat.le_of_ble_eq_true rfl) (Nat.le_of_ble_eq_true rfl) ⟨_, rfl, by unfold sp_whose; (repeat' split) <;> first | rfl | (exfalso; have e0 : (-1 : Int32).toInt = -1 := (by decide); have e1 : (0 : Int32).toInt = 0 := (by decide); have e2 : (255 : Int32).toInt = 255 := (by decide); have e3 : (8 : Int32).toInt = 8 := (by decide); simp only [inR, Int32.lt_iff_toInt_lt, Int32.le_iff_toInt_le, ← Int32.toInt_inj, true_or, or_true, not_true_eq_false, and_true, true_and, false_or, or_false, false_and, and_false, not_false_eq_true] at * <;> omega), kp_of hn rfl rfl⟩
    · refine r_iload_n X dX11_whose_11 rfl ?_
      refine r_iconst (v := -1) X dX11_whose_12 (by decide +kernel) ?_
      refine r_icmp_lt (tgt := 22) X dX11_whose_13 rfl (fun q3 => ?_) (fun q3 => ?_)
      · refine r_iconst (v := -1) X dX11_whose_22 (by decide +kernel) ?_
        exact r_ret_i X hr hlk dX11_whose_23 (Nat.le_of_ble_eq_true rfl) (Nat.le_of_ble_eq_true rfl) ⟨_, rfl, by unfold sp_whose; (repeat' split) <;> first | rfl | (exfalso; have e0 : (-1 : Int32).toInt = -1 := (by decide); have e1 : (0 : Int32).toInt = 0 := (by decide); have e2 : (255 : Int32).toInt = 255 := (by decide); have e3 : (8 : Int32).toInt = 8 := (by decide); simp only [inR, Int32.lt_iff_toInt_lt, Int32.le_iff_toInt_le, ← Int32.toInt_inj, true_or, or_true, not_true_eq_false, and_true, true_and, false_or, or_false, false_and, and_false, not_false_eq_true] at * <;> omega), kp_of hn rfl rfl⟩
      · refine r_iload_n X dX11_whose_16 rfl ?_
        refine r_bipush (v := 8) X dX11_whose_17 (by decide +kernel) ?_
        refine r_icmp_le (tgt := 24) X dX11_whose_19 rfl (fun q4 => ?_) (fun q4 => ?_)
        · refine r_iload_n X dX11_whose_24 rfl ?_
          refine r_iconst (v := -1) X dX11_whose_25 (by decide +kernel) ?_
          refine r_icmp_ne (tgt := 43) X dX11_whose_26 rfl (fun q5 => ?_) (fun q5 => ?_)
          · refine r_aload_n X dX11_whose_43 rfl ?_
            refine a_get (a := 0) X hn fg_X11_12 dX11_whose_44 rfl rfl ?_
            refine a_get (a := 1) X hn fg_X11_67 dX11_whose_47 rfl rfl ?_
            refine r_iload_n X dX11_whose_50 rfl ?_
            refine r_iload_n X dX11_whose_51 rfl ?_
            refine r_V2i X kv_X11_236 dX11_whose_52 (apG (k := 2) hn rfl) rfl (kx35_X0_alike l G _ _ hn _ _ _) rfl (fun x h' hΨ => ?_)
            obtain ⟨rfl, rfl⟩ := hΨ
            exact r_ret_i X hr hlk dX11_whose_55 (Nat.le_of_ble_eq_true rfl) (Nat.le_of_ble_eq_true rfl) ⟨_, rfl, by unfold sp_whose; (repeat' split) <;> first | rfl | (exfalso; have e0 : (-1 : Int32).toInt = -1 := (by decide); have e1 : (0 : Int32).toInt = 0 := (by decide); have e2 : (255 : Int32).toInt = 255 := (by decide); have e3 : (8 : Int32).toInt = 8 := (by decide); simp only [inR, Int32.lt_iff_toInt_lt, Int32.le_iff_toInt_le, ← Int32.toInt_inj, true_or, or_true, not_true_eq_false, and_true, true_and, false_or, or_false, false_and, and_false, not_false_eq_true] at * <;> omega), kp_of hn rfl rfl⟩
          · refine r_aload_n X dX11_whose_29 rfl ?_
            refine a_get (a := 0) X hn fg_X11_12 dX11_whose_30 rfl rfl ?_
            refine a_get (a := 1) X hn fg_X11_67 dX11_whose_33 rfl rfl ?_
            refine r_iload_n X dX11_whose_36 rfl ?_
            refine r_V1i X kv_X11_233 dX11_whose_37 (apG (k := 2) hn rfl) rfl (kx36_X0_nearest l G _ _ hn _ _) rfl (fun x h' hΨ => ?_)
            obtain ⟨rfl, rfl⟩ := hΨ
            refine r_goto (tgt := 55) X dX11_whose_40 rfl ?_
            exact r_ret_i X hr hlk dX11_whose_55 (Nat.le_of_ble_eq_true rfl) (Nat.le_of_ble_eq_true rfl) ⟨_, rfl, by unfold sp_whose; (repeat' split) <;> first | rfl | (exfalso; have e0 : (-1 : Int32).toInt = -1 := (by decide); have e1 : (0 : Int32).toInt = 0 := (by decide); have e2 : (255 : Int32).toInt = 255 := (by decide); have e3 : (8 : Int32).toInt = 8 := (by decide); simp only [inR, Int32.lt_iff_toInt_lt, Int32.le_iff_toInt_le, ← Int32.toInt_inj, true_or, or_true, not_true_eq_false, and_true, true_and, false_or, or_false, false_and, and_false, not_false_eq_true] at * <;> omega), kp_of hn rfl rfl⟩
        · refine r_iconst (v := -1) X dX11_whose_22 (by decide +kernel) ?_
          exact r_ret_i X hr hlk dX11_whose_23 (Nat.le_of_ble_eq_true rfl) (Nat.le_of_ble_eq_true rfl) ⟨_, rfl, by unfold sp_whose; (repeat' split) <;> first | rfl | (exfalso; have e0 : (-1 : Int32).toInt = -1 := (by decide); have e1 : (0 : Int32).toInt = 0 := (by decide); have e2 : (255 : Int32).toInt = 255 := (by decide); have e3 : (8 : Int32).toInt = 8 := (by decide); simp only [inR, Int32.lt_iff_toInt_lt, Int32.le_iff_toInt_le, ← Int32.toInt_inj, true_or, or_true, not_true_eq_false, and_true, true_and, false_or, or_false, false_and, and_false, not_false_eq_true] at * <;> omega), kp_of hn rfl rfl⟩
