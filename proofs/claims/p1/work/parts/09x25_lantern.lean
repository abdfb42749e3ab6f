set_option maxRecDepth 100000 in
set_option maxHeartbeats 4000000 in
theorem kx80_X4_shown (l : Launch) (G : PG) (h0 : PH) (n : Nat) (hn : h0.length = n) (T : PH) (z0 : Int32) : PMet l G yX4_shown cX4_shown 9 (some .int) 0 0 0 [vR (n + 89), vR (n + 24), vI z0, vI 0] (h0 ++ (frC n ++ T)) (qI (fun x h' => x = (-1) ∧ h' = h0 ++ (frC n ++ T))) := by
  refine PMet.intro (by decide) (Nat.le_of_ble_eq_true rfl) ?_
  intro p e s m args below meth c X hr hlk hnm
  refine r_iconst (v := -1) X dX4_shown_0 (by decide +kernel) ?_
  refine r_istore X dX4_shown_1 (by decide) ?_
  refine r_iconst (v := 0) X dX4_shown_3 (by decide +kernel) ?_
  refine r_istore X dX4_shown_4 (by decide) ?_
  refine r_iconst (v := -1) X dX4_shown_6 (by decide +kernel) ?_
  refine r_istore X dX4_shown_7 (by decide) ?_
  refine r_iconst (v := 0) X dX4_shown_9 (by decide +kernel) ?_
  refine r_istore X dX4_shown_10 (by decide) ?_
  refine r_iload X dX4_shown_12 rfl ?_
  refine r_aload_n X dX4_shown_14 rfl ?_
  refine a_get (a := 24) X hn fg_X4_24 dX4_shown_15 rfl rfl ?_
  refine r_icmp_ge_t (tgt := 59) X dX4_shown_18 rfl (by decide +kernel) ?_
  refine r_iload_n X dX4_shown_59 rfl ?_
  refine r_if_eq_t (tgt := 68) X dX4_shown_60 rfl (by decide +kernel) ?_
  refine r_iload X dX4_shown_68 rfl ?_
  exact r_ret_i X hr hlk dX4_shown_70 (Nat.le_of_ble_eq_true rfl) (Nat.le_of_ble_eq_true rfl) ⟨_, rfl, ⟨rfl, rfl⟩⟩
set_option maxRecDepth 100000 in
set_option maxHeartbeats 4000000 in
theorem kx81_X4_shown (l : Launch) (G : PG) (h0 : PH) (n : Nat) (hn : h0.length = n) (T : PH) (z0 : Int32) : PMet l G yX4_shown cX4_shown 9 (some .int) 0 0 0 [vR (n + 89), vR (n + 24), vI z0, vI 1] (h0 ++ (frC n ++ T)) (qI (fun x h' => x = 0 ∧ h' = h0 ++ (frC n ++ T))) := by
  refine PMet.intro (by decide) (Nat.le_of_ble_eq_true rfl) ?_
  intro p e s m args below meth c X hr hlk hnm
  refine r_iconst (v := -1) X dX4_shown_0 (by decide +kernel) ?_
  refine r_istore X dX4_shown_1 (by decide) ?_
  refine r_iconst (v := 0) X dX4_shown_3 (by decide +kernel) ?_
  refine r_istore X dX4_shown_4 (by decide) ?_
  refine r_iconst (v := -1) X dX4_shown_6 (by decide +kernel) ?_
  refine r_istore X dX4_shown_7 (by decide) ?_
  refine r_iconst (v := 0) X dX4_shown_9 (by decide +kernel) ?_
  refine r_istore X dX4_shown_10 (by decide) ?_
  refine r_iload X dX4_shown_12 rfl ?_
  refine r_aload_n X dX4_shown_14 rfl ?_
  refine a_get (a := 24) X hn fg_X4_24 dX4_shown_15 rfl rfl ?_
  refine r_icmp_ge_t (tgt := 59) X dX4_shown_18 rfl (by decide +kernel) ?_
  refine r_iload_n X dX4_shown_59 rfl ?_
  refine r_if_eq_f (tgt := 68) X dX4_shown_60 rfl (by decide +kernel) ?_
  refine r_iload X dX4_shown_63 rfl ?_
  refine r_goto (tgt := 70) X dX4_shown_65 rfl ?_
  exact r_ret_i X hr hlk dX4_shown_70 (Nat.le_of_ble_eq_true rfl) (Nat.le_of_ble_eq_true rfl) ⟨_, rfl, ⟨rfl, rfl⟩⟩
set_option maxRecDepth 100000 in
set_option maxHeartbeats 4000000 in
theorem x_lantern (l : Launch) (G : PG) (h0 : PH) (n : Nat) (hn : h0.length = n) (T : PH) (a b : Int32) : PMet l G yX11_lantern cX11_lantern 3 (some .int) 1 0 0 [vR (n + 0), vI a, vI b] (h0 ++ (frC n ++ T)) (qI (fun x h' => x = sp_lantern a b ∧ kp n 103 T h')) := by
  refine PMet.intro (by decide) (Nat.le_of_ble_eq_true rfl) ?_
  intro p e s m args below meth c X hr hlk hnm
  refine r_iload_n X dX11_lantern_0 rfl ?_
  refine r_if_lt (tgt := 19) X dX11_lantern_1 rfl (fun q1 => ?_) (fun q1 => ?_)
  · refine r_iconst (v := -1) X dX11_lantern_19 (by decide +kernel) ?_
    exact r_ret_i X hr hlk dX11_lantern_20 (Nat.le_of_ble_eq_true rfl) (Nat.le_of_ble_eq_true rfl) ⟨_, rfl, by unfold sp_lantern; (repeat' split) <;> first | rfl | (exfalso; have e0 : (-1 : Int32).toInt = -1 := (by decide); have e1 : (0 : Int32).toInt = 0 := (by decide); have e2 : (40 : Int32).toInt = 40 := (by decide); simp only [inR, Int32.lt_iff_toInt_lt, Int32.le_iff_toInt_le, ← Int32.toInt_inj, true_or, or_true, not_true_eq_false, and_true, true_and, false_or, or_false, false_and, and_false, not_false_eq_true] at * <;> omega), kp_of hn rfl rfl⟩
  · refine r_iload_n X dX11_lantern_4 rfl ?_
    refine r_bipush (v := 40) X dX11_lantern_5 (by decide +kernel) ?_
    refine r_icmp_gt (tgt := 19) X dX11_lantern_7 rfl (fun q2 => ?_) (fun q2 => ?_)
    · refine r_iconst (v := -1) X dX11_lantern_19 (by decide +kernel) ?_
      exact r_ret_i X hr hlk dX11_lantern_20 (Nat.le_of_ble_eq_true rfl) (Nat.le_of_ble_eq_true rfl) ⟨_, rfl, by unfold sp_lantern; (repeat' split) <;> first | rfl | (exfalso; have e0 : (-1 : Int32).toInt = -1 := (by decide); have e1 : (0 : Int32).toInt = 0 := (by decide); have e2 : (40 : Int32).toInt = 40 := (by decide); simp only [inR, Int32.lt_iff_toInt_lt, Int32.le_iff_toInt_le, ← Int32.toInt_inj, true_or, or_true, not_true_eq_false, and_true, true_and, false_or, or_false, false_and, and_false, not_false_eq_true] at * <;> omega), kp_of hn rfl rfl⟩
    · refine r_iload_n X dX11_lantern_10 rfl ?_
      refine r_if_lt (tgt := 19) X dX11_lantern_11 rfl (fun q3 => ?_) (fun q3 => ?_)
      · refine r_iconst (v := -1) X dX11_lantern_19 (by decide +kernel) ?_
        exact r_ret_i X hr hlk dX11_lantern_20 (Nat.le_of_ble_eq_true rfl) (Nat.le_of_ble_eq_true rfl) ⟨_, rfl, by unfold sp_lantern; (repeat' split) <;> first | rfl | (exfalso; have e0 : (-1 : Int32).toInt = -1 := (by decide); have e1 : (0 : Int32).toInt = 0 := (by decide); have e2 : (40 : Int32).toInt = 40 := (by decide); simp only [inR, Int32.lt_iff_toInt_lt, Int32.le_iff_toInt_le, ← Int32.toInt_inj, true_or, or_true, not_true_eq_false, and_true, true_and, false_or, or_false, false_and, and_false, not_false_eq_true] at * <;> omega), kp_of hn rfl rfl⟩
      · refine r_iload_n X dX11_lantern_14 rfl ?_
        refine r_iconst (v := 1) X dX11_lantern_15 (by decide +kernel) ?_
        refine r_icmp_le (tgt := 21) X dX11_lantern_16 rfl (fun q4 => ?_) (fun q4 => ?_)
        · refine r_aload_n X dX11_lantern_21 rfl ?_
          refine a_get (a := 0) X hn fg_X11_54 dX11_lantern_22 rfl rfl ?_
          refine r_aload_n X dX11_lantern_25 rfl ?_
          refine a_get (a := 0) X hn fg_X11_12 dX11_lantern_26 rfl rfl ?_
          refine a_get (a := 1) X hn fg_X11_246 dX11_lantern_29 rfl rfl ?_
          refine r_bipush (v := 6) X dX11_lantern_32 (by decide +kernel) ?_
          refine a_aald (a := 8) (v := vR (n + 24)) (C := RX9) X hn rfl dX11_lantern_34 rfl (inK (by decide +kernel)) rfl ?_
          refine r_iload_n X dX11_lantern_35 rfl ?_
          refine r_iload_n X dX11_lantern_36 rfl ?_
          refine r_if_ne (tgt := 44) X dX11_lantern_37 rfl (fun q5 => ?_) (fun q5 => ?_)
          · refine r_iconst (v := 0) X dX11_lantern_44 (by decide +kernel) ?_
            refine r_V3i X kv_X11_282 dX11_lantern_45 (apG (k := 89) hn rfl) rfl (kx80_X4_shown l G _ _ hn _ _) rfl (fun x h' hΨ => ?_)
            obtain ⟨rfl, rfl⟩ := hΨ
            exact r_ret_i X hr hlk dX11_lantern_48 (Nat.le_of_ble_eq_true rfl) (Nat.le_of_ble_eq_true rfl) ⟨_, rfl, by unfold sp_lantern; (repeat' split) <;> first | rfl | (exfalso; have e0 : (-1 : Int32).toInt = -1 := (by decide); have e1 : (0 : Int32).toInt = 0 := (by decide); have e2 : (1 : Int32).toInt = 1 := (by decide); have e3 : (40 : Int32).toInt = 40 := (by decide); simp only [inR, Int32.lt_iff_toInt_lt, Int32.le_iff_toInt_le, ← Int32.toInt_inj, true_or, or_true, not_true_eq_false, and_true, true_and, false_or, or_false, false_and, and_false, not_false_eq_true] at * <;> omega), kp_of hn rfl rfl⟩
          · refine r_iconst (v := 1) X dX11_lantern_40 (by decide +kernel) ?_
            refine r_goto (tgt := 45) X dX11_lantern_41 rfl ?_
            refine r_V3i X kv_X11_282 dX11_lantern_45 (apG (k := 89) hn rfl) rfl (kx81_X4_shown l G _ _ hn _ _) rfl (fun x h' hΨ => ?_)
            obtain ⟨rfl, rfl⟩ := hΨ
            exact r_ret_i X hr hlk dX11_lantern_48 (Nat.le_of_ble_eq_true rfl) (Nat.le_of_ble_eq_true rfl) ⟨_, rfl, by unfold sp_lantern; (repeat' split) <;> first | rfl | (exfalso; have e0 : (-1 : Int32).toInt = -1 := (by decide); have e1 : (0 : Int32).toInt = 0 := (by decide); have e2 : (1 : Int32).toInt = 1 := (by decide); have e3 : (40 : Int32).toInt = 40 := (by decide); simp only [inR, Int32.lt_iff_toInt_lt, Int32.le_iff_toInt_le, ← Int32.toInt_inj, true_or, or_true, not_true_eq_false, and_true, true_and, false_or, or_false, false_and, and_false, not_false_eq_true] at * <;> omega), kp_of hn rfl rfl⟩
        · refine r_iconst (v := -1) X dX11_lantern_19 (by decide +kernel) ?_
          exact r_ret_i X hr hlk dX11_lantern_20 (Nat.le_of_ble_eq_true rfl) (Nat.le_of_ble_eq_true rfl) ⟨_, rfl, by unfold sp_lantern; (repeat' split) <;> first | rfl | (exfalso; have e0 : (-1 : Int32).toInt = -1 := (by decide); have e1 : (0 : Int32).toInt = 0 := (by decide); have e2 : (1 : Int32).toInt = 1 := (by decide); have e3 : (40 : Int32).toInt = 40 := (by decide); simp only [inR, Int32.lt_iff_toInt_lt, Int32.le_iff_toInt_le, ← Int32.toInt_inj, true_or, or_true, not_true_eq_false, and_true, true_and, false_or, or_false, false_and, and_false, not_false_eq_true] at * <;> omega), kp_of hn rfl rfl⟩
