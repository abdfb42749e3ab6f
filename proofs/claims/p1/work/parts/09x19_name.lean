set_option maxRecDepth 100000 in
set_option maxHeartbeats 4000000 in
theorem kx49_X10_tell (l : Launch) (G : PG) (h0 : PH) (n : Nat) (hn : h0.length = n) (T : PH) (z0 : Int32) : PMet l G yX10_tell cX10_tell 5 (some .int) 0 0 0 [vR (n + 1), vI 3, vI 0, vI 0, vI z0] (h0 ++ (frC n ++ T)) (qI (fun x h' => x = (-1) ∧ h' = h0 ++ (frC n ++ T))) := by
  refine PMet.intro (by decide) (Nat.le_of_ble_eq_true rfl) ?_
  intro p e s m args below meth c X hr hlk hnm
  refine r_iload_n X dX10_tell_0 rfl ?_
  refine r_if_lt_f (tgt := 10) X dX10_tell_1 rfl (by decide +kernel) ?_
  refine r_iload_n X dX10_tell_4 rfl ?_
  refine r_bipush (v := 9) X dX10_tell_5 (by decide +kernel) ?_
  refine r_icmp_lt_t (tgt := 12) X dX10_tell_7 rfl (by decide +kernel) ?_
  refine r_iload_n X dX10_tell_12 rfl ?_
  refine r_if_eq_t (tgt := 28) X dX10_tell_13 rfl (by decide +kernel) ?_
  refine r_iload_n X dX10_tell_28 rfl ?_
  refine r_if_eq_t (tgt := 46) X dX10_tell_29 rfl (by decide +kernel) ?_
  refine r_iconst (v := -1) X dX10_tell_46 (by decide +kernel) ?_
  exact r_ret_i X hr hlk dX10_tell_47 (Nat.le_of_ble_eq_true rfl) (Nat.le_of_ble_eq_true rfl) ⟨_, rfl, ⟨rfl, rfl⟩⟩
set_option maxRecDepth 100000 in
set_option maxHeartbeats 4000000 in
theorem kx50_X9_add (l : Launch) (G : PG) (h0 : PH) (n : Nat) (hn : h0.length = n) (T : PH) (z0 : Int32) : PMet l G yX9_add cX9_add 2 (some .int) 0 0 0 [vR (n + 18), vI z0] (h0 ++ (frC n ++ T)) (qI (fun x h' => x = 1 ∧ h' = h0 ++ (((frC n ++ T).set 18 (eO 9 [vR (n + 19), vI 1])).set 19 (eI 15 (upd (fun _ => 0) (0 : Int32).toNatClampNeg (z0)))))) := by
  refine PMet.intro (by decide) (Nat.le_of_ble_eq_true rfl) ?_
  intro p e s m args below meth c X hr hlk hnm
  refine r_aload_n X dX9_add_0 rfl ?_
  refine a_get (a := 18) X hn fg_X9_9 dX9_add_1 rfl rfl ?_
  refine r_if_lt_f (tgt := 19) X dX9_add_4 rfl (by decide +kernel) ?_
  refine r_aload_n X dX9_add_7 rfl ?_
  refine a_get (a := 18) X hn fg_X9_9 dX9_add_8 rfl rfl ?_
  refine r_aload_n X dX9_add_11 rfl ?_
  refine a_get (a := 18) X hn fg_X9_21 dX9_add_12 rfl rfl ?_
  refine a_alen (a := 19) (v := 15) X hn dX9_add_15 rfl (by decide +kernel) ?_
  refine r_icmp_lt_t (tgt := 21) X dX9_add_16 rfl (by decide +kernel) ?_
  refine r_aload_n X dX9_add_21 rfl ?_
  refine a_get (a := 18) X hn fg_X9_21 dX9_add_22 rfl rfl ?_
  refine r_aload_n X dX9_add_25 rfl ?_
  refine a_get (a := 18) X hn fg_X9_9 dX9_add_26 rfl rfl ?_
  refine r_iload_n X dX9_add_29 rfl ?_
  refine a_iast (a := 19) X hn dX9_add_30 rfl (inK (by decide +kernel)) ?_
  refine r_aload_n X dX9_add_31 rfl ?_
  refine r_dup X dX9_add_32 ?_
  refine a_get (a := 18) X hn fg_X9_9 dX9_add_33 rfl rfl ?_
  refine r_iconst (v := 1) X dX9_add_36 (by decide +kernel) ?_
  refine r_iaddE (v := 1) X dX9_add_37 (by decide +kernel) ?_
  refine a_put (a := 18) X hn fp_X9_9 dX9_add_38 rfl rfl rfl rfl ?_
  refine r_eq (h' := h0 ++ (((frC n ++ T).set 18 (eO 9 [vR (n + 19), vI 1])).set 19 (eI 15 (upd (fun _ => 0) (0 : Int32).toNatClampNeg (z0))))) rfl rfl rfl ?_
  refine r_aload_n X dX9_add_41 rfl ?_
  refine a_get (a := 18) X hn fg_X9_9 dX9_add_42 rfl rfl ?_
  exact r_ret_i X hr hlk dX9_add_45 (Nat.le_of_ble_eq_true rfl) (Nat.le_of_ble_eq_true rfl) ⟨_, rfl, ⟨rfl, rfl⟩⟩
set_option maxRecDepth 100000 in
set_option maxHeartbeats 4000000 in
theorem kx51_X10_tell (l : Launch) (G : PG) (h0 : PH) (n : Nat) (hn : h0.length = n) (T : PH) (z0 : Int32) : PMet l G yX10_tell cX10_tell 5 (some .int) 1 0 0 [vR (n + 1), vI 3, vI 0, vI 1, vI z0] (h0 ++ (frC n ++ T)) (qI (fun x h' => x = 1 ∧ h' = h0 ++ (((frC n ++ T).set 18 (eO 9 [vR (n + 19), vI 1])).set 19 (eI 15 (upd (fun _ => 0) (0 : Int32).toNatClampNeg ((z0))))))) := by
  refine PMet.intro (by decide) (Nat.le_of_ble_eq_true rfl) ?_
  intro p e s m args below meth c X hr hlk hnm
  refine r_iload_n X dX10_tell_0 rfl ?_
  refine r_if_lt_f (tgt := 10) X dX10_tell_1 rfl (by decide +kernel) ?_
  refine r_iload_n X dX10_tell_4 rfl ?_
  refine r_bipush (v := 9) X dX10_tell_5 (by decide +kernel) ?_
  refine r_icmp_lt_t (tgt := 12) X dX10_tell_7 rfl (by decide +kernel) ?_
  refine r_iload_n X dX10_tell_12 rfl ?_
  refine r_if_eq_t (tgt := 28) X dX10_tell_13 rfl (by decide +kernel) ?_
  refine r_iload_n X dX10_tell_28 rfl ?_
  refine r_if_eq_f (tgt := 46) X dX10_tell_29 rfl (by decide +kernel) ?_
  refine r_aload_n X dX10_tell_32 rfl ?_
  refine a_get (a := 1) X hn fg_X10_33 dX10_tell_33 rfl rfl ?_
  refine r_iload_n X dX10_tell_36 rfl ?_
  refine a_aald (a := 8) (v := vR (n + 18)) (C := RX9) X hn rfl dX10_tell_37 rfl (inK (by decide +kernel)) rfl ?_
  refine r_iload X dX10_tell_38 rfl ?_
  refine r_V1i X kv_X10_63 dX10_tell_40 (apG (k := 18) hn rfl) rfl (kx50_X9_add l G _ _ hn _ _) rfl (fun x h' hΨ => ?_)
  obtain ⟨rfl, rfl⟩ := hΨ
  refine r_goto (tgt := 47) X dX10_tell_43 rfl ?_
  exact r_ret_i X hr hlk dX10_tell_47 (Nat.le_of_ble_eq_true rfl) (Nat.le_of_ble_eq_true rfl) ⟨_, rfl, ⟨rfl, rfl⟩⟩
set_option maxRecDepth 100000 in
set_option maxHeartbeats 4000000 in
theorem kx52_X10_tell (l : Launch) (G : PG) (h0 : PH) (n : Nat) (hn : h0.length = n) (T : PH) (z0 : Int32) : PMet l G yX10_tell cX10_tell 5 (some .int) 0 0 0 [vR (n + 1), vI 3, vI 1, vI 0, vI z0] (h0 ++ (frC n ++ T)) (qI (fun x h' => x = 0 ∧ h' = h0 ++ (frC n ++ T))) := by
  refine PMet.intro (by decide) (Nat.le_of_ble_eq_true rfl) ?_
  intro p e s m args below meth c X hr hlk hnm
  refine r_iload_n X dX10_tell_0 rfl ?_
  refine r_if_lt_f (tgt := 10) X dX10_tell_1 rfl (by decide +kernel) ?_
  refine r_iload_n X dX10_tell_4 rfl ?_
  refine r_bipush (v := 9) X dX10_tell_5 (by decide +kernel) ?_
  refine r_icmp_lt_t (tgt := 12) X dX10_tell_7 rfl (by decide +kernel) ?_
  refine r_iload_n X dX10_tell_12 rfl ?_
  refine r_if_eq_f (tgt := 28) X dX10_tell_13 rfl (by decide +kernel) ?_
  refine r_aload_n X dX10_tell_16 rfl ?_
  refine a_get (a := 1) X hn fg_X10_33 dX10_tell_17 rfl rfl ?_
  refine r_iload_n X dX10_tell_20 rfl ?_
  refine a_aald (a := 8) (v := vR (n + 18)) (C := RX9) X hn rfl dX10_tell_21 rfl (inK (by decide +kernel)) rfl ?_
  refine r_iconst (v := 0) X dX10_tell_22 (by decide +kernel) ?_
  refine a_put (a := 18) X hn fp_X10_59 dX10_tell_23 rfl rfl rfl rfl ?_
  refine r_eq (h' := h0 ++ (frC n ++ T)) rfl rfl rfl ?_
  refine r_iconst (v := 0) X dX10_tell_26 (by decide +kernel) ?_
  exact r_ret_i X hr hlk dX10_tell_27 (Nat.le_of_ble_eq_true rfl) (Nat.le_of_ble_eq_true rfl) ⟨_, rfl, ⟨rfl, rfl⟩⟩
set_option maxRecDepth 100000 in
set_option maxHeartbeats 4000000 in
theorem x_name (l : Launch) (G : PG) (h0 : PH) (n : Nat) (hn : h0.length = n) (T : PH) (a : Int32) : PMet l G yX11_name cX11_name 2 (some .int) 2 0 0 [vR (n + 0), vI a] (h0 ++ (frC n ++ T)) (qI (fun x h' => x = sp_name a ∧ kp n 103 T h')) := by
  refine PMet.intro (by decide) (Nat.le_of_ble_eq_true rfl) ?_
  intro p e s m args below meth c X hr hlk hnm
  refine r_aload_n X dX11_name_0 rfl ?_
  refine a_get (a := 0) X hn fg_X11_12 dX11_name_1 rfl rfl ?_
  refine r_iconst (v := 3) X dX11_name_4 (by decide +kernel) ?_
  refine r_iload_n X dX11_name_5 rfl ?_
  refine r_iconst (v := -1) X dX11_name_6 (by decide +kernel) ?_
  refine r_icmp_ne (tgt := 14) X dX11_name_7 rfl (fun q1 => ?_) (fun q1 => ?_)
  · refine r_iconst (v := 0) X dX11_name_14 (by decide +kernel) ?_
    refine r_iload_n X dX11_name_15 rfl ?_
    refine r_if_lt (tgt := 29) X dX11_name_16 rfl (fun q2 => ?_) (fun q2 => ?_)
    · refine r_iconst (v := 0) X dX11_name_29 (by decide +kernel) ?_
      refine r_iload_n X dX11_name_30 rfl ?_
      refine r_V4i X kv_X11_242 dX11_name_31 (apG (k := 1) hn rfl) rfl (kx49_X10_tell l G _ _ hn _ _) rfl (fun x h' hΨ => ?_)
      obtain ⟨rfl, rfl⟩ := hΨ
      exact r_ret_i X hr hlk dX11_name_34 (Nat.le_of_ble_eq_true rfl) (Nat.le_of_ble_eq_true rfl) ⟨_, rfl, by unfold sp_name; (repeat' split) <;> first | rfl | (exfalso; have e0 : (-1 : Int32).toInt = -1 := (by decide); have e1 : (0 : Int32).toInt = 0 := (by decide); have e2 : (1 : Int32).toInt = 1 := (by decide); have e3 : (9 : Int32).toInt = 9 := (by decide); simp only [inR, Int32.lt_iff_toInt_lt, Int32.le_iff_toInt_le, ← Int32.toInt_inj, true_or, or_true, not_true_eq_false, and_true, true_and, false_or, or_false, false_and, and_false, not_false_eq_true] at * <;> omega), kp_of hn rfl rfl⟩
    · refine r_iload_n X dX11_name_19 rfl ?_
      refine r_bipush (v := 9) X dX11_name_20 (by decide +kernel) ?_
      refine r_icmp_gt (tgt := 29) X dX11_name_22 rfl (fun q3 => ?_) (fun q3 => ?_)
      · refine r_iconst (v := 0) X dX11_name_29 (by decide +kernel) ?_
        refine r_iload_n X dX11_name_30 rfl ?_
        refine r_V4i X kv_X11_242 dX11_name_31 (apG (k := 1) hn rfl) rfl (kx49_X10_tell l G _ _ hn _ _) rfl (fun x h' hΨ => ?_)
        obtain ⟨rfl, rfl⟩ := hΨ
        exact r_ret_i X hr hlk dX11_name_34 (Nat.le_of_ble_eq_true rfl) (Nat.le_of_ble_eq_true rfl) ⟨_, rfl, by unfold sp_name; (repeat' split) <;> first | rfl | (exfalso; have e0 : (-1 : Int32).toInt = -1 := (by decide); have e1 : (0 : Int32).toInt = 0 := (by decide); have e2 : (1 : Int32).toInt = 1 := (by decide); have e3 : (9 : Int32).toInt = 9 := (by decide); simp only [inR, Int32.lt_iff_toInt_lt, Int32.le_iff_toInt_le, ← Int32.toInt_inj, true_or, or_true, not_true_eq_false, and_true, true_and, false_or, or_false, false_and, and_false, not_false_eq_true] at * <;> omega), kp_of hn rfl rfl⟩
      · refine r_iconst (v := 1) X dX11_name_25 (by decide +kernel) ?_
        refine r_goto (tgt := 30) X dX11_name_26 rfl ?_
        refine r_iload_n X dX11_name_30 rfl ?_
        refine r_V4i X kv_X11_242 dX11_name_31 (apG (k := 1) hn rfl) rfl (kx51_X10_tell l G _ _ hn _ _) rfl (fun x h' hΨ => ?_)
        obtain ⟨rfl, rfl⟩ := hΨ
        exact r_ret_i X hr hlk dX11_name_34 (Nat.le_of_ble_eq_true rfl) (Nat.le_of_ble_eq_true rfl) ⟨_, rfl, by unfold sp_name; (repeat' split) <;> first | rfl | (exfalso; have e0 : (-1 : Int32).toInt = -1 := (by decide); have e1 : (0 : Int32).toInt = 0 := (by decide); have e2 : (1 : Int32).toInt = 1 := (by decide); have e3 : (9 : Int32).toInt = 9 := (by decide); simp only [inR, Int32.lt_iff_toInt_lt, Int32.le_iff_toInt_le, ← Int32.toInt_inj, true_or, or_true, not_true_eq_false, and_true, true_and, false_or, or_false, false_and, and_false, not_false_eq_true] at * <;> omega), kp_of hn rfl rfl⟩
  · refine r_iconst (v := 1) X dX11_name_10 (by decide +kernel) ?_
    refine r_goto (tgt := 15) X dX11_name_11 rfl ?_
    refine r_iload_n X dX11_name_15 rfl ?_
    refine r_if_lt_t (tgt := 29) X dX11_name_16 rfl (by have e0 : (-1 : Int32).toInt = -1 := (by decide); have e1 : (0 : Int32).toInt = 0 := (by decide); simp only [Int32.lt_iff_toInt_lt, Int32.le_iff_toInt_le, ← Int32.toInt_inj] at q1 ⊢; omega) ?_
    refine r_iconst (v := 0) X dX11_name_29 (by decide +kernel) ?_
    refine r_iload_n X dX11_name_30 rfl ?_
    refine r_V4i X kv_X11_242 dX11_name_31 (apG (k := 1) hn rfl) rfl (kx52_X10_tell l G _ _ hn _ _) rfl (fun x h' hΨ => ?_)
    obtain ⟨rfl, rfl⟩ := hΨ
    exact r_ret_i X hr hlk dX11_name_34 (Nat.le_of_ble_eq_true rfl) (Nat.le_of_ble_eq_true rfl) ⟨_, rfl, by unfold sp_name; (repeat' split) <;> first | rfl | (exfalso; have e0 : (-1 : Int32).toInt = -1 := (by decide); have e1 : (0 : Int32).toInt = 0 := (by decide); have e2 : (1 : Int32).toInt = 1 := (by decide); have e3 : (9 : Int32).toInt = 9 := (by decide); simp only [inR, Int32.lt_iff_toInt_lt, Int32.le_iff_toInt_le, ← Int32.toInt_inj, true_or, or_true, not_true_eq_false, and_true, true_and, false_or, or_false, false_and, and_false, not_false_eq_true] at * <;> omega), kp_of hn rfl rfl⟩
