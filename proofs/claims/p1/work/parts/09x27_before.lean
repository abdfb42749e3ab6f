set_option maxRecDepth 100000 in
set_option maxHeartbeats 4000000 in
theorem kx88_X10_tell (l : Launch) (G : PG) (h0 : PH) (n : Nat) (hn : h0.length = n) (T : PH) (z0 : Int32) : PMet l G yX10_tell cX10_tell 5 (some .int) 0 0 0 [vR (n + 1), vI 8, vI 0, vI 0, vI z0] (h0 ++ (frC n ++ T)) (qI (fun x h' => x = (-1) ∧ h' = h0 ++ (frC n ++ T))) := by
  refine PMet.intro (by decide) (Nat.le_of_ble_eq_true rfl) ?_
  intro p e s m args below meth c X hr hlk hnm
  refine r_iload_n X dX10_tell_0 rfl ?_
  refine r_if_lt_f (tgt := 10) X dX10_tell_1 rfl (by decide +kernel) ?_
  refine r_iload_n X dX10_tell_4 rfl ?_
  refine r_bipush (v := 9) X dX10_tell_5 (by decide +kernel) ?_
  refine r_icmp_lt_t (tgt := 12) X dX10_tell_7 rfl (by decide +kernel) ?_
  refine r_iload_n X dX10_tell_12 rfl ?_
  refine r_if_eq_t (tgt := 28) X dX10_tell_13 rfl (by decide +kernel) ?_
  refine r_iload_n X dX10_tell_28 rfl ?_
  refine r_if_eq_t (tgt := 46) X dX10_tell_29 rfl (by decide +kernel) ?_
  refine r_iconst (v := -1) X dX10_tell_46 (by decide +kernel) ?_
  exact r_ret_i X hr hlk dX10_tell_47 (Nat.le_of_ble_eq_true rfl) (Nat.le_of_ble_eq_true rfl) ⟨_, rfl, ⟨rfl, rfl⟩⟩
set_option maxRecDepth 100000 in
set_option maxHeartbeats 4000000 in
theorem kx89_X10_tell (l : Launch) (G : PG) (h0 : PH) (n : Nat) (hn : h0.length = n) (T : PH) (z0 : Nat) (hz0 : z0 ≤ 1799) : PMet l G yX10_tell cX10_tell 5 (some .int) 0 0 0 [vR (n + 1), vI 8, vI 0, vI 0, vI (nI z0)] (h0 ++ (frC n ++ T)) (qI (fun x h' => x = (-1) ∧ h' = h0 ++ (frC n ++ T))) := by
  refine PMet.intro (by decide) (Nat.le_of_ble_eq_true rfl) ?_
  intro p e s m args below meth c X hr hlk hnm
  refine r_iload_n X dX10_tell_0 rfl ?_
  refine r_if_lt_f (tgt := 10) X dX10_tell_1 rfl (by decide +kernel) ?_
  refine r_iload_n X dX10_tell_4 rfl ?_
  refine r_bipush (v := 9) X dX10_tell_5 (by decide +kernel) ?_
  refine r_icmp_lt_t (tgt := 12) X dX10_tell_7 rfl (by decide +kernel) ?_
  refine r_iload_n X dX10_tell_12 rfl ?_
  refine r_if_eq_t (tgt := 28) X dX10_tell_13 rfl (by decide +kernel) ?_
  refine r_iload_n X dX10_tell_28 rfl ?_
  refine r_if_eq_t (tgt := 46) X dX10_tell_29 rfl (by decide +kernel) ?_
  refine r_iconst (v := -1) X dX10_tell_46 (by decide +kernel) ?_
  exact r_ret_i X hr hlk dX10_tell_47 (Nat.le_of_ble_eq_true rfl) (Nat.le_of_ble_eq_true rfl) ⟨_, rfl, ⟨rfl, rfl⟩⟩
set_option maxRecDepth 100000 in
set_option maxHeartbeats 4000000 in
theorem kx90_X9_add (l : Launch) (G : PG) (h0 : PH) (n : Nat) (hn : h0.length = n) (T : PH) (z0 : Nat) (hz0 : z0 ≤ 1799) : PMet l G yX9_add cX9_add 2 (some .int) 0 0 0 [vR (n + 28), vI (nI z0)] (h0 ++ (frC n ++ T)) (qI (fun x h' => x = 1 ∧ h' = h0 ++ (((frC n ++ T).set 28 (eO 9 [vR (n + 29), vI 1])).set 29 (eI 12 (upd (fun _ => 0) (0 : Int32).toNatClampNeg (nI z0)))))) := by
  refine PMet.intro (by decide) (Nat.le_of_ble_eq_true rfl) ?_
  intro p e s m args below meth c X hr hlk hnm
  refine r_aload_n X dX9_add_0 rfl ?_
  refine a_get (a := 28) X hn fg_X9_9 dX9_add_1 rfl rfl ?_
  refine r_if_lt_f (tgt := 19) X dX9_add_4 rfl (by decide +kernel) ?_
  refine r_aload_n X dX9_add_7 rfl ?_
  refine a_get (a := 28) X hn fg_X9_9 dX9_add_8 rfl rfl ?_
  refine r_aload_n X dX9_add_11 rfl ?_
  refine a_get (a := 28) X hn fg_X9_21 dX9_add_12 rfl rfl ?_
  refine a_alen (a := 29) (v := 12) X hn dX9_add_15 rfl (by decide +kernel) ?_
  refine r_icmp_lt_t (tgt := 21) X dX9_add_16 rfl (by decide +kernel) ?_
  refine r_aload_n X dX9_add_21 rfl ?_
  refine a_get (a := 28) X hn fg_X9_21 dX9_add_22 rfl rfl ?_
  refine r_aload_n X dX9_add_25 rfl ?_
  refine a_get (a := 28) X hn fg_X9_9 dX9_add_26 rfl rfl ?_
  refine r_iload_n X dX9_add_29 rfl ?_
  refine a_iast (a := 29) X hn dX9_add_30 rfl (inK (by decide +kernel)) ?_
  refine r_aload_n X dX9_add_31 rfl ?_
  refine r_dup X dX9_add_32 ?_
  refine a_get (a := 28) X hn fg_X9_9 dX9_add_33 rfl rfl ?_
  refine r_iconst (v := 1) X dX9_add_36 (by decide +kernel) ?_
  refine r_iaddE (v := 1) X dX9_add_37 (by decide +kernel) ?_
  refine a_put (a := 28) X hn fp_X9_9 dX9_add_38 rfl rfl rfl rfl ?_
  refine r_eq (h' := h0 ++ (((frC n ++ T).set 28 (eO 9 [vR (n + 29), vI 1])).set 29 (eI 12 (upd (fun _ => 0) (0 : Int32).toNatClampNeg (nI z0))))) rfl rfl rfl ?_
  refine r_aload_n X dX9_add_41 rfl ?_
  refine a_get (a := 28) X hn fg_X9_9 dX9_add_42 rfl rfl ?_
  exact r_ret_i X hr hlk dX9_add_45 (Nat.le_of_ble_eq_true rfl) (Nat.le_of_ble_eq_true rfl) ⟨_, rfl, ⟨rfl, rfl⟩⟩
set_option maxRecDepth 100000 in
set_option maxHeartbeats 4000000 in
theorem kx91_X10_tell (l : Launch) (G : PG) (h0 : PH) (n : Nat) (hn : h0.length = n) (T : PH) (z0 : Nat) (hz0 : z0 ≤ 1799) : PMet l G yX10_tell cX10_tell 5 (some .int) 1 0 0 [vR (n + 1), vI 8, vI 0, vI 1, vI (nI z0)] (h0 ++ (frC n ++ T)) (qI (fun x h' => x = 1 ∧ h' = h0 ++ (((frC n ++ T).set 28 (eO 9 [vR (n + 29), vI 1])).set 29 (eI 12 (upd (fun _ => 0) (0 : Int32).toNatClampNeg (nI (z0))))))) := by
  refine PMet.intro (by decide) (Nat.le_of_ble_eq_true rfl) ?_
  intro p e s m args below meth c X hr hlk hnm
  refine r_iload_n X dX10_tell_0 rfl ?_
  refine r_if_lt_f (tgt := 10) X dX10_tell_1 rfl (by decide +kernel) ?_
  refine r_iload_n X dX10_tell_4 rfl ?_
  refine r_bipush (v := 9) X dX10_tell_5 (by decide +kernel) ?_
  refine r_icmp_lt_t (tgt := 12) X dX10_tell_7 rfl (by decide +kernel) ?_
  refine r_iload_n X dX10_tell_12 rfl ?_
  refine r_if_eq_t (tgt := 28) X dX10_tell_13 rfl (by decide +kernel) ?_
  refine r_iload_n X dX10_tell_28 rfl ?_
  refine r_if_eq_f (tgt := 46) X dX10_tell_29 rfl (by decide +kernel) ?_
  refine r_aload_n X dX10_tell_32 rfl ?_
  refine a_get (a := 1) X hn fg_X10_33 dX10_tell_33 rfl rfl ?_
  refine r_iload_n X dX10_tell_36 rfl ?_
  refine a_aald (a := 8) (v := vR (n + 28)) (C := RX9) X hn rfl dX10_tell_37 rfl (inK (by decide +kernel)) rfl ?_
  refine r_iload X dX10_tell_38 rfl ?_
  refine r_V1i X kv_X10_63 dX10_tell_40 (apG (k := 28) hn rfl) rfl (kx90_X9_add l G _ _ hn _ _ (by omega)) rfl (fun x h' hΨ => ?_)
  obtain ⟨rfl, rfl⟩ := hΨ
  refine r_goto (tgt := 47) X dX10_tell_43 rfl ?_
  exact r_ret_i X hr hlk dX10_tell_47 (Nat.le_of_ble_eq_true rfl) (Nat.le_of_ble_eq_true rfl) ⟨_, rfl, ⟨rfl, rfl⟩⟩
set_option maxRecDepth 100000 in
set_option maxHeartbeats 4000000 in
theorem kx92_X10_tell (l : Launch) (G : PG) (h0 : PH) (n : Nat) (hn : h0.length = n) (T : PH) (z0 : Int32) : PMet l G yX10_tell cX10_tell 5 (some .int) 0 0 0 [vR (n + 1), vI 8, vI 1, vI 0, vI z0] (h0 ++ (frC n ++ T)) (qI (fun x h' => x = 0 ∧ h' = h0 ++ (frC n ++ T))) := by
  refine PMet.intro (by decide) (Nat.le_of_ble_eq_true rfl) ?_
  intro p e s m args below meth c X hr hlk hnm
  refine r_iload_n X dX10_tell_0 rfl ?_
  refine r_if_lt_f (tgt := 10) X dX10_tell_1 rfl (by decide +kernel) ?_
  refine r_iload_n X dX10_tell_4 rfl ?_
  refine r_bipush (v := 9) X dX10_tell_5 (by decide +kernel) ?_
  refine r_icmp_lt_t (tgt := 12) X dX10_tell_7 rfl (by decide +kernel) ?_
  refine r_iload_n X dX10_tell_12 rfl ?_
  refine r_if_eq_f (tgt := 28) X dX10_tell_13 rfl (by decide +kernel) ?_
  refine r_aload_n X dX10_tell_16 rfl ?_
  refine a_get (a := 1) X hn fg_X10_33 dX10_tell_17 rfl rfl ?_
  refine r_iload_n X dX10_tell_20 rfl ?_
  refine a_aald (a := 8) (v := vR (n + 28)) (C := RX9) X hn rfl dX10_tell_21 rfl (inK (by decide +kernel)) rfl ?_
  refine r_iconst (v := 0) X dX10_tell_22 (by decide +kernel) ?_
  refine a_put (a := 28) X hn fp_X10_59 dX10_tell_23 rfl rfl rfl rfl ?_
  refine r_eq (h' := h0 ++ (frC n ++ T)) rfl rfl rfl ?_
  refine r_iconst (v := 0) X dX10_tell_26 (by decide +kernel) ?_
  exact r_ret_i X hr hlk dX10_tell_27 (Nat.le_of_ble_eq_true rfl) (Nat.le_of_ble_eq_true rfl) ⟨_, rfl, ⟨rfl, rfl⟩⟩
set_option maxRecDepth 100000 in
set_option maxHeartbeats 4000000 in
theorem x_before (l : Launch) (G : PG) (h0 : PH) (n : Nat) (hn : h0.length = n) (T : PH) (a b : Int32) : PMet l G yX11_before cX11_before 3 (some .int) 2 0 0 [vR (n + 0), vI a, vI b] (h0 ++ (frC n ++ T)) (qI (fun x h' => x = sp_before a b ∧ kp n 103 T h')) := by
  refine PMet.intro (by decide) (Nat.le_of_ble_eq_true rfl) ?_
  intro p e s m args below meth c X hr hlk hnm
  refine r_aload_n X dX11_before_0 rfl ?_
  refine a_get (a := 0) X hn fg_X11_12 dX11_before_1 rfl rfl ?_
  refine r_bipush (v := 8) X dX11_before_4 (by decide +kernel) ?_
  refine r_iload_n X dX11_before_6 rfl ?_
  refine r_iconst (v := -1) X dX11_before_7 (by decide +kernel) ?_
  refine r_icmp_ne (tgt := 15) X dX11_before_8 rfl (fun q1 => ?_) (fun q1 => ?_)
  · refine r_iconst (v := 0) X dX11_before_15 (by decide +kernel) ?_
    refine r_iload_n X dX11_before_16 rfl ?_
    refine r_iload_n X dX11_before_17 rfl ?_
    refine r_S2i X ks_X11_285 dX11_before_18 (kx82_X11_unlikeBills l G _ _ hn _ _ _) rfl (fun x h' hΨ => ?_)
    rcases hΨ with ⟨q2, rfl, rfl⟩ | ⟨q3, q4, rfl, rfl⟩ | ⟨q5, q6, q7, rfl, rfl⟩ | ⟨q8, q9, q10, q11, rfl, rfl⟩ | ⟨q12, q13, q14, q15, q16, rfl, rfl⟩ | ⟨q17, q18, q19, q20, q21, rfl, rfl⟩
    · refine r_iload_n X dX11_before_21 rfl ?_
      refine r_sipush (v := 256) X dX11_before_22 (by decide +kernel) ?_
      refine r_imul X dX11_before_25 ?_
      refine r_iload_n X dX11_before_26 rfl ?_
      refine r_iadd X dX11_before_27 ?_
      refine r_V4i X kv_X11_242 dX11_before_28 (apG (k := 1) hn rfl) rfl (kx88_X10_tell l G _ _ hn _ _) rfl (fun x h' hΨ => ?_)
      obtain ⟨rfl, rfl⟩ := hΨ
      exact r_ret_i X hr hlk dX11_before_31 (Nat.le_of_ble_eq_true rfl) (Nat.le_of_ble_eq_true rfl) ⟨_, rfl, by unfold sp_before; (repeat' split) <;> first | rfl | (exfalso; have e0 : (-1 : Int32).toInt = -1 := (by decide); have e1 : (0 : Int32).toInt = 0 := (by decide); have e2 : (1 : Int32).toInt = 1 := (by decide); have e3 : (7 : Int32).toInt = 7 := (by decide); simp only [inR, Int32.lt_iff_toInt_lt, Int32.le_iff_toInt_le, ← Int32.toInt_inj, true_or, or_true, not_true_eq_false, and_true, true_and, false_or, or_false, false_and, and_false, not_false_eq_true] at * <;> omega), kp_of hn rfl rfl⟩
    · refine r_iload_n X dX11_before_21 rfl ?_
      refine r_sipush (v := 256) X dX11_before_22 (by decide +kernel) ?_
      refine r_imul X dX11_before_25 ?_
      refine r_iload_n X dX11_before_26 rfl ?_
      refine r_iadd X dX11_before_27 ?_
      refine r_V4i X kv_X11_242 dX11_before_28 (apG (k := 1) hn rfl) rfl (kx88_X10_tell l G _ _ hn _ _) rfl (fun x h' hΨ => ?_)
      obtain ⟨rfl, rfl⟩ := hΨ
      exact r_ret_i X hr hlk dX11_before_31 (Nat.le_of_ble_eq_true rfl) (Nat.le_of_ble_eq_true rfl) ⟨_, rfl, by unfold sp_before; (repeat' split) <;> first | rfl | (exfalso; have e0 : (-1 : Int32).toInt = -1 := (by decide); have e1 : (0 : Int32).toInt = 0 := (by decide); have e2 : (1 : Int32).toInt = 1 := (by decide); have e3 : (7 : Int32).toInt = 7 := (by decide); have e4 : (8 : Int32).toInt = 8 := (by decide); simp only [inR, Int32.lt_iff_toInt_lt, Int32.le_iff_toInt_le, ← Int32.toInt_inj, true_or, or_true, not_true_eq_false, and_true, true_and, false_or, or_false, false_and, and_false, not_false_eq_true] at * <;> omega), kp_of hn rfl rfl⟩
    · refine r_iload_n X dX11_before_21 rfl ?_
      refine r_sipush (v := 256) X dX11_before_22 (by decide +kernel) ?_
      refine r_imul X dX11_before_25 ?_
      refine r_iload_n X dX11_before_26 rfl ?_
      refine r_iadd X dX11_before_27 ?_
      obtain ⟨j_a, hj_a, rfl⟩ : ∃ j : Nat, j ≤ 7 ∧ a = nI j := nI_of2 (M := 7) (by decide) (by have e0 : (-1 : Int32).toInt = -1 := (by decide); have e2 : (0 : Int32).toInt = 0 := (by decide); have e3 : (8 : Int32).toInt = 8 := (by decide); simp only [Int32.lt_iff_toInt_lt, Int32.le_iff_toInt_le, ← Int32.toInt_inj] at q1 q5 q6 ⊢; omega) (by have e0 : (-1 : Int32).toInt = -1 := (by decide); have e2 : (0 : Int32).toInt = 0 := (by decide); have e3 : (7 : Int32).toInt = 7 := (by decide); have e4 : (8 : Int32).toInt = 8 := (by decide); simp only [Int32.lt_iff_toInt_lt, Int32.le_iff_toInt_le, ← Int32.toInt_inj] at q1 q5 q6 ⊢; omega)
      refine r_V4i X kv_X11_242 dX11_before_28 (apG (k := 1) hn rfl) rfl (kx88_X10_tell l G _ _ hn _ _) rfl (fun x h' hΨ => ?_)
      obtain ⟨rfl, rfl⟩ := hΨ
      exact r_ret_i X hr hlk dX11_before_31 (Nat.le_of_ble_eq_true rfl) (Nat.le_of_ble_eq_true rfl) ⟨_, rfl, by unfold sp_before; (repeat' split) <;> first | rfl | (exfalso; have e0 : (-1 : Int32).toInt = -1 := (by decide); have e1 : (0 : Int32).toInt = 0 := (by decide); have e2 : (1 : Int32).toInt = 1 := (by decide); have e3 : (7 : Int32).toInt = 7 := (by decide); have e4 : (8 : Int32).toInt = 8 := (by decide); have en0 : (nI j_a).toInt = ((j_a : Nat) : Int) := toN rfl (by omega); simp only [inR, Int32.lt_iff_toInt_lt, Int32.le_iff_toInt_le, ← Int32.toInt_inj, true_or, or_true, not_true_eq_false, and_true, true_and, false_or, or_false, false_and, and_false, not_false_eq_true] at * <;> omega), kp_of hn rfl rfl⟩
    · refine r_iload_n X dX11_before_21 rfl ?_
      refine r_sipush (v := 256) X dX11_before_22 (by decide +kernel) ?_
      refine r_imul X dX11_before_25 ?_
      refine r_iload_n X dX11_before_26 rfl ?_
      refine r_iadd X dX11_before_27 ?_
      obtain ⟨j_a, hj_a, rfl⟩ : ∃ j : Nat, j ≤ 7 ∧ a = nI j := nI_of2 (M := 7) (by decide) (by have e0 : (-1 : Int32).toInt = -1 := (by decide); have e2 : (0 : Int32).toInt = 0 := (by decide); have e3 : (8 : Int32).toInt = 8 := (by decide); simp only [Int32.lt_iff_toInt_lt, Int32.le_iff_toInt_le, ← Int32.toInt_inj] at q1 q8 q9 ⊢; omega) (by have e0 : (-1 : Int32).toInt = -1 := (by decide); have e2 : (0 : Int32).toInt = 0 := (by decide); have e3 : (7 : Int32).toInt = 7 := (by decide); have e4 : (8 : Int32).toInt = 8 := (by decide); simp only [Int32.lt_iff_toInt_lt, Int32.le_iff_toInt_le, ← Int32.toInt_inj] at q1 q8 q9 ⊢; omega)
      refine r_V4i X kv_X11_242 dX11_before_28 (apG (k := 1) hn rfl) rfl (kx88_X10_tell l G _ _ hn _ _) rfl (fun x h' hΨ => ?_)
      obtain ⟨rfl, rfl⟩ := hΨ
      exact r_ret_i X hr hlk dX11_before_31 (Nat.le_of_ble_eq_true rfl) (Nat.le_of_ble_eq_true rfl) ⟨_, rfl, by unfold sp_before; (repeat' split) <;> first | rfl | (exfalso; have e0 : (-1 : Int32).toInt = -1 := (by decide); have e1 : (0 : Int32).toInt = 0 := (by decide); have e2 : (1 : Int32).toInt = 1 := (by decide); have e3 : (7 : Int32).toInt = 7 := (by decide); have e4 : (8 : Int32).toInt = 8 := (by decide); have en0 : (nI j_a).toInt = ((j_a : Nat) : Int) := toN rfl (by omega); simp only [inR, Int32.lt_iff_toInt_lt, Int32.le_iff_toInt_le, ← Int32.toInt_inj, true_or, or_true, not_true_eq_false, and_true, true_and, false_or, or_false, false_and, and_false, not_false_eq_true] at * <;> omega), kp_of hn rfl rfl⟩
    · refine r_iload_n X dX11_before_21 rfl ?_
      refine r_sipush (v := 256) X dX11_before_22 (by decide +kernel) ?_
      refine r_imul X dX11_before_25 ?_
      refine r_iload_n X dX11_before_26 rfl ?_
      refine r_iadd X dX11_before_27 ?_
      obtain ⟨j_a, hj_a, rfl⟩ : ∃ j : Nat, j ≤ 7 ∧ a = nI j := nI_of2 (M := 7) (by decide) (by have e0 : (-1 : Int32).toInt = -1 := (by decide); have e2 : (0 : Int32).toInt = 0 := (by decide); have e3 : (8 : Int32).toInt = 8 := (by decide); simp only [Int32.lt_iff_toInt_lt, Int32.le_iff_toInt_le, ← Int32.toInt_inj] at q1 q12 q13 ⊢; omega) (by have e0 : (-1 : Int32).toInt = -1 := (by decide); have e2 : (0 : Int32).toInt = 0 := (by decide); have e3 : (7 : Int32).toInt = 7 := (by decide); have e4 : (8 : Int32).toInt = 8 := (by decide); simp only [Int32.lt_iff_toInt_lt, Int32.le_iff_toInt_le, ← Int32.toInt_inj] at q1 q12 q13 ⊢; omega)
      obtain ⟨j_b, hj_b, rfl⟩ : ∃ j : Nat, j ≤ 7 ∧ b = nI j := nI_of2 (M := 7) (by decide) (by have e1 : (0 : Int32).toInt = 0 := (by decide); have e2 : (8 : Int32).toInt = 8 := (by decide); simp only [Int32.lt_iff_toInt_lt, Int32.le_iff_toInt_le, ← Int32.toInt_inj] at q14 q15 ⊢; omega) (by have e1 : (0 : Int32).toInt = 0 := (by decide); have e2 : (7 : Int32).toInt = 7 := (by decide); have e3 : (8 : Int32).toInt = 8 := (by decide); simp only [Int32.lt_iff_toInt_lt, Int32.le_iff_toInt_le, ← Int32.toInt_inj] at q14 q15 ⊢; omega)
      refine r_eq (st' := [vI (nI ((j_a * 256) + j_b)), vI 0, vI 0, vI 8, vR (n + 1)]) rfl rfl (by rw [show (((nI j_a) * 256) + (nI j_b) : Int32) = nI ((j_a * 256) + j_b) from nadd (nmul (rfl) ((rfl : (256 : Int32) = nI 256))) (rfl)]) ?_
      refine r_V4i X kv_X11_242 dX11_before_28 (apG (k := 1) hn rfl) rfl (kx89_X10_tell l G _ _ hn _ _ (by omega)) rfl (fun x h' hΨ => ?_)
      obtain ⟨rfl, rfl⟩ := hΨ
      exact r_ret_i X hr hlk dX11_before_31 (Nat.le_of_ble_eq_true rfl) (Nat.le_of_ble_eq_true rfl) ⟨_, rfl, by unfold sp_before; (repeat' split) <;> first | rfl | (exfalso; have e0 : (-1 : Int32).toInt = -1 := (by decide); have e1 : (0 : Int32).toInt = 0 := (by decide); have e2 : (1 : Int32).toInt = 1 := (by decide); have e3 : (7 : Int32).toInt = 7 := (by decide); have e4 : (8 : Int32).toInt = 8 := (by decide); have en0 : (nI j_a).toInt = ((j_a : Nat) : Int) := toN rfl (by omega); have en1 : (nI j_b).toInt = ((j_b : Nat) : Int) := toN rfl (by omega); simp only [inR, Int32.lt_iff_toInt_lt, Int32.le_iff_toInt_le, ← Int32.toInt_inj, true_or, or_true, not_true_eq_false, and_true, true_and, false_or, or_false, false_and, and_false, not_false_eq_true] at * <;> omega), kp_of hn rfl rfl⟩
    · refine r_iload_n X dX11_before_21 rfl ?_
      refine r_sipush (v := 256) X dX11_before_22 (by decide +kernel) ?_
      refine r_imul X dX11_before_25 ?_
      refine r_iload_n X dX11_before_26 rfl ?_
      refine r_iadd X dX11_before_27 ?_
      obtain ⟨j_a, hj_a, rfl⟩ : ∃ j : Nat, j ≤ 7 ∧ a = nI j := nI_of2 (M := 7) (by decide) (by have e0 : (-1 : Int32).toInt = -1 := (by decide); have e2 : (0 : Int32).toInt = 0 := (by decide); have e3 : (8 : Int32).toInt = 8 := (by decide); simp only [Int32.lt_iff_toInt_lt, Int32.le_iff_toInt_le, ← Int32.toInt_inj] at q1 q17 q18 ⊢; omega) (by have e0 : (-1 : Int32).toInt = -1 := (by decide); have e2 : (0 : Int32).toInt = 0 := (by decide); have e3 : (7 : Int32).toInt = 7 := (by decide); have e4 : (8 : Int32).toInt = 8 := (by decide); simp only [Int32.lt_iff_toInt_lt, Int32.le_iff_toInt_le, ← Int32.toInt_inj] at q1 q17 q18 ⊢; omega)
      obtain ⟨j_b, hj_b, rfl⟩ : ∃ j : Nat, j ≤ 7 ∧ b = nI j := nI_of2 (M := 7) (by decide) (by have e1 : (0 : Int32).toInt = 0 := (by decide); have e2 : (8 : Int32).toInt = 8 := (by decide); simp only [Int32.lt_iff_toInt_lt, Int32.le_iff_toInt_le, ← Int32.toInt_inj] at q19 q20 ⊢; omega) (by have e1 : (0 : Int32).toInt = 0 := (by decide); have e2 : (7 : Int32).toInt = 7 := (by decide); have e3 : (8 : Int32).toInt = 8 := (by decide); simp only [Int32.lt_iff_toInt_lt, Int32.le_iff_toInt_le, ← Int32.toInt_inj] at q19 q20 ⊢; omega)
      refine r_eq (st' := [vI (nI ((j_a * 256) + j_b)), vI 1, vI 0, vI 8, vR (n + 1)]) rfl rfl (by rw [show (((nI j_a) * 256) + (nI j_b) : Int32) = nI ((j_a * 256) + j_b) from nadd (nmul (rfl) ((rfl : (256 : Int32) = nI 256))) (rfl)]) ?_
      refine r_V4i X kv_X11_242 dX11_before_28 (apG (k := 1) hn rfl) rfl (kx91_X10_tell l G _ _ hn _ _ (by omega)) rfl (fun x h' hΨ => ?_)
      obtain ⟨rfl, rfl⟩ := hΨ
      exact r_ret_i X hr hlk dX11_before_31 (Nat.le_of_ble_eq_true rfl) (Nat.le_of_ble_eq_true rfl) ⟨_, rfl, by unfold sp_before; (repeat' split) <;> first | rfl | (exfalso; have e0 : (-1 : Int32).toInt = -1 := (by decide); have e1 : (0 : Int32).toInt = 0 := (by decide); have e2 : (1 : Int32).toInt = 1 := (by decide); have e3 : (7 : Int32).toInt = 7 := (by decide); have e4 : (8 : Int32).toInt = 8 := (by decide); have en0 : (nI j_a).toInt = ((j_a : Nat) : Int) := toN rfl (by omega); have en1 : (nI j_b).toInt = ((j_b : Nat) : Int) := toN rfl (by omega); simp only [inR, Int32.lt_iff_toInt_lt, Int32.le_iff_toInt_le, ← Int32.toInt_inj, true_or, or_true, not_true_eq_false, and_true, true_and, false_or, or_false, false_and, and_false, not_false_eq_true] at * <;> omega), kp_of hn rfl rfl⟩
  · refine r_iconst (v := 1) X dX11_before_11 (by decide +kernel) ?_
    refine r_goto (tgt := 16) X dX11_before_12 rfl ?_
    refine r_iload_n X dX11_before_16 rfl ?_
    refine r_iload_n X dX11_before_17 rfl ?_
    refine r_S2i X ks_X11_285 dX11_before_18 (kx82_X11_unlikeBills l G _ _ hn _ _ _) rfl (fun x h' hΨ => ?_)
    rcases hΨ with ⟨q22, rfl, rfl⟩ | ⟨q23, q24, rfl, rfl⟩ | ⟨q25, q26, q27, rfl, rfl⟩ | ⟨q28, q29, q30, q31, rfl, rfl⟩ | ⟨q32, q33, q34, q35, q36, rfl, rfl⟩ | ⟨q37, q38, q39, q40, q41, rfl, rfl⟩
    · refine r_iload_n X dX11_before_21 rfl ?_
      refine r_sipush (v := 256) X dX11_before_22 (by decide +kernel) ?_
      refine r_imul X dX11_before_25 ?_
      refine r_iload_n X dX11_before_26 rfl ?_
      refine r_iadd X dX11_before_27 ?_
      refine r_V4i X kv_X11_242 dX11_before_28 (apG (k := 1) hn rfl) rfl (kx92_X10_tell l G _ _ hn _ _) rfl (fun x h' hΨ => ?_)
      obtain ⟨rfl, rfl⟩ := hΨ
      exact r_ret_i X hr hlk dX11_before_31 (Nat.le_of_ble_eq_true rfl) (Nat.le_of_ble_eq_true rfl) ⟨_, rfl, by unfold sp_before; (repeat' split) <;> first | rfl | (exfalso; have e0 : (-1 : Int32).toInt = -1 := (by decide); have e1 : (0 : Int32).toInt = 0 := (by decide); have e2 : (1 : Int32).toInt = 1 := (by decide); have e3 : (7 : Int32).toInt = 7 := (by decide); simp only [inR, Int32.lt_iff_toInt_lt, Int32.le_iff_toInt_le, ← Int32.toInt_inj, true_or, or_true, not_true_eq_false, and_true, true_and, false_or, or_false, false_and, and_false, not_false_eq_true] at * <;> omega), kp_of hn rfl rfl⟩
    · exact absurd (by have e0 : (-1 : Int32).toInt = -1 := (by decide); have e2 : (0 : Int32).toInt = 0 := (by decide); have e3 : (8 : Int32).toInt = 8 := (by decide); simp only [Int32.lt_iff_toInt_lt, Int32.le_iff_toInt_le, ← Int32.toInt_inj] at q1 q23 q24; omega) (id : ¬ False)
    · exact absurd (by have e0 : (-1 : Int32).toInt = -1 := (by decide); have e2 : (0 : Int32).toInt = 0 := (by decide); have e3 : (8 : Int32).toInt = 8 := (by decide); simp only [Int32.lt_iff_toInt_lt, Int32.le_iff_toInt_le, ← Int32.toInt_inj] at q1 q25 q26; omega) (id : ¬ False)
    · exact absurd (by have e0 : (-1 : Int32).toInt = -1 := (by decide); have e2 : (0 : Int32).toInt = 0 := (by decide); have e3 : (8 : Int32).toInt = 8 := (by decide); simp only [Int32.lt_iff_toInt_lt, Int32.le_iff_toInt_le, ← Int32.toInt_inj] at q1 q28 q29; omega) (id : ¬ False)
    · exact absurd (by have e0 : (-1 : Int32).toInt = -1 := (by decide); have e2 : (0 : Int32).toInt = 0 := (by decide); have e3 : (8 : Int32).toInt = 8 := (by decide); simp only [Int32.lt_iff_toInt_lt, Int32.le_iff_toInt_le, ← Int32.toInt_inj] at q1 q32 q33; omega) (id : ¬ False)
    · exact absurd (by have e0 : (-1 : Int32).toInt = -1 := (by decide); have e2 : (0 : Int32).toInt = 0 := (by decide); have e3 : (8 : Int32).toInt = 8 := (by decide); simp only [Int32.lt_iff_toInt_lt, Int32.le_iff_toInt_le, ← Int32.toInt_inj] at q1 q37 q38; omega) (id : ¬ False)
