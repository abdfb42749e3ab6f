set_option maxRecDepth 100000 in
set_option maxHeartbeats 4000000 in
theorem kx19_X0_has (l : Launch) (G : PG) (h0 : PH) (n : Nat) (hn : h0.length = n) (T : PH) (z0 : Int32) : PMet l G yX0_has cX0_has 2 (some .boolean) 0 0 0 [vR (n + 2), vI z0] (h0 ++ (frC n ++ T)) (qI (fun x h' => ((z0 < 0) ∧ x = 0 ∧ h' = h0 ++ (frC n ++ T)) ∨ ((¬ z0 < 0) ∧ x = 0 ∧ h' = h0 ++ (frC n ++ T)))) := by
  refine PMet.intro (by decide) (Nat.le_of_ble_eq_true rfl) ?_
  intro p e s m args below meth c X hr hlk hnm
  refine r_iload_n X dX0_has_0 rfl ?_
  refine r_if_lt (tgt := 22) X dX0_has_1 rfl (fun q1 => ?_) (fun q1 => ?_)
  · refine r_iconst (v := 0) X dX0_has_22 (by decide +kernel) ?_
    exact r_ret_z X hr hlk (Or.inl rfl) dX0_has_23 (Nat.le_of_ble_eq_true rfl) (Nat.le_of_ble_eq_true rfl) ⟨_, rfl, Or.inl ⟨q1, rfl, rfl⟩⟩
  · refine r_iload_n X dX0_has_4 rfl ?_
    refine r_aload_n X dX0_has_5 rfl ?_
    refine a_get (a := 2) X hn fg_X0_18 dX0_has_6 rfl rfl ?_
    refine r_icmp_ge_t (tgt := 22) X dX0_has_9 rfl (by have e0 : (0 : Int32).toInt = 0 := (by decide); simp only [Int32.lt_iff_toInt_lt, Int32.le_iff_toInt_le, ← Int32.toInt_inj] at q1 ⊢; omega) ?_
    refine r_iconst (v := 0) X dX0_has_22 (by decide +kernel) ?_
    exact r_ret_z X hr hlk (Or.inl rfl) dX0_has_23 (Nat.le_of_ble_eq_true rfl) (Nat.le_of_ble_eq_true rfl) ⟨_, rfl, Or.inr (⟨q1, rfl, rfl⟩)⟩
set_option maxRecDepth 100000 in
set_option maxHeartbeats 4000000 in
theorem kx20_X7_forget (l : Launch) (G : PG) (h0 : PH) (n : Nat) (hn : h0.length = n) (T : PH) (c0 : Int32) : PMet l G yX7_forget cX7_forget 1 none 0 0 0 [vR (n + 59)] (h0 ++ ((frC n ++ T).set 2 (eO 0 [vR (n + 3), vR (n + 4), vI 0, vI c0, vI 0, vI 0, vI 0, vI 0, vI 0, vI 0]))) (qV (fun h' => h' = h0 ++ ((frC n ++ T).set 2 (eO 0 [vR (n + 3), vR (n + 4), vI 0, vI c0, vI 0, vI 0, vI 0, vI 0, vI 0, vI 0])))) := by
  refine PMet.intro (by decide) (Nat.le_of_ble_eq_true rfl) ?_
  intro p e s m args below meth c X hr hlk hnm
  refine r_aload_n X dX7_forget_0 rfl ?_
  refine r_iconst (v := 0) X dX7_forget_1 (by decide +kernel) ?_
  refine a_put (a := 59) X hn fp_X7_21 dX7_forget_2 rfl rfl rfl rfl ?_
  refine r_eq (h' := h0 ++ ((frC n ++ T).set 2 (eO 0 [vR (n + 3), vR (n + 4), vI 0, vI c0, vI 0, vI 0, vI 0, vI 0, vI 0, vI 0]))) rfl rfl rfl ?_
  exact r_ret_v X hr hlk dX7_forget_5 (Nat.le_of_ble_eq_true rfl) (Nat.le_of_ble_eq_true rfl) ⟨rfl, rfl⟩
set_option maxRecDepth 100000 in
set_option maxHeartbeats 4000000 in
theorem x_set (l : Launch) (G : PG) (h0 : PH) (n : Nat) (hn : h0.length = n) (T : PH) (a b c0 : Int32) : PMet l G yX11_set cX11_set 4 (some .boolean) 1 0 0 [vR (n + 0), vI a, vI b, vI c0] (h0 ++ (frC n ++ T)) (qI (fun x h' => x = sp_set a b c0 ∧ kp n 103 T h')) := by
  refine PMet.intro (by decide) (Nat.le_of_ble_eq_true rfl) ?_
  intro p e s m args below meth c X hr hlk hnm
  refine r_iload_n X dX11_set_0 rfl ?_
  refine r_iconst (v := 4) X dX11_set_1 (by decide +kernel) ?_
  refine r_icmp_ne (tgt := 31) X dX11_set_2 rfl (fun q1 => ?_) (fun q1 => ?_)
  · refine r_aload_n X dX11_set_31 rfl ?_
    refine a_get (a := 0) X hn fg_X11_12 dX11_set_32 rfl rfl ?_
    refine a_get (a := 1) X hn fg_X11_67 dX11_set_35 rfl rfl ?_
    refine r_iload_n X dX11_set_38 rfl ?_
    refine r_V1i X kv_X11_109 dX11_set_39 (apG (k := 2) hn rfl) rfl (kx19_X0_has l G _ _ hn _ _) rfl (fun x h' hΨ => ?_)
    rcases hΨ with ⟨q2, rfl, rfl⟩ | ⟨q3, rfl, rfl⟩
    · refine r_if_eq_t (tgt := 53) X dX11_set_42 rfl (by decide +kernel) ?_
      refine r_iconst (v := 0) X dX11_set_53 (by decide +kernel) ?_
      exact r_ret_z X hr hlk (Or.inl rfl) dX11_set_54 (Nat.le_of_ble_eq_true rfl) (Nat.le_of_ble_eq_true rfl) ⟨_, rfl, by unfold sp_set; (repeat' split) <;> first | rfl | (exfalso; have e0 : (0 : Int32).toInt = 0 := (by decide); have e1 : (1 : Int32).toInt = 1 := (by decide); have e2 : (4 : Int32).toInt = 4 := (by decide); have e3 : (9 : Int32).toInt = 9 := (by decide); simp only [inR, Int32.lt_iff_toInt_lt, Int32.le_iff_toInt_le, ← Int32.toInt_inj, true_or, or_true, not_true_eq_false, and_true, true_and, false_or, or_false, false_and, and_false, not_false_eq_true] at * <;> omega), kp_of hn rfl rfl⟩
    · refine r_if_eq_t (tgt := 53) X dX11_set_42 rfl (by decide +kernel) ?_
      refine r_iconst (v := 0) X dX11_set_53 (by decide +kernel) ?_
      exact r_ret_z X hr hlk (Or.inl rfl) dX11_set_54 (Nat.le_of_ble_eq_true rfl) (Nat.le_of_ble_eq_true rfl) ⟨_, rfl, by unfold sp_set; (repeat' split) <;> first | rfl | (exfalso; have e0 : (0 : Int32).toInt = 0 := (by decide); have e1 : (1 : Int32).toInt = 1 := (by decide); have e2 : (4 : Int32).toInt = 4 := (by decide); have e3 : (9 : Int32).toInt = 9 := (by decide); simp only [inR, Int32.lt_iff_toInt_lt, Int32.le_iff_toInt_le, ← Int32.toInt_inj, true_or, or_true, not_true_eq_false, and_true, true_and, false_or, or_false, false_and, and_false, not_false_eq_true] at * <;> omega), kp_of hn rfl rfl⟩
  · refine r_iload_n X dX11_set_5 rfl ?_
    refine r_if_lt (tgt := 15) X dX11_set_6 rfl (fun q4 => ?_) (fun q4 => ?_)
    · refine r_iconst (v := 0) X dX11_set_15 (by decide +kernel) ?_
      exact r_ret_z X hr hlk (Or.inl rfl) dX11_set_16 (Nat.le_of_ble_eq_true rfl) (Nat.le_of_ble_eq_true rfl) ⟨_, rfl, by unfold sp_set; (repeat' split) <;> first | rfl | (exfalso; have e0 : (0 : Int32).toInt = 0 := (by decide); have e1 : (1 : Int32).toInt = 1 := (by decide); have e2 : (4 : Int32).toInt = 4 := (by decide); have e3 : (9 : Int32).toInt = 9 := (by decide); simp only [inR, Int32.lt_iff_toInt_lt, Int32.le_iff_toInt_le, ← Int32.toInt_inj, true_or, or_true, not_true_eq_false, and_true, true_and, false_or, or_false, false_and, and_false, not_false_eq_true] at * <;> omega), kp_of hn rfl rfl⟩
    · refine r_iload_n X dX11_set_9 rfl ?_
      refine r_bipush (v := 9) X dX11_set_10 (by decide +kernel) ?_
      refine r_icmp_le (tgt := 17) X dX11_set_12 rfl (fun q5 => ?_) (fun q5 => ?_)
      · refine r_aload_n X dX11_set_17 rfl ?_
        refine a_get (a := 0) X hn fg_X11_12 dX11_set_18 rfl rfl ?_
        refine a_get (a := 1) X hn fg_X11_67 dX11_set_21 rfl rfl ?_
        refine r_iload_n X dX11_set_24 rfl ?_
        refine a_put (a := 2) X hn fp_X11_106 dX11_set_25 rfl rfl rfl rfl ?_
        refine r_goto (tgt := 68) X dX11_set_28 rfl ?_
        refine r_aload_n X dX11_set_68 rfl ?_
        refine a_get (a := 0) X hn fg_X11_26 dX11_set_69 rfl rfl ?_
        refine r_V0v X kv_X11_92 dX11_set_72 (apG (k := 59) hn rfl) rfl (kx20_X7_forget l G _ _ hn _ _) rfl (fun h' hΨ => ?_)
        obtain rfl := hΨ
        refine r_iconst (v := 1) X dX11_set_75 (by decide +kernel) ?_
        exact r_ret_z X hr hlk (Or.inr rfl) dX11_set_76 (Nat.le_of_ble_eq_true rfl) (Nat.le_of_ble_eq_true rfl) ⟨_, rfl, by unfold sp_set; (repeat' split) <;> first | rfl | (exfalso; have e0 : (0 : Int32).toInt = 0 := (by decide); have e1 : (1 : Int32).toInt = 1 := (by decide); have e2 : (4 : Int32).toInt = 4 := (by decide); have e3 : (9 : Int32).toInt = 9 := (by decide); simp only [inR, Int32.lt_iff_toInt_lt, Int32.le_iff_toInt_le, ← Int32.toInt_inj, true_or, or_true, not_true_eq_false, and_true, true_and, false_or, or_false, false_and, and_false, not_false_eq_true] at * <;> omega), kp_of hn rfl rfl⟩
      · refine r_iconst (v := 0) X dX11_set_15 (by decide +kernel) ?_
        exact r_ret_z X hr hlk (Or.inl rfl) dX11_set_16 (Nat.le_of_ble_eq_true rfl) (Nat.le_of_ble_eq_true rfl) ⟨_, rfl, by unfold sp_set; (repeat' split) <;> first | rfl | (exfalso; have e0 : (0 : Int32).toInt = 0 := (by decide); have e1 : (1 : Int32).toInt = 1 := (by decide); have e2 : (4 : Int32).toInt = 4 := (by decide); have e3 : (9 : Int32).toInt = 9 := (by decide); simp only [inR, Int32.lt_iff_toInt_lt, Int32.le_iff_toInt_le, ← Int32.toInt_inj, true_or, or_true, not_true_eq_false, and_true, true_and, false_or, or_false, false_and, and_false, not_false_eq_true] at * <;> omega), kp_of hn rfl rfl⟩
