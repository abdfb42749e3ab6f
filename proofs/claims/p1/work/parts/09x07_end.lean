set_option maxRecDepth 100000 in
set_option maxHeartbeats 4000000 in
theorem x_end (l : Launch) (G : PG) (h0 : PH) (n : Nat) (hn : h0.length = n) (T : PH) (a : Int32) : PMet l G yX11_end cX11_end 2 (some .boolean) 0 0 0 [vR (n + 0), vI a] (h0 ++ (frC n ++ T)) (qI (fun x h' => x = sp_end a ∧ kp n 103 T h')) := by
  refine PMet.intro (by decide) (Nat.le_of_ble_eq_true rfl) ?_
  intro p e s m args below meth c X hr hlk hnm
  refine r_iload_n X dX11_end_0 rfl ?_
  refine r_if_lt (tgt := 15) X dX11_end_1 rfl (fun q1 => ?_) (fun q1 => ?_)
  · refine r_iconst (v := 0) X dX11_end_15 (by decide +kernel) ?_
    exact r_ret_z X hr hlk (Or.inl rfl) dX11_end_16 (Nat.le_of_ble_eq_true rfl) (Nat.le_of_ble_eq_true rfl) ⟨_, rfl, by unfold sp_end; (repeat' split) <;> first | rfl | (exfalso; have e0 : (0 : Int32).toInt = 0 := (by decide); have e1 : (1 : Int32).toInt = 1 := (by decide); simp only [inR, Int32.lt_iff_toInt_lt, Int32.le_iff_toInt_le, ← Int32.toInt_inj, true_or, or_true, not_true_eq_false, and_true, true_and, false_or, or_false, false_and, and_false, not_false_eq_true] at * <;> omega), kp_of hn rfl rfl⟩
  · refine r_iload_n X dX11_end_4 rfl ?_
    refine r_aload_n X dX11_end_5 rfl ?_
    refine a_get (a := 0) X hn fg_X11_33 dX11_end_6 rfl rfl ?_
    refine a_get (a := 79) X hn fg_X11_147 dX11_end_9 rfl rfl ?_
    refine r_icmp_le (tgt := 17) X dX11_end_12 rfl (fun q2 => ?_) (fun q2 => ?_)
    · refine r_aload_n X dX11_end_17 rfl ?_
      refine a_get (a := 0) X hn fg_X11_33 dX11_end_18 rfl rfl ?_
      refine r_iload_n X dX11_end_21 rfl ?_
      refine a_put (a := 79) X hn fp_X11_147 dX11_end_22 rfl rfl rfl rfl ?_
      refine r_iconst (v := 1) X dX11_end_25 (by decide +kernel) ?_
      exact r_ret_z X hr hlk (Or.inr rfl) dX11_end_26 (Nat.le_of_ble_eq_true rfl) (Nat.le_of_ble_eq_true rfl) ⟨_, rfl, by unfold sp_end; (repeat' split) <;> first | rfl | (exfalso; have e0 : (0 : Int32).toInt = 0 := (by decide); have e1 : (1 : Int32).toInt = 1 := (by decide); simp only [inR, Int32.lt_iff_toInt_lt, Int32.le_iff_toInt_le, ← Int32.toInt_inj, true_or, or_true, not_true_eq_false, and_true, true_and, false_or, or_false, false_and, and_false, not_false_eq_true] at * <;> omega), kp_of hn rfl rfl⟩
    · refine r_iconst (v := 0) X dX11_end_15 (by decide +kernel) ?_
      exact r_ret_z X hr hlk (Or.inl rfl) dX11_end_16 (Nat.le_of_ble_eq_true rfl) (Nat.le_of_ble_eq_true rfl) ⟨_, rfl, by unfold sp_end; (repeat' split) <;> first | rfl | (exfalso; have e0 : (0 : Int32).toInt = 0 := (by decide); have e1 : (1 : Int32).toInt = 1 := (by decide); simp only [inR, Int32.lt_iff_toInt_lt, Int32.le_iff_toInt_le, ← Int32.toInt_inj, true_or, or_true, not_true_eq_false, and_true, true_and, false_or, or_false, false_and, and_false, not_false_eq_true] at * <;> omega), kp_of hn rfl rfl⟩
