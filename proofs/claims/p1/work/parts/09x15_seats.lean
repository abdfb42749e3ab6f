set_option maxRecDepth 100000 in
set_option maxHeartbeats 4000000 in
theorem x_seats (l : Launch) (G : PG) (h0 : PH) (n : Nat) (hn : h0.length = n) (T : PH) (a b c0 : Int32) : PMet l G yX11_seats cX11_seats 5 (some .int) 0 0 0 [vR (n + 0), vI a, vI b, vI c0] (h0 ++ (frC n ++ T)) (qI (fun x h' => x = sp_seats a b c0 ∧ kp n 103 T h')) := by
  refine PMet.intro (by decide) (Nat.le_of_ble_eq_true rfl) ?_
  intro p e s m args below meth c X hr hlk hnm
  refine r_aload_n X dX11_seats_0 rfl ?_
  refine a_get (a := 0) X hn fg_X11_12 dX11_seats_1 rfl rfl ?_
  refine a_get (a := 1) X hn fg_X11_246 dX11_seats_4 rfl rfl ?_
  refine r_iconst (v := 0) X dX11_seats_7 (by decide +kernel) ?_
  refine a_aald (a := 8) (v := vR (n + 12)) (C := RX9) X hn rfl dX11_seats_8 rfl (inK (by decide +kernel)) rfl ?_
  refine r_astore X dX11_seats_9 (by decide) ?_
  refine r_iload_n X dX11_seats_11 rfl ?_
  refine r_iconst (v := 1) X dX11_seats_12 (by decide +kernel) ?_
  refine r_icmp_lt (tgt := 44) X dX11_seats_13 rfl (fun q1 => ?_) (fun q1 => ?_)
  · refine r_iconst (v := -1) X dX11_seats_44 (by decide +kernel) ?_
    exact r_ret_i X hr hlk dX11_seats_45 (Nat.le_of_ble_eq_true rfl) (Nat.le_of_ble_eq_true rfl) ⟨_, rfl, rfl, kp_of hn rfl rfl⟩
  · refine r_iload_n X dX11_seats_16 rfl ?_
    refine r_bipush (v := 40) X dX11_seats_17 (by decide +kernel) ?_
    refine r_icmp_gt (tgt := 44) X dX11_seats_19 rfl (fun q2 => ?_) (fun q2 => ?_)
    · refine r_iconst (v := -1) X dX11_seats_44 (by decide +kernel) ?_
      exact r_ret_i X hr hlk dX11_seats_45 (Nat.le_of_ble_eq_true rfl) (Nat.le_of_ble_eq_true rfl) ⟨_, rfl, rfl, kp_of hn rfl rfl⟩
    · refine r_iload_n X dX11_seats_22 rfl ?_
      refine r_if_lt (tgt := 44) X dX11_seats_23 rfl (fun q3 => ?_) (fun q3 => ?_)
      · refine r_iconst (v := -1) X dX11_seats_44 (by decide +kernel) ?_
        exact r_ret_i X hr hlk dX11_seats_45 (Nat.le_of_ble_eq_true rfl) (Nat.le_of_ble_eq_true rfl) ⟨_, rfl, rfl, kp_of hn rfl rfl⟩
      · refine r_iload_n X dX11_seats_26 rfl ?_
        refine r_iconst (v := 1) X dX11_seats_27 (by decide +kernel) ?_
        refine r_icmp_gt (tgt := 44) X dX11_seats_28 rfl (fun q4 => ?_) (fun q4 => ?_)
        · refine r_iconst (v := -1) X dX11_seats_44 (by decide +kernel) ?_
          exact r_ret_i X hr hlk dX11_seats_45 (Nat.le_of_ble_eq_true rfl) (Nat.le_of_ble_eq_true rfl) ⟨_, rfl, rfl, kp_of hn rfl rfl⟩
        · refine r_iload_n X dX11_seats_31 rfl ?_
          refine r_if_lt (tgt := 44) X dX11_seats_32 rfl (fun q5 => ?_) (fun q5 => ?_)
          · refine r_iconst (v := -1) X dX11_seats_44 (by decide +kernel) ?_
            exact r_ret_i X hr hlk dX11_seats_45 (Nat.le_of_ble_eq_true rfl) (Nat.le_of_ble_eq_true rfl) ⟨_, rfl, rfl, kp_of hn rfl rfl⟩
          · refine r_iload_n X dX11_seats_35 rfl ?_
            refine r_aload X dX11_seats_36 rfl ?_
            refine a_get (a := 12) X hn fg_X11_250 dX11_seats_38 rfl rfl ?_
            refine r_icmp_lt_f (tgt := 46) X dX11_seats_41 rfl (by have e0 : (0 : Int32).toInt = 0 := (by decide); simp only [Int32.lt_iff_toInt_lt, Int32.le_iff_toInt_le, ← Int32.toInt_inj] at q5 ⊢; omega) ?_
            refine r_iconst (v := -1) X dX11_seats_44 (by decide +kernel) ?_
            exact r_ret_i X hr hlk dX11_seats_45 (Nat.le_of_ble_eq_true rfl) (Nat.le_of_ble_eq_true rfl) ⟨_, rfl, rfl, kp_of hn rfl rfl⟩
