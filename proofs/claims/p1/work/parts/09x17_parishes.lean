set_option maxRecDepth 100000 in
set_option maxHeartbeats 4000000 in
theorem x_parishes (l : Launch) (G : PG) (h0 : PH) (n : Nat) (hn : h0.length = n) (T : PH) (a b : Int32) : PMet l G yX11_parishes cX11_parishes 4 (some .int) 0 0 0 [vR (n + 0), vI a, vI b] (h0 ++ (frC n ++ T)) (qI (fun x h' => x = sp_parishes a b ∧ kp n 103 T h')) := by
  refine PMet.intro (by decide) (Nat.le_of_ble_eq_true rfl) ?_
  intro p e s m args below meth c X hr hlk hnm
  refine r_aload_n X dX11_parishes_0 rfl ?_
  refine a_get (a := 0) X hn fg_X11_12 dX11_parishes_1 rfl rfl ?_
  refine a_get (a := 1) X hn fg_X11_246 dX11_parishes_4 rfl rfl ?_
  refine r_iconst (v := 1) X dX11_parishes_7 (by decide +kernel) ?_
  refine a_aald (a := 8) (v := vR (n + 14)) (C := RX9) X hn rfl dX11_parishes_8 rfl (inK (by decide +kernel)) rfl ?_
  refine r_astore_n X dX11_parishes_9 (by decide) ?_
  refine r_iload_n X dX11_parishes_10 rfl ?_
  refine r_iconst (v := 1) X dX11_parishes_11 (by decide +kernel) ?_
  refine r_icmp_lt (tgt := 38) X dX11_parishes_12 rfl (fun q1 => ?_) (fun q1 => ?_)
  · refine r_iconst (v := -1) X dX11_parishes_38 (by decide +kernel) ?_
    exact r_ret_i X hr hlk dX11_parishes_39 (Nat.le_of_ble_eq_true rfl) (Nat.le_of_ble_eq_true rfl) ⟨_, rfl, rfl, kp_of hn rfl rfl⟩
  · refine r_iload_n X dX11_parishes_15 rfl ?_
    refine r_bipush (v := 8) X dX11_parishes_16 (by decide +kernel) ?_
    refine r_icmp_gt (tgt := 38) X dX11_parishes_18 rfl (fun q2 => ?_) (fun q2 => ?_)
    · refine r_iconst (v := -1) X dX11_parishes_38 (by decide +kernel) ?_
      exact r_ret_i X hr hlk dX11_parishes_39 (Nat.le_of_ble_eq_true rfl) (Nat.le_of_ble_eq_true rfl) ⟨_, rfl, rfl, kp_of hn rfl rfl⟩
    · refine r_iload_n X dX11_parishes_21 rfl ?_
      refine r_aload_n X dX11_parishes_22 rfl ?_
      refine a_get (a := 14) X hn fg_X11_250 dX11_parishes_23 rfl rfl ?_
      refine r_icmp_gt_t (tgt := 38) X dX11_parishes_26 rfl (by have e0 : (0 : Int32).toInt = 0 := (by decide); have e1 : (1 : Int32).toInt = 1 := (by decide); have e2 : (8 : Int32).toInt = 8 := (by decide); simp only [Int32.lt_iff_toInt_lt, Int32.le_iff_toInt_le, ← Int32.toInt_inj] at q1 q2 ⊢; omega) ?_
      refine r_iconst (v := -1) X dX11_parishes_38 (by decide +kernel) ?_
      exact r_ret_i X hr hlk dX11_parishes_39 (Nat.le_of_ble_eq_true rfl) (Nat.le_of_ble_eq_true rfl) ⟨_, rfl, rfl, kp_of hn rfl rfl⟩
