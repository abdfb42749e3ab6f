set_option maxRecDepth 100000 in
set_option maxHeartbeats 4000000 in
theorem kx75_X4_mostStacked (l : Launch) (G : PG) (h0 : PH) (n : Nat) (hn : h0.length = n) (T : PH) : PMet l G yX4_mostStacked cX4_mostStacked 9 (some .int) 1 0 0 [vR (n + 89), vR (n + 22)] (h0 ++ (frC n ++ T)) (qI (fun x h' => x = 0 ∧ h' = h0 ++ (frC n ++ T))) := by
  refine PMet.intro (by decide) (Nat.le_of_ble_eq_true rfl) ?_
  intro p e s m args below meth c X hr hlk hnm
  refine r_iconst (v := 1) X dX4_mostStacked_0 (by decide +kernel) ?_
  refine r_aload_n X dX4_mostStacked_1 rfl ?_
  refine a_get (a := 22) X hn fg_X4_24 dX4_mostStacked_2 rfl rfl ?_
  refine r_bipush (v := 8) X dX4_mostStacked_5 (by decide +kernel) ?_
  refine r_min (v := 0) X ks_X4_34.1.1 dX4_mostStacked_7 rfl (by decide +kernel) ?_
  refine r_ishlE (v := 1) X dX4_mostStacked_10 (by decide +kernel) ?_
  refine r_istore_n X dX4_mostStacked_11 (by decide) ?_
  refine r_iconst (v := 0) X dX4_mostStacked_12 (by decide +kernel) ?_
  refine r_istore_n X dX4_mostStacked_13 (by decide) ?_
  refine r_aload_n X dX4_mostStacked_14 rfl ?_
  refine a_get (a := 89) X hn fg_X4_9 dX4_mostStacked_15 rfl rfl ?_
  refine r_iconst (v := 0) X dX4_mostStacked_18 (by decide +kernel) ?_
  refine r_iconst (v := 0) X dX4_mostStacked_19 (by decide +kernel) ?_
  refine a_iastE (a := 90) (f' := fun _ => 0) X hn dX4_mostStacked_20 rfl (inK (by decide +kernel)) (upd_c _ _) ?_
  refine r_eq (h' := h0 ++ (frC n ++ T)) rfl rfl rfl ?_
  refine r_iconst (v := 1) X dX4_mostStacked_21 (by decide +kernel) ?_
  refine r_istore X dX4_mostStacked_22 (by decide) ?_
  refine r_iload X dX4_mostStacked_24 rfl ?_
  refine r_iload_n X dX4_mostStacked_26 rfl ?_
  refine r_icmp_ge_t (tgt := 165) X dX4_mostStacked_27 rfl (by decide +kernel) ?_
  refine r_iload_n X dX4_mostStacked_165 rfl ?_
  exact r_ret_i X hr hlk dX4_mostStacked_166 (Nat.le_of_ble_eq_true rfl) (Nat.le_of_ble_eq_true rfl) ⟨_, rfl, ⟨rfl, rfl⟩⟩
set_option maxRecDepth 100000 in
set_option maxHeartbeats 4000000 in
theorem x_stack (l : Launch) (G : PG) (h0 : PH) (n : Nat) (hn : h0.length = n) (T : PH) : PMet l G yX11_stack cX11_stack 1 (some .int) 2 0 0 [vR (n + 0)] (h0 ++ (frC n ++ T)) (qI (fun x h' => x = sp_stack  ∧ kp n 103 T h')) := by
  refine PMet.intro (by decide) (Nat.le_of_ble_eq_true rfl) ?_
  intro p e s m args below meth c X hr hlk hnm
  refine r_aload_n X dX11_stack_0 rfl ?_
  refine a_get (a := 0) X hn fg_X11_54 dX11_stack_1 rfl rfl ?_
  refine r_aload_n X dX11_stack_4 rfl ?_
  refine a_get (a := 0) X hn fg_X11_12 dX11_stack_5 rfl rfl ?_
  refine a_get (a := 1) X hn fg_X11_246 dX11_stack_8 rfl rfl ?_
  refine r_iconst (v := 5) X dX11_stack_11 (by decide +kernel) ?_
  refine a_aald (a := 8) (v := vR (n + 22)) (C := RX9) X hn rfl dX11_stack_12 rfl (inK (by decide +kernel)) rfl ?_
  refine r_V1i X kv_X11_279 dX11_stack_13 (apG (k := 89) hn rfl) rfl (kx75_X4_mostStacked l G _ _ hn _) rfl (fun x h' hΨ => ?_)
  obtain ⟨rfl, rfl⟩ := hΨ
  exact r_ret_i X hr hlk dX11_stack_16 (Nat.le_of_ble_eq_true rfl) (Nat.le_of_ble_eq_true rfl) ⟨_, rfl, rfl, kp_of hn rfl rfl⟩
