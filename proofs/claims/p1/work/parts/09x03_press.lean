set_option maxRecDepth 100000 in
set_option maxHeartbeats 4000000 in
theorem kx21_X0_mayPress (l : Launch) (G : PG) (h0 : PH) (n : Nat) (hn : h0.length = n) (T : PH) (z0 : Int32) : PMet l G yX0_mayPress cX0_mayPress 2 (some .boolean) 1 0 0 [vR (n + 2), vI z0] (h0 ++ (frC n ++ T)) (qI (fun x h' => ((((z0)) < 0) ∧ x = 0 ∧ h' = h0 ++ (frC n ++ T)) ∨ ((¬ ((z0)) < 0) ∧ x = 0 ∧ h' = h0 ++ (frC n ++ T)))) := by
  refine PMet.intro (by decide) (Nat.le_of_ble_eq_true rfl) ?_
  intro p e s m args below meth c X hr hlk hnm
  refine r_aload_n X dX0_mayPress_0 rfl ?_
  refine r_iload_n X dX0_mayPress_1 rfl ?_
  refine r_V1i X kv_X0_49 dX0_mayPress_2 (apG (k := 2) hn rfl) rfl (kx19_X0_has l G _ _ hn _ _) rfl (fun x h' hΨ => ?_)
  rcases hΨ with ⟨q1, rfl, rfl⟩ | ⟨q2, rfl, rfl⟩
  · refine r_if_eq_t (tgt := 30) X dX0_mayPress_5 rfl (by decide +kernel) ?_
    refine r_iconst (v := 0) X dX0_mayPress_30 (by decide +kernel) ?_
    exact r_ret_z X hr hlk (Or.inl rfl) dX0_mayPress_31 (Nat.le_of_ble_eq_true rfl) (Nat.le_of_ble_eq_true rfl) ⟨_, rfl, Or.inl ⟨q1, rfl, rfl⟩⟩
  · refine r_if_eq_t (tgt := 30) X dX0_mayPress_5 rfl (by decide +kernel) ?_
    refine r_iconst (v := 0) X dX0_mayPress_30 (by decide +kernel) ?_
    exact r_ret_z X hr hlk (Or.inl rfl) dX0_mayPress_31 (Nat.le_of_ble_eq_true rfl) (Nat.le_of_ble_eq_true rfl) ⟨_, rfl, Or.inr (⟨q2, rfl, rfl⟩)⟩
set_option maxRecDepth 100000 in
set_option maxHeartbeats 4000000 in
theorem x_press (l : Launch) (G : PG) (h0 : PH) (n : Nat) (hn : h0.length = n) (T : PH) (a b : Int32) : PMet l G yX11_press cX11_press 3 (some .int) 2 0 0 [vR (n + 0), vI a, vI b] (h0 ++ (frC n ++ T)) (qI (fun x h' => x = sp_press a b ∧ kp n 103 T h')) := by
  refine PMet.intro (by decide) (Nat.le_of_ble_eq_true rfl) ?_
  intro p e s m args below meth c X hr hlk hnm
  refine r_aload_n X dX11_press_0 rfl ?_
  refine a_get (a := 0) X hn fg_X11_12 dX11_press_1 rfl rfl ?_
  refine a_get (a := 1) X hn fg_X11_67 dX11_press_4 rfl rfl ?_
  refine r_iload_n X dX11_press_7 rfl ?_
  refine r_V1i X kv_X11_113 dX11_press_8 (apG (k := 2) hn rfl) rfl (kx21_X0_mayPress l G _ _ hn _ _) rfl (fun x h' hΨ => ?_)
  rcases hΨ with ⟨q1, rfl, rfl⟩ | ⟨q2, rfl, rfl⟩
  · refine r_if_eq_t (tgt := 24) X dX11_press_11 rfl (by decide +kernel) ?_
    refine r_iconst (v := -1) X dX11_press_24 (by decide +kernel) ?_
    exact r_ret_i X hr hlk dX11_press_25 (Nat.le_of_ble_eq_true rfl) (Nat.le_of_ble_eq_true rfl) ⟨_, rfl, rfl, kp_of hn rfl rfl⟩
  · refine r_if_eq_t (tgt := 24) X dX11_press_11 rfl (by decide +kernel) ?_
    refine r_iconst (v := -1) X dX11_press_24 (by decide +kernel) ?_
    exact r_ret_i X hr hlk dX11_press_25 (Nat.le_of_ble_eq_true rfl) (Nat.le_of_ble_eq_true rfl) ⟨_, rfl, rfl, kp_of hn rfl rfl⟩
