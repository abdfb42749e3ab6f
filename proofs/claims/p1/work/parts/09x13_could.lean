set_option maxRecDepth 100000 in
set_option maxHeartbeats 4000000 in
theorem x_could (l : Launch) (G : PG) (h0 : PH) (n : Nat) (hn : h0.length = n) (T : PH) (a : Int32) : PMet l G yX11_could cX11_could 2 (some .int) 1 0 0 [vR (n + 0), vI a] (h0 ++ (frC n ++ T)) (qI (fun x h' => x = sp_could a ∧ kp n 103 T h')) := by
  refine PMet.intro (by decide) (Nat.le_of_ble_eq_true rfl) ?_
  intro p e s m args below meth c X hr hlk hnm
  refine r_aload_n X dX11_could_0 rfl ?_
  refine a_get (a := 0) X hn fg_X11_12 dX11_could_1 rfl rfl ?_
  refine a_get (a := 1) X hn fg_X11_67 dX11_could_4 rfl rfl ?_
  refine r_iload_n X dX11_could_7 rfl ?_
  refine r_V1i X kv_X11_109 dX11_could_8 (apG (k := 2) hn rfl) rfl (kx19_X0_has l G _ _ hn _ _) rfl (fun x h' hΨ => ?_)
  rcases hΨ with ⟨q1, rfl, rfl⟩ | ⟨q2, rfl, rfl⟩
  · refine r_if_eq_t (tgt := 25) X dX11_could_11 rfl (by decide +kernel) ?_
    refine r_iconst (v := -1) X dX11_could_25 (by decide +kernel) ?_
    exact r_ret_i X hr hlk dX11_could_26 (Nat.le_of_ble_eq_true rfl) (Nat.le_of_ble_eq_true rfl) ⟨_, rfl, rfl, kp_of hn rfl rfl⟩
  · refine r_if_eq_t (tgt := 25) X dX11_could_11 rfl (by decide +kernel) ?_
    refine r_iconst (v := -1) X dX11_could_25 (by decide +kernel) ?_
    exact r_ret_i X hr hlk dX11_could_26 (Nat.le_of_ble_eq_true rfl) (Nat.le_of_ble_eq_true rfl) ⟨_, rfl, rfl, kp_of hn rfl rfl⟩
