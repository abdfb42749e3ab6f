set_option maxRecDepth 100000 in
set_option maxHeartbeats 4000000 in
theorem x_image0 (l : Launch) (G : PG) (h0 : PH) (n : Nat) (hn : h0.length = n) (T : PH) : PMet l G yX11_image cX11_image 2 (some .boolean) 0 0 0 [vR (n + 0), vI 0] (h0 ++ (frC n ++ T)) (qI (fun x h' => x = sp_image0  ∧ kp n 103 T h')) := by
  refine PMet.intro (by decide) (Nat.le_of_ble_eq_true rfl) ?_
  intro p e s m args below meth c X hr hlk hnm
  refine r_iload_n X dX11_image_0 rfl ?_
  refine r_if_eq_t (tgt := 22) X dX11_image_1 rfl (by decide +kernel) ?_
  refine r_aload_n X dX11_image_22 rfl ?_
  refine a_get (a := 0) X hn fg_X11_19 dX11_image_23 rfl rfl ?_
  refine r_if_eq_t (tgt := 47) X dX11_image_26 rfl (by decide +kernel) ?_
  refine r_aload_n X dX11_image_47 rfl ?_
  refine a_get (a := 0) X hn fg_X11_19 dX11_image_48 rfl rfl ?_
  exact r_ret_z X hr hlk (Or.inl rfl) dX11_image_51 (Nat.le_of_ble_eq_true rfl) (Nat.le_of_ble_eq_true rfl) ⟨_, rfl, rfl, kp_of hn rfl rfl⟩
