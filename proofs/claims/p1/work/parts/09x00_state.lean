set_option maxRecDepth 100000 in
set_option maxHeartbeats 4000000 in
theorem kx1_X7_forget (l : Launch) (G : PG) (h0 : PH) (n : Nat) (hn : h0.length = n) (T : PH) (v : Int32) : PMet l G yX7_forget cX7_forget 1 none 0 0 0 [vR (n + 59)] (h0 ++ ((frC n ++ T).set 2 (eO 0 [vR (n + 3), vR (n + 4), vI 0, vI 0, vI 0, vI 0, vI 0, vI 0, vI v, vI 0]))) (qV (fun h' => h' = h0 ++ ((frC n ++ T).set 2 (eO 0 [vR (n + 3), vR (n + 4), vI 0, vI 0, vI 0, vI 0, vI 0, vI 0, vI v, vI 0])))) := by
  refine PMet.intro (by decide) (Nat.le_of_ble_eq_true rfl) ?_
  intro p e s m args below meth c X hr hlk hnm
  refine r_aload_n X dX7_forget_0 rfl ?_
  refine r_iconst (v := 0) X dX7_forget_1 (by decide +kernel) ?_
  refine a_put (a := 59) X hn fp_X7_21 dX7_forget_2 rfl rfl rfl rfl ?_
  refine r_eq (h' := h0 ++ ((frC n ++ T).set 2 (eO 0 [vR (n + 3), vR (n + 4), vI 0, vI 0, vI 0, vI 0, vI 0, vI 0, vI v, vI 0]))) rfl rfl rfl ?_
  exact r_ret_v X hr hlk dX7_forget_5 (Nat.le_of_ble_eq_true rfl) (Nat.le_of_ble_eq_true rfl) ⟨rfl, rfl⟩
set_option maxRecDepth 100000 in
set_option maxHeartbeats 4000000 in
theorem x_state (l : Launch) (G : PG) (h0 : PH) (n : Nat) (hn : h0.length = n) (T : PH) (v : Int32) : PMet l G yX11_state cX11_state 3 (some .int) 1 0 0 [vR (n + 0), vI v] (h0 ++ (frC n ++ T)) (qI (fun x h' => x = sp_state v ∧ kp n 103 T h')) := by
  refine PMet.intro (by decide) (Nat.le_of_ble_eq_true rfl) ?_
  intro p e s m args below meth c X hr hlk hnm
  refine r_aload_n X dX11_state_0 rfl ?_
  refine a_get (a := 0) X hn fg_X11_12 dX11_state_1 rfl rfl ?_
  refine a_get (a := 1) X hn fg_X11_67 dX11_state_4 rfl rfl ?_
  refine a_get (a := 2) X hn fg_X11_88 dX11_state_7 rfl rfl ?_
  refine r_istore_n X dX11_state_10 (by decide) ?_
  refine r_aload_n X dX11_state_11 rfl ?_
  refine a_get (a := 0) X hn fg_X11_12 dX11_state_12 rfl rfl ?_
  refine a_get (a := 1) X hn fg_X11_67 dX11_state_15 rfl rfl ?_
  refine r_iload_n X dX11_state_18 rfl ?_
  refine a_put (a := 2) X hn fp_X11_88 dX11_state_19 rfl rfl rfl rfl ?_
  refine r_aload_n X dX11_state_22 rfl ?_
  refine a_get (a := 0) X hn fg_X11_26 dX11_state_23 rfl rfl ?_
  refine r_V0v X kv_X11_92 dX11_state_26 (apG (k := 59) hn rfl) rfl (kx1_X7_forget l G _ _ hn _ _) rfl (fun h' hΨ => ?_)
  obtain rfl := hΨ
  refine r_iload_n X dX11_state_29 rfl ?_
  exact r_ret_i X hr hlk dX11_state_30 (Nat.le_of_ble_eq_true rfl) (Nat.le_of_ble_eq_true rfl) ⟨_, rfl, rfl, kp_of hn rfl rfl⟩
