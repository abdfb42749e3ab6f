set_option maxRecDepth 100000 in
set_option maxHeartbeats 4000000 in
theorem kx93_X7_goBack (l : Launch) (G : PG) (h0 : PH) (n : Nat) (hn : h0.length = n) (T : PH) : PMet l G yX7_goBack cX7_goBack 2 (some .boolean) 0 0 0 [vR (n + 59), vR (n + 2)] (h0 ++ (frC n ++ T)) (qI (fun x h' => x = 0 ∧ h' = h0 ++ (frC n ++ T))) := by
  refine PMet.intro (by decide) (Nat.le_of_ble_eq_true rfl) ?_
  intro p e s m args below meth c X hr hlk hnm
  refine r_aload_n X dX7_goBack_0 rfl ?_
  refine a_get (a := 59) X hn fg_X7_21 dX7_goBack_1 rfl rfl ?_
  refine r_if_eq_t (tgt := 23) X dX7_goBack_4 rfl (by decide +kernel) ?_
  refine r_iconst (v := 0) X dX7_goBack_23 (by decide +kernel) ?_
  exact r_ret_z X hr hlk (Or.inl rfl) dX7_goBack_24 (Nat.le_of_ble_eq_true rfl) (Nat.le_of_ble_eq_true rfl) ⟨_, rfl, ⟨rfl, rfl⟩⟩
set_option maxRecDepth 100000 in
set_option maxHeartbeats 4000000 in
theorem x_undo (l : Launch) (G : PG) (h0 : PH) (n : Nat) (hn : h0.length = n) (T : PH) : PMet l G yX11_undo cX11_undo 1 (some .boolean) 1 0 0 [vR (n + 0)] (h0 ++ (frC n ++ T)) (qI (fun x h' => x = sp_undo  ∧ kp n 103 T h')) := by
  refine PMet.intro (by decide) (Nat.le_of_ble_eq_true rfl) ?_
  intro p e s m args below meth c X hr hlk hnm
  refine r_aload_n X dX11_undo_0 rfl ?_
  refine a_get (a := 0) X hn fg_X11_26 dX11_undo_1 rfl rfl ?_
  refine r_aload_n X dX11_undo_4 rfl ?_
  refine a_get (a := 0) X hn fg_X11_12 dX11_undo_5 rfl rfl ?_
  refine a_get (a := 1) X hn fg_X11_67 dX11_undo_8 rfl rfl ?_
  refine r_V1i X kv_X11_304 dX11_undo_11 (apG (k := 59) hn rfl) rfl (kx93_X7_goBack l G _ _ hn _) rfl (fun x h' hΨ => ?_)
  obtain ⟨rfl, rfl⟩ := hΨ
  exact r_ret_z X hr hlk (Or.inl rfl) dX11_undo_14 (Nat.le_of_ble_eq_true rfl) (Nat.le_of_ble_eq_true rfl) ⟨_, rfl, rfl, kp_of hn rfl rfl⟩
