set_option maxRecDepth 100000 in
set_option maxHeartbeats 4000000 in
theorem m_press (l : Launch) (G : PG) (h0 : PH) (n : Nat) (hn : h0.length = n) (wf : Nat → Int32) (a b : Int32) : PMet l G yX12_press cX12_press 3 (some .int) 1 0 0 [vR (n + 0), vI a, vI b] (h0 ++ (frM n wf)) (qI (fun x h' => x = sp_press a b)) := by
  refine PMet.intro (by decide) (Nat.le_of_ble_eq_true rfl) ?_
  intro p e s m args below meth c X hr hlk hnm
  refine r_aload_n X dX12_press_0 rfl ?_
  refine r_iconst (v := 0) X dX12_press_1 (by decide +kernel) ?_
  refine a_put (a := 0) X hn fp_X12_140 dX12_press_2 rfl rfl rfl rfl ?_
  refine r_eq (h' := h0 ++ (frM n wf)) rfl rfl rfl ?_
  refine r_aload_n X dX12_press_5 rfl ?_
  refine r_iload_n X dX12_press_6 rfl ?_
  refine r_V1i X kv_X12_159 dX12_press_7 (apG (k := 0) hn rfl) rfl (km6_X12_isVoter l G _ _ hn _ _) rfl (fun x h' hΨ => ?_)
  rcases hΨ with ⟨q1, rfl, rfl⟩ | ⟨q2, rfl, rfl⟩
  · refine r_if_eq_t (tgt := 32) X dX12_press_10 rfl (by decide +kernel) ?_
    refine r_iconst (v := -1) X dX12_press_32 (by decide +kernel) ?_
    exact r_ret_i X hr hlk dX12_press_33 (Nat.le_of_ble_eq_true rfl) (Nat.le_of_ble_eq_true rfl) ⟨_, rfl, rfl⟩
  · refine r_if_eq_t (tgt := 32) X dX12_press_10 rfl (by decide +kernel) ?_
    refine r_iconst (v := -1) X dX12_press_32 (by decide +kernel) ?_
    exact r_ret_i X hr hlk dX12_press_33 (Nat.le_of_ble_eq_true rfl) (Nat.le_of_ble_eq_true rfl) ⟨_, rfl, rfl⟩
