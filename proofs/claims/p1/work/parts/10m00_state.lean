set_option maxRecDepth 100000 in
set_option maxHeartbeats 4000000 in
theorem m_state (l : Launch) (G : PG) (h0 : PH) (n : Nat) (hn : h0.length = n) (wf : Nat → Int32) (v : Int32) : PMet l G yX12_state cX12_state 3 (some .int) 0 0 0 [vR (n + 0), vI v] (h0 ++ (frM n wf)) (qI (fun x h' => x = sp_state v)) := by
  refine PMet.intro (by decide) (Nat.le_of_ble_eq_true rfl) ?_
  intro p e s m args below meth c X hr hlk hnm
  refine r_aload_n X dX12_state_0 rfl ?_
  refine r_iconst (v := 0) X dX12_state_1 (by decide +kernel) ?_
  refine a_put (a := 0) X hn fp_X12_140 dX12_state_2 rfl rfl rfl rfl ?_
  refine r_eq (h' := h0 ++ (frM n wf)) rfl rfl rfl ?_
  refine r_aload_n X dX12_state_5 rfl ?_
  refine a_get (a := 0) X hn fg_X12_7 dX12_state_6 rfl rfl ?_
  refine r_iconst (v := 2) X dX12_state_9 (by decide +kernel) ?_
  refine a_iald (a := 1) (v := 0) X hn dX12_state_10 rfl (inK (by decide +kernel)) (by rfl) ?_
  refine r_istore_n X dX12_state_11 (by decide) ?_
  refine r_aload_n X dX12_state_12 rfl ?_
  refine a_get (a := 0) X hn fg_X12_7 dX12_state_13 rfl rfl ?_
  refine r_iconst (v := 2) X dX12_state_16 (by decide +kernel) ?_
  refine r_iload_n X dX12_state_17 rfl ?_
  refine a_iastE (a := 1) (f' := nw 0 0 v 0 0 0 0) X hn dX12_state_18 rfl (inK (by decide +kernel)) (nw_u2) ?_
  refine r_aload_n X dX12_state_19 rfl ?_
  refine r_iconst (v := 0) X dX12_state_20 (by decide +kernel) ?_
  refine a_put (a := 0) X hn fp_X12_143 dX12_state_21 rfl rfl rfl rfl ?_
  refine r_eq (h' := h0 ++ ((frM n wf).set 1 (eI 499 (nw 0 0 v 0 0 0 0)))) rfl rfl rfl ?_
  refine r_iload_n X dX12_state_24 rfl ?_
  exact r_ret_i X hr hlk dX12_state_25 (Nat.le_of_ble_eq_true rfl) (Nat.le_of_ble_eq_true rfl) ⟨_, rfl, rfl⟩
