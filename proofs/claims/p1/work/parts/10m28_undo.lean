set_option maxRecDepth 100000 in
set_option maxHeartbeats 4000000 in
theorem m_undo (l : Launch) (G : PG) (h0 : PH) (n : Nat) (hn : h0.length = n) (wf : Nat → Int32) : PMet l G yX12_undo cX12_undo 2 (some .boolean) 0 0 0 [vR (n + 0)] (h0 ++ (frM n wf)) (qI (fun x h' => x = sp_undo )) := by
  refine PMet.intro (by decide) (Nat.le_of_ble_eq_true rfl) ?_
  intro p e s m args below meth c X hr hlk hnm
  refine r_aload_n X dX12_undo_0 rfl ?_
  refine r_iconst (v := 0) X dX12_undo_1 (by decide +kernel) ?_
  refine a_put (a := 0) X hn fp_X12_140 dX12_undo_2 rfl rfl rfl rfl ?_
  refine r_eq (h' := h0 ++ (frM n wf)) rfl rfl rfl ?_
  refine r_aload_n X dX12_undo_5 rfl ?_
  refine a_get (a := 0) X hn fg_X12_143 dX12_undo_6 rfl rfl ?_
  refine r_if_ne_f (tgt := 14) X dX12_undo_9 rfl (by decide +kernel) ?_
  refine r_iconst (v := 0) X dX12_undo_12 (by decide +kernel) ?_
  exact r_ret_z X hr hlk (Or.inl rfl) dX12_undo_13 (Nat.le_of_ble_eq_true rfl) (Nat.le_of_ble_eq_true rfl) ⟨_, rfl, rfl⟩
