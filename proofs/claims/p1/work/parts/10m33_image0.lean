set_option maxRecDepth 100000 in
set_option maxHeartbeats 4000000 in
theorem m_image0 (l : Launch) (G : PG) (h0 : PH) (n : Nat) (hn : h0.length = n) (wf : Nat → Int32) : PMet l G yX12_image cX12_image 3 (some .boolean) 0 0 0 [vR (n + 0), vI 0] (h0 ++ (frM n wf)) (qI (fun x h' => x = sp_image0 )) := by
  refine PMet.intro (by decide) (Nat.le_of_ble_eq_true rfl) ?_
  intro p e s m args below meth c X hr hlk hnm
  refine r_aload_n X dX12_image_0 rfl ?_
  refine r_iconst (v := 0) X dX12_image_1 (by decide +kernel) ?_
  refine a_put (a := 0) X hn fp_X12_140 dX12_image_2 rfl rfl rfl rfl ?_
  refine r_eq (h' := h0 ++ (frM n wf)) rfl rfl rfl ?_
  refine r_iload_n X dX12_image_5 rfl ?_
  refine r_if_ne_f (tgt := 18) X dX12_image_6 rfl (by decide +kernel) ?_
  refine r_aload_n X dX12_image_9 rfl ?_
  refine a_get (a := 0) X hn fg_X12_541 dX12_image_10 rfl rfl ?_
  refine r_if_ne_f (tgt := 18) X dX12_image_13 rfl (by decide +kernel) ?_
  refine r_iconst (v := 0) X dX12_image_16 (by decide +kernel) ?_
  exact r_ret_z X hr hlk (Or.inl rfl) dX12_image_17 (Nat.le_of_ble_eq_true rfl) (Nat.le_of_ble_eq_true rfl) ⟨_, rfl, rfl⟩
