set_option maxRecDepth 100000 in
set_option maxHeartbeats 4000000 in
theorem km16_X12_isIn (l : Launch) (G : PG) (h0 : PH) (n : Nat) (hn : h0.length = n) (wf : Nat → Int32) (z0 : Int32) : PMet l G yX12_isIn cX12_isIn 4 (some .boolean) 0 0 0 [vR (n + 0), vI z0, vI 0, vI ((-1))] (h0 ++ (frM n wf)) (qI (fun x h' => ((z0 < 0) ∧ x = 0 ∧ h' = h0 ++ (frM n wf)) ∨ ((¬ z0 < 0) ∧ x = 0 ∧ h' = h0 ++ (frM n wf)))) := by
  refine PMet.intro (by decide) (Nat.le_of_ble_eq_true rfl) ?_
  intro p e s m args below meth c X hr hlk hnm
  refine r_iload_n X dX12_isIn_0 rfl ?_
  refine r_iload_n X dX12_isIn_1 rfl ?_
  refine r_icmp_lt (tgt := 14) X dX12_isIn_2 rfl (fun q1 => ?_) (fun q1 => ?_)
  · refine r_iconst (v := 0) X dX12_isIn_14 (by decide +kernel) ?_
    exact r_ret_z X hr hlk (Or.inl rfl) dX12_isIn_15 (Nat.le_of_ble_eq_true rfl) (Nat.le_of_ble_eq_true rfl) ⟨_, rfl, Or.inl ⟨q1, rfl, rfl⟩⟩
  · refine r_iload_n X dX12_isIn_5 rfl ?_
    refine r_iload_n X dX12_isIn_6 rfl ?_
    refine r_icmp_gt_t (tgt := 14) X dX12_isIn_7 rfl (by have e0 : (-1 : Int32).toInt = -1 := (by decide); have e1 : (0 : Int32).toInt = 0 := (by decide); simp only [Int32.lt_iff_toInt_lt, Int32.le_iff_toInt_le, ← Int32.toInt_inj] at q1 ⊢; omega) ?_
    refine r_iconst (v := 0) X dX12_isIn_14 (by decide +kernel) ?_
    exact r_ret_z X hr hlk (Or.inl rfl) dX12_isIn_15 (Nat.le_of_ble_eq_true rfl) (Nat.le_of_ble_eq_true rfl) ⟨_, rfl, Or.inr (⟨q1, rfl, rfl⟩)⟩
set_option maxRecDepth 100000 in
set_option maxHeartbeats 4000000 in
theorem m_book (l : Launch) (G : PG) (h0 : PH) (n : Nat) (hn : h0.length = n) (wf : Nat → Int32) (a b : Int32) : PMet l G yX12_book cX12_book 3 (some .int) 1 0 0 [vR (n + 0), vI a, vI b] (h0 ++ (frM n wf)) (qI (fun x h' => x = sp_book a b)) := by
  refine PMet.intro (by decide) (Nat.le_of_ble_eq_true rfl) ?_
  intro p e s m args below meth c X hr hlk hnm
  refine r_aload_n X dX12_book_0 rfl ?_
  refine r_iconst (v := 0) X dX12_book_1 (by decide +kernel) ?_
  refine a_put (a := 0) X hn fp_X12_140 dX12_book_2 rfl rfl rfl rfl ?_
  refine r_eq (h' := h0 ++ (frM n wf)) rfl rfl rfl ?_
  refine r_aload_n X dX12_book_5 rfl ?_
  refine r_iload_n X dX12_book_6 rfl ?_
  refine r_iconst (v := 0) X dX12_book_7 (by decide +kernel) ?_
  refine r_aload_n X dX12_book_8 rfl ?_
  refine a_get (a := 0) X hn fg_X12_7 dX12_book_9 rfl rfl ?_
  refine r_iconst (v := 3) X dX12_book_12 (by decide +kernel) ?_
  refine a_iald (a := 1) (v := 0) X hn dX12_book_13 rfl (inK (by decide +kernel)) (by rfl) ?_
  refine r_iconst (v := 1) X dX12_book_14 (by decide +kernel) ?_
  refine r_isubE (v := (-1)) X dX12_book_15 (by decide +kernel) ?_
  refine r_V3i X kv_X12_155 dX12_book_16 (apG (k := 0) hn rfl) rfl (km16_X12_isIn l G _ _ hn _ _) rfl (fun x h' hΨ => ?_)
  rcases hΨ with ⟨q1, rfl, rfl⟩ | ⟨q2, rfl, rfl⟩
  · refine r_if_eq_t (tgt := 45) X dX12_book_19 rfl (by decide +kernel) ?_
    refine r_sipush (v := -10000) X dX12_book_45 (by decide +kernel) ?_
    exact r_ret_i X hr hlk dX12_book_48 (Nat.le_of_ble_eq_true rfl) (Nat.le_of_ble_eq_true rfl) ⟨_, rfl, rfl⟩
  · refine r_if_eq_t (tgt := 45) X dX12_book_19 rfl (by decide +kernel) ?_
    refine r_sipush (v := -10000) X dX12_book_45 (by decide +kernel) ?_
    exact r_ret_i X hr hlk dX12_book_48 (Nat.le_of_ble_eq_true rfl) (Nat.le_of_ble_eq_true rfl) ⟨_, rfl, rfl⟩
