set_option maxRecDepth 100000 in
set_option maxHeartbeats 4000000 in
theorem km8_X12_isMarked (l : Launch) (G : PG) (h0 : PH) (n : Nat) (hn : h0.length = n) (wf : Nat → Int32) (z0 : Nat) (hz0 : z0 ≤ 143) : PMet l G yX12_isMarked cX12_isMarked 2 (some .boolean) 0 0 0 [vR (n + 0), vI (nI z0)] (h0 ++ (frM n wf)) (qI (fun x h' => x = 0 ∧ h' = h0 ++ (frM n wf))) := by
  refine PMet.intro (by decide) (Nat.le_of_ble_eq_true rfl) ?_
  intro p e s m args below meth c X hr hlk hnm
  refine r_aload_n X dX12_isMarked_0 rfl ?_
  refine a_get (a := 0) X hn fg_X12_7 dX12_isMarked_1 rfl rfl ?_
  refine r_bipush (v := 67) X dX12_isMarked_4 (by decide +kernel) ?_
  refine r_iload_n X dX12_isMarked_6 rfl ?_
  refine r_iaddE (v := nI (67 + z0)) X dX12_isMarked_7 (nadd ((rfl : (67 : Int32) = nI 67)) (rfl)) ?_
  refine a_iald (a := 1) (v := 0) X hn dX12_isMarked_8 rfl (vin (k := (67 + z0)) (rfl) (by omega) (by decide)) (nw_hi (k := (67 + z0)) (rfl) (by omega) (by omega)) ?_
  refine r_if_le_t (tgt := 16) X dX12_isMarked_9 rfl (by decide +kernel) ?_
  refine r_iconst (v := 0) X dX12_isMarked_16 (by decide +kernel) ?_
  exact r_ret_z X hr hlk (Or.inl rfl) dX12_isMarked_17 (Nat.le_of_ble_eq_true rfl) (Nat.le_of_ble_eq_true rfl) ⟨_, rfl, ⟨rfl, rfl⟩⟩
set_option maxRecDepth 100000 in
set_option maxHeartbeats 4000000 in
theorem m_lift (l : Launch) (G : PG) (h0 : PH) (n : Nat) (hn : h0.length = n) (wf : Nat → Int32) (a b : Int32) : PMet l G yX12_lift cX12_lift 3 (some .boolean) 1 0 0 [vR (n + 0), vI a, vI b] (h0 ++ (frM n wf)) (qI (fun x h' => x = sp_lift a b)) := by
  refine PMet.intro (by decide) (Nat.le_of_ble_eq_true rfl) ?_
  intro p e s m args below meth c X hr hlk hnm
  refine r_aload_n X dX12_lift_0 rfl ?_
  refine r_iconst (v := 0) X dX12_lift_1 (by decide +kernel) ?_
  refine a_put (a := 0) X hn fp_X12_140 dX12_lift_2 rfl rfl rfl rfl ?_
  refine r_eq (h' := h0 ++ (frM n wf)) rfl rfl rfl ?_
  refine r_aload_n X dX12_lift_5 rfl ?_
  refine r_iload_n X dX12_lift_6 rfl ?_
  refine r_iconst (v := 0) X dX12_lift_7 (by decide +kernel) ?_
  refine r_bipush (v := 11) X dX12_lift_8 (by decide +kernel) ?_
  refine r_V3i X kv_X12_155 dX12_lift_10 (apG (k := 0) hn rfl) rfl (km3_X12_isIn l G _ _ hn _ _) rfl (fun x h' hΨ => ?_)
  rcases hΨ with ⟨q1, rfl, rfl⟩ | ⟨q2, q3, rfl, rfl⟩ | ⟨q4, q5, rfl, rfl⟩
  · refine r_if_eq_t (tgt := 40) X dX12_lift_13 rfl (by decide +kernel) ?_
    refine r_iconst (v := 0) X dX12_lift_40 (by decide +kernel) ?_
    exact r_ret_z X hr hlk (Or.inl rfl) dX12_lift_41 (Nat.le_of_ble_eq_true rfl) (Nat.le_of_ble_eq_true rfl) ⟨_, rfl, rfl⟩
  · refine r_if_eq_t (tgt := 40) X dX12_lift_13 rfl (by decide +kernel) ?_
    refine r_iconst (v := 0) X dX12_lift_40 (by decide +kernel) ?_
    exact r_ret_z X hr hlk (Or.inl rfl) dX12_lift_41 (Nat.le_of_ble_eq_true rfl) (Nat.le_of_ble_eq_true rfl) ⟨_, rfl, rfl⟩
  · refine r_if_eq_f (tgt := 40) X dX12_lift_13 rfl (by decide +kernel) ?_
    refine r_aload_n X dX12_lift_16 rfl ?_
    refine r_iload_n X dX12_lift_17 rfl ?_
    refine r_iconst (v := 0) X dX12_lift_18 (by decide +kernel) ?_
    refine r_bipush (v := 11) X dX12_lift_19 (by decide +kernel) ?_
    refine r_V3i X kv_X12_155 dX12_lift_21 (apG (k := 0) hn rfl) rfl (km3_X12_isIn l G _ _ hn _ _) rfl (fun x h' hΨ => ?_)
    rcases hΨ with ⟨q6, rfl, rfl⟩ | ⟨q7, q8, rfl, rfl⟩ | ⟨q9, q10, rfl, rfl⟩
    · refine r_if_eq_t (tgt := 40) X dX12_lift_24 rfl (by decide +kernel) ?_
      refine r_iconst (v := 0) X dX12_lift_40 (by decide +kernel) ?_
      exact r_ret_z X hr hlk (Or.inl rfl) dX12_lift_41 (Nat.le_of_ble_eq_true rfl) (Nat.le_of_ble_eq_true rfl) ⟨_, rfl, rfl⟩
    · refine r_if_eq_t (tgt := 40) X dX12_lift_24 rfl (by decide +kernel) ?_
      refine r_iconst (v := 0) X dX12_lift_40 (by decide +kernel) ?_
      exact r_ret_z X hr hlk (Or.inl rfl) dX12_lift_41 (Nat.le_of_ble_eq_true rfl) (Nat.le_of_ble_eq_true rfl) ⟨_, rfl, rfl⟩
    · refine r_if_eq_f (tgt := 40) X dX12_lift_24 rfl (by decide +kernel) ?_
      refine r_aload_n X dX12_lift_27 rfl ?_
      refine r_bipush (v := 12) X dX12_lift_28 (by decide +kernel) ?_
      refine r_iload_n X dX12_lift_30 rfl ?_
      refine r_imul X dX12_lift_31 ?_
      refine r_iload_n X dX12_lift_32 rfl ?_
      refine r_iadd X dX12_lift_33 ?_
      obtain ⟨j_a, hj_a, rfl⟩ : ∃ j : Nat, j ≤ 11 ∧ a = nI j := nI_of2 (M := 11) (by decide) (by have e1 : (0 : Int32).toInt = 0 := (by decide); have e2 : (11 : Int32).toInt = 11 := (by decide); simp only [Int32.lt_iff_toInt_lt, Int32.le_iff_toInt_le, ← Int32.toInt_inj] at q4 q5 ⊢; omega) (by have e1 : (0 : Int32).toInt = 0 := (by decide); have e2 : (11 : Int32).toInt = 11 := (by decide); simp only [Int32.lt_iff_toInt_lt, Int32.le_iff_toInt_le, ← Int32.toInt_inj] at q4 q5 ⊢; omega)
      obtain ⟨j_b, hj_b, rfl⟩ : ∃ j : Nat, j ≤ 11 ∧ b = nI j := nI_of2 (M := 11) (by decide) (by have e1 : (0 : Int32).toInt = 0 := (by decide); have e2 : (11 : Int32).toInt = 11 := (by decide); simp only [Int32.lt_iff_toInt_lt, Int32.le_iff_toInt_le, ← Int32.toInt_inj] at q9 q10 ⊢; omega) (by have e1 : (0 : Int32).toInt = 0 := (by decide); have e2 : (11 : Int32).toInt = 11 := (by decide); simp only [Int32.lt_iff_toInt_lt, Int32.le_iff_toInt_le, ← Int32.toInt_inj] at q9 q10 ⊢; omega)
      refine r_eq (st' := [vI (nI ((12 * j_a) + j_b)), vR (n + 0)]) rfl rfl (by rw [show ((12 * (nI j_a)) + (nI j_b) : Int32) = nI ((12 * j_a) + j_b) from nadd (nmul ((rfl : (12 : Int32) = nI 12)) (rfl)) (rfl)]) ?_
      refine r_V1i X kv_X12_332 dX12_lift_34 (apG (k := 0) hn rfl) rfl (km8_X12_isMarked l G _ _ hn _ _ (by omega)) rfl (fun x h' hΨ => ?_)
      obtain ⟨rfl, rfl⟩ := hΨ
      refine r_if_ne_f (tgt := 42) X dX12_lift_37 rfl (by decide +kernel) ?_
      refine r_iconst (v := 0) X dX12_lift_40 (by decide +kernel) ?_
      exact r_ret_z X hr hlk (Or.inl rfl) dX12_lift_41 (Nat.le_of_ble_eq_true rfl) (Nat.le_of_ble_eq_true rfl) ⟨_, rfl, rfl⟩
