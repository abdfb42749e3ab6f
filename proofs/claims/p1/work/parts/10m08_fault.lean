set_option maxRecDepth 100000 in
set_option maxHeartbeats 4000000 in
theorem m_fault (l : Launch) (G : PG) (h0 : PH) (n : Nat) (hn : h0.length = n) (wf : Nat → Int32) (a : Int32) : PMet l G yX12_fault cX12_fault 2 (some .int) 0 0 0 [vR (n + 0), vI a] (h0 ++ (frM n wf)) (qI (fun x h' => x = sp_fault a)) := by
  refine PMet.intro (by decide) (Nat.le_of_ble_eq_true rfl) ?_
  intro p e s m args below meth c X hr hlk hnm
  refine r_aload_n X dX12_fault_0 rfl ?_
  refine r_iconst (v := 0) X dX12_fault_1 (by decide +kernel) ?_
  refine a_put (a := 0) X hn fp_X12_140 dX12_fault_2 rfl rfl rfl rfl ?_
  refine r_eq (h' := h0 ++ (frM n wf)) rfl rfl rfl ?_
  refine r_iload_n X dX12_fault_5 rfl ?_
  refine r_if_ne (tgt := 16) X dX12_fault_6 rfl (fun q1 => ?_) (fun q1 => ?_)
  · refine r_iload_n X dX12_fault_16 rfl ?_
    refine r_iconst (v := 1) X dX12_fault_17 (by decide +kernel) ?_
    refine r_icmp_ne (tgt := 28) X dX12_fault_18 rfl (fun q2 => ?_) (fun q2 => ?_)
    · refine r_iconst (v := -1) X dX12_fault_28 (by decide +kernel) ?_
      exact r_ret_i X hr hlk dX12_fault_29 (Nat.le_of_ble_eq_true rfl) (Nat.le_of_ble_eq_true rfl) ⟨_, rfl, by unfold sp_fault; (repeat' split) <;> first | rfl | (exfalso; have e0 : (-1 : Int32).toInt = -1 := (by decide); have e1 : (0 : Int32).toInt = 0 := (by decide); have e2 : (1 : Int32).toInt = 1 := (by decide); simp only [inR, Int32.lt_iff_toInt_lt, Int32.le_iff_toInt_le, ← Int32.toInt_inj, true_or, or_true, not_true_eq_false, and_true, true_and, false_or, or_false, false_and, and_false, not_false_eq_true] at * <;> omega)⟩
    · refine r_aload_n X dX12_fault_21 rfl ?_
      refine a_get (a := 0) X hn fg_X12_61 dX12_fault_22 rfl rfl ?_
      refine r_goto (tgt := 29) X dX12_fault_25 rfl ?_
      exact r_ret_i X hr hlk dX12_fault_29 (Nat.le_of_ble_eq_true rfl) (Nat.le_of_ble_eq_true rfl) ⟨_, rfl, by unfold sp_fault; (repeat' split) <;> first | rfl | (exfalso; have e0 : (-1 : Int32).toInt = -1 := (by decide); have e1 : (0 : Int32).toInt = 0 := (by decide); have e2 : (1 : Int32).toInt = 1 := (by decide); simp only [inR, Int32.lt_iff_toInt_lt, Int32.le_iff_toInt_le, ← Int32.toInt_inj, true_or, or_true, not_true_eq_false, and_true, true_and, false_or, or_false, false_and, and_false, not_false_eq_true] at * <;> omega)⟩
  · refine r_aload_n X dX12_fault_9 rfl ?_
    refine a_get (a := 0) X hn fg_X12_314 dX12_fault_10 rfl rfl ?_
    refine r_goto (tgt := 29) X dX12_fault_13 rfl ?_
    exact r_ret_i X hr hlk dX12_fault_29 (Nat.le_of_ble_eq_true rfl) (Nat.le_of_ble_eq_true rfl) ⟨_, rfl, by unfold sp_fault; (repeat' split) <;> first | rfl | (exfalso; have e0 : (-1 : Int32).toInt = -1 := (by decide); have e1 : (0 : Int32).toInt = 0 := (by decide); simp only [inR, Int32.lt_iff_toInt_lt, Int32.le_iff_toInt_le, ← Int32.toInt_inj, true_or, or_true, not_true_eq_false, and_true, true_and, false_or, or_false, false_and, and_false, not_false_eq_true] at * <;> omega)⟩
