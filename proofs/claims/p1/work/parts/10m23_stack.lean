set_option maxRecDepth 100000 in
set_option maxHeartbeats 4000000 in
theorem km29_X12_onesOf (l : Launch) (G : PG) (h0 : PH) (n : Nat) (hn : h0.length = n) (wf : Nat → Int32) : PMet l G yX12_onesOf cX12_onesOf 4 (some .int) 0 0 0 [vR (n + 0), vI 0] (h0 ++ ((frM n wf).set 35 (eI 256 (upd (fun _ => 0) (0 : Int32).toNatClampNeg (1))))) (qI (fun x h' => x = 0 ∧ h' = h0 ++ ((frM n wf).set 35 (eI 256 (upd (fun _ => 0) (0 : Int32).toNatClampNeg (1)))))) := by
  refine PMet.intro (by decide) (Nat.le_of_ble_eq_true rfl) ?_
  intro p e s m args below meth c X hr hlk hnm
  refine r_iconst (v := 0) X dX12_onesOf_0 (by decide +kernel) ?_
  refine r_istore_n X dX12_onesOf_1 (by decide) ?_
  refine r_iload_n X dX12_onesOf_2 rfl ?_
  refine r_istore_n X dX12_onesOf_3 (by decide) ?_
  refine r_iload_n X dX12_onesOf_4 rfl ?_
  refine r_if_eq_t (tgt := 21) X dX12_onesOf_5 rfl (by decide +kernel) ?_
  refine r_iload_n X dX12_onesOf_21 rfl ?_
  exact r_ret_i X hr hlk dX12_onesOf_22 (Nat.le_of_ble_eq_true rfl) (Nat.le_of_ble_eq_true rfl) ⟨_, rfl, ⟨rfl, rfl⟩⟩
set_option maxRecDepth 100000 in
set_option maxHeartbeats 4000000 in
theorem km30_X12_greater (l : Launch) (G : PG) (h0 : PH) (n : Nat) (hn : h0.length = n) (wf : Nat → Int32) : PMet l G yX12_greater cX12_greater 3 (some .int) 0 0 0 [vR (n + 0), vI 0, vI 0] (h0 ++ ((frM n wf).set 35 (eI 256 (upd (fun _ => 0) (0 : Int32).toNatClampNeg (1))))) (qI (fun x h' => x = 0 ∧ h' = h0 ++ ((frM n wf).set 35 (eI 256 (upd (fun _ => 0) (0 : Int32).toNatClampNeg (1)))))) := by
  refine PMet.intro (by decide) (Nat.le_of_ble_eq_true rfl) ?_
  intro p e s m args below meth c X hr hlk hnm
  refine r_iload_n X dX12_greater_0 rfl ?_
  refine r_iload_n X dX12_greater_1 rfl ?_
  refine r_icmp_le_t (tgt := 9) X dX12_greater_2 rfl (by decide +kernel) ?_
  refine r_iload_n X dX12_greater_9 rfl ?_
  exact r_ret_i X hr hlk dX12_greater_10 (Nat.le_of_ble_eq_true rfl) (Nat.le_of_ble_eq_true rfl) ⟨_, rfl, ⟨rfl, rfl⟩⟩
set_option maxRecDepth 100000 in
set_option maxHeartbeats 4000000 in
theorem m_stack (l : Launch) (G : PG) (h0 : PH) (n : Nat) (hn : h0.length = n) (wf : Nat → Int32) : PMet l G yX12_stack cX12_stack 5 (some .int) 1 0 0 [vR (n + 0)] (h0 ++ (frM n wf)) (qI (fun x h' => x = sp_stack )) := by
  refine PMet.intro (by decide) (Nat.le_of_ble_eq_true rfl) ?_
  intro p e s m args below meth c X hr hlk hnm
  refine r_aload_n X dX12_stack_0 rfl ?_
  refine r_iconst (v := 0) X dX12_stack_1 (by decide +kernel) ?_
  refine a_put (a := 0) X hn fp_X12_140 dX12_stack_2 rfl rfl rfl rfl ?_
  refine r_eq (h' := h0 ++ (frM n wf)) rfl rfl rfl ?_
  refine r_iconst (v := 0) X dX12_stack_5 (by decide +kernel) ?_
  refine r_istore_n X dX12_stack_6 (by decide) ?_
  refine r_iconst (v := 0) X dX12_stack_7 (by decide +kernel) ?_
  refine r_istore_n X dX12_stack_8 (by decide) ?_
  refine r_iload_n X dX12_stack_9 rfl ?_
  refine r_iconst (v := 1) X dX12_stack_10 (by decide +kernel) ?_
  refine r_aload_n X dX12_stack_11 rfl ?_
  refine a_get (a := 0) X hn fg_X12_482 dX12_stack_12 rfl rfl ?_
  refine r_ishlE (v := 1) X dX12_stack_15 (by decide +kernel) ?_
  refine r_icmp_ge_f (tgt := 172) X dX12_stack_16 rfl (by decide +kernel) ?_
  refine r_iconst (v := 0) X dX12_stack_19 (by decide +kernel) ?_
  refine r_istore_n X dX12_stack_20 (by decide) ?_
  refine r_iconst (v := 0) X dX12_stack_21 (by decide +kernel) ?_
  refine r_istore X dX12_stack_22 (by decide) ?_
  refine r_iload X dX12_stack_24 rfl ?_
  refine r_aload_n X dX12_stack_26 rfl ?_
  refine a_get (a := 0) X hn fg_X12_482 dX12_stack_27 rfl rfl ?_
  refine r_icmp_ge_t (tgt := 59) X dX12_stack_30 rfl (by decide +kernel) ?_
  refine r_aload_n X dX12_stack_59 rfl ?_
  refine a_get (a := 0) X hn fg_X12_116 dX12_stack_60 rfl rfl ?_
  refine r_iload_n X dX12_stack_63 rfl ?_
  refine r_iload_n X dX12_stack_64 rfl ?_
  refine r_if_ne_f (tgt := 72) X dX12_stack_65 rfl (by decide +kernel) ?_
  refine r_iconst (v := 1) X dX12_stack_68 (by decide +kernel) ?_
  refine r_goto (tgt := 73) X dX12_stack_69 rfl ?_
  refine a_iast (a := 35) X hn dX12_stack_73 rfl (inK (by decide +kernel)) ?_
  refine r_iconst (v := 0) X dX12_stack_74 (by decide +kernel) ?_
  refine r_istore X dX12_stack_75 (by decide) ?_
  refine r_eq (ls' := [some (vR (n + 0)), some (vI 0), some (vI 0), some (vI 0), some (vI 0)]) rfl rfl rfl ?_
  refine r_iload X dX12_stack_77 rfl ?_
  refine r_aload_n X dX12_stack_79 rfl ?_
  refine a_get (a := 0) X hn fg_X12_482 dX12_stack_80 rfl rfl ?_
  refine r_icmp_ge_t (tgt := 145) X dX12_stack_83 rfl (by decide +kernel) ?_
  refine r_aload_n X dX12_stack_145 rfl ?_
  refine a_get (a := 0) X hn fg_X12_116 dX12_stack_146 rfl rfl ?_
  refine r_iload_n X dX12_stack_149 rfl ?_
  refine a_iald (a := 35) (v := 1) X hn dX12_stack_150 rfl (inK (by decide +kernel)) (by rfl) ?_
  refine r_iconst (v := 1) X dX12_stack_151 (by decide +kernel) ?_
  refine r_icmp_ne_f (tgt := 166) X dX12_stack_152 rfl (by decide +kernel) ?_
  refine r_aload_n X dX12_stack_155 rfl ?_
  refine r_iload_n X dX12_stack_156 rfl ?_
  refine r_aload_n X dX12_stack_157 rfl ?_
  refine r_iload_n X dX12_stack_158 rfl ?_
  refine r_V1i X kv_X12_443 dX12_stack_159 (apG (k := 0) hn rfl) rfl (km29_X12_onesOf l G _ _ hn _) rfl (fun x h' hΨ => ?_)
  obtain ⟨rfl, rfl⟩ := hΨ
  refine r_V2i X kv_X12_421 dX12_stack_162 (apG (k := 0) hn rfl) rfl (km30_X12_greater l G _ _ hn _) rfl (fun x h' hΨ => ?_)
  obtain ⟨rfl, rfl⟩ := hΨ
  refine r_istore_n X dX12_stack_165 (by decide) ?_
  refine r_iinc (v := 1) X dX12_stack_166 rfl (by decide +kernel) (by decide) ?_
  refine r_goto (tgt := 9) X dX12_stack_169 rfl ?_
  refine r_iload_n X dX12_stack_9 rfl ?_
  refine r_iconst (v := 1) X dX12_stack_10 (by decide +kernel) ?_
  refine r_aload_n X dX12_stack_11 rfl ?_
  refine a_get (a := 0) X hn fg_X12_482 dX12_stack_12 rfl rfl ?_
  refine r_ishlE (v := 1) X dX12_stack_15 (by decide +kernel) ?_
  refine r_icmp_ge_t (tgt := 172) X dX12_stack_16 rfl (by decide +kernel) ?_
  refine r_iload_n X dX12_stack_172 rfl ?_
  exact r_ret_i X hr hlk dX12_stack_173 (Nat.le_of_ble_eq_true rfl) (Nat.le_of_ble_eq_true rfl) ⟨_, rfl, rfl⟩
