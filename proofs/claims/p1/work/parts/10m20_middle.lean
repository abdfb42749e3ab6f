set_option maxRecDepth 100000 in
set_option maxHeartbeats 4000000 in
theorem km23_X12_middleOf (l : Launch) (G : PG) (h0 : PH) (n : Nat) (hn : h0.length = n) (wf : Nat → Int32) : PMet l G yX12_middleOf cX12_middleOf 4 (some .int) 0 0 0 [vR (n + 0)] (h0 ++ (frM n wf)) (qI (fun x h' => x = (-1) ∧ h' = h0 ++ (frM n wf))) := by
  refine PMet.intro (by decide) (Nat.le_of_ble_eq_true rfl) ?_
  intro p e s m args below meth c X hr hlk hnm
  refine r_aload_n X dX12_middleOf_0 rfl ?_
  refine a_get (a := 0) X hn fg_X12_464 dX12_middleOf_1 rfl rfl ?_
  refine r_if_ne_f (tgt := 9) X dX12_middleOf_4 rfl (by decide +kernel) ?_
  refine r_iconst (v := -1) X dX12_middleOf_7 (by decide +kernel) ?_
  exact r_ret_i X hr hlk dX12_middleOf_8 (Nat.le_of_ble_eq_true rfl) (Nat.le_of_ble_eq_true rfl) ⟨_, rfl, ⟨rfl, rfl⟩⟩
set_option maxRecDepth 100000 in
set_option maxHeartbeats 4000000 in
theorem km24_X12_greater (l : Launch) (G : PG) (h0 : PH) (n : Nat) (hn : h0.length = n) (wf : Nat → Int32) : PMet l G yX12_greater cX12_greater 3 (some .int) 0 0 0 [vR (n + 0), vI 0, vI 0] (h0 ++ (frM n wf)) (qI (fun x h' => x = 0 ∧ h' = h0 ++ (frM n wf))) := by
  refine PMet.intro (by decide) (Nat.le_of_ble_eq_true rfl) ?_
  intro p e s m args below meth c X hr hlk hnm
  refine r_iload_n X dX12_greater_0 rfl ?_
  refine r_iload_n X dX12_greater_1 rfl ?_
  refine r_icmp_le_t (tgt := 9) X dX12_greater_2 rfl (by decide +kernel) ?_
  refine r_iload_n X dX12_greater_9 rfl ?_
  exact r_ret_i X hr hlk dX12_greater_10 (Nat.le_of_ble_eq_true rfl) (Nat.le_of_ble_eq_true rfl) ⟨_, rfl, ⟨rfl, rfl⟩⟩
set_option maxRecDepth 100000 in
set_option maxHeartbeats 4000000 in
theorem km25_X12_dearest (l : Launch) (G : PG) (h0 : PH) (n : Nat) (hn : h0.length = n) (wf : Nat → Int32) : PMet l G yX12_dearest cX12_dearest 7 (some .int) 1 0 0 [vR (n + 0), vI 0] (h0 ++ (frM n wf)) (qI (fun x h' => x = 0 ∧ h' = h0 ++ (frM n wf))) := by
  refine PMet.intro (by decide) (Nat.le_of_ble_eq_true rfl) ?_
  intro p e s m args below meth c X hr hlk hnm
  refine r_iconst (v := 0) X dX12_dearest_0 (by decide +kernel) ?_
  refine r_istore_n X dX12_dearest_1 (by decide) ?_
  refine r_iconst (v := -1) X dX12_dearest_2 (by decide +kernel) ?_
  refine r_istore_n X dX12_dearest_3 (by decide) ?_
  refine r_iconst (v := 0) X dX12_dearest_4 (by decide +kernel) ?_
  refine r_istore X dX12_dearest_5 (by decide) ?_
  refine r_iload X dX12_dearest_7 rfl ?_
  refine r_bipush (v := 10) X dX12_dearest_9 (by decide +kernel) ?_
  refine r_icmp_ge_f (tgt := 81) X dX12_dearest_11 rfl (by decide +kernel) ?_
  refine r_iconst (v := 0) X dX12_dearest_14 (by decide +kernel) ?_
  refine r_istore X dX12_dearest_15 (by decide) ?_
  refine r_iconst (v := 0) X dX12_dearest_17 (by decide +kernel) ?_
  refine r_istore X dX12_dearest_18 (by decide) ?_
  refine r_eq (ls' := [some (vR (n + 0)), some (vI 0), some (vI 0), some (vI ((-1))), some (vI 0), some (vI 0), some (vI 0)]) rfl rfl rfl ?_
  refine r_iload X dX12_dearest_20 rfl ?_
  refine r_aload_n X dX12_dearest_22 rfl ?_
  refine a_get (a := 0) X hn fg_X12_467 dX12_dearest_23 rfl rfl ?_
  refine r_icmp_ge_t (tgt := 53) X dX12_dearest_26 rfl (by decide +kernel) ?_
  refine r_iconst (v := 2) X dX12_dearest_53 (by decide +kernel) ?_
  refine r_iload X dX12_dearest_54 rfl ?_
  refine r_imulE (v := 0) X dX12_dearest_56 (by decide +kernel) ?_
  refine r_aload_n X dX12_dearest_57 rfl ?_
  refine a_get (a := 0) X hn fg_X12_467 dX12_dearest_58 rfl rfl ?_
  refine r_icmp_le_t (tgt := 67) X dX12_dearest_61 rfl (by decide +kernel) ?_
  refine r_aload_n X dX12_dearest_67 rfl ?_
  refine r_iload_n X dX12_dearest_68 rfl ?_
  refine r_iload X dX12_dearest_69 rfl ?_
  refine r_V2i X kv_X12_421 dX12_dearest_71 (apG (k := 0) hn rfl) rfl (km24_X12_greater l G _ _ hn _) rfl (fun x h' hΨ => ?_)
  obtain ⟨rfl, rfl⟩ := hΨ
  refine r_istore_n X dX12_dearest_74 (by decide) ?_
  refine r_iinc (v := 1) X dX12_dearest_75 rfl (by decide +kernel) (by decide) ?_
  refine r_goto (tgt := 7) X dX12_dearest_78 rfl ?_
  refine r_iload X dX12_dearest_7 rfl ?_
  refine r_bipush (v := 10) X dX12_dearest_9 (by decide +kernel) ?_
  refine r_icmp_ge_f (tgt := 81) X dX12_dearest_11 rfl (by decide +kernel) ?_
  refine r_iconst (v := 0) X dX12_dearest_14 (by decide +kernel) ?_
  refine r_istore X dX12_dearest_15 (by decide) ?_
  refine r_iconst (v := 0) X dX12_dearest_17 (by decide +kernel) ?_
  refine r_istore X dX12_dearest_18 (by decide) ?_
  refine r_iload X dX12_dearest_20 rfl ?_
  refine r_aload_n X dX12_dearest_22 rfl ?_
  refine a_get (a := 0) X hn fg_X12_467 dX12_dearest_23 rfl rfl ?_
  refine r_icmp_ge_t (tgt := 53) X dX12_dearest_26 rfl (by decide +kernel) ?_
  refine r_iconst (v := 2) X dX12_dearest_53 (by decide +kernel) ?_
  refine r_iload X dX12_dearest_54 rfl ?_
  refine r_imulE (v := 0) X dX12_dearest_56 (by decide +kernel) ?_
  refine r_aload_n X dX12_dearest_57 rfl ?_
  refine a_get (a := 0) X hn fg_X12_467 dX12_dearest_58 rfl rfl ?_
  refine r_icmp_le_t (tgt := 67) X dX12_dearest_61 rfl (by decide +kernel) ?_
  refine r_aload_n X dX12_dearest_67 rfl ?_
  refine r_iload_n X dX12_dearest_68 rfl ?_
  refine r_iload X dX12_dearest_69 rfl ?_
  refine r_V2i X kv_X12_421 dX12_dearest_71 (apG (k := 0) hn rfl) rfl (km24_X12_greater l G _ _ hn _) rfl (fun x h' hΨ => ?_)
  obtain ⟨rfl, rfl⟩ := hΨ
  refine r_istore_n X dX12_dearest_74 (by decide) ?_
  refine r_eq (ls' := [some (vR (n + 0)), some (vI 0), some (vI 0), some (vI ((-1))), some (vI 1), some (vI 0), some (vI 0)]) rfl rfl rfl ?_
  refine r_iinc (v := 2) X dX12_dearest_75 rfl (by decide +kernel) (by decide) ?_
  refine r_goto (tgt := 7) X dX12_dearest_78 rfl ?_
  refine r_iload X dX12_dearest_7 rfl ?_
  refine r_bipush (v := 10) X dX12_dearest_9 (by decide +kernel) ?_
  refine r_icmp_ge_f (tgt := 81) X dX12_dearest_11 rfl (by decide +kernel) ?_
  refine r_iconst (v := 0) X dX12_dearest_14 (by decide +kernel) ?_
  refine r_istore X dX12_dearest_15 (by decide) ?_
  refine r_iconst (v := 0) X dX12_dearest_17 (by decide +kernel) ?_
  refine r_istore X dX12_dearest_18 (by decide) ?_
  refine r_iload X dX12_dearest_20 rfl ?_
  refine r_aload_n X dX12_dearest_22 rfl ?_
  refine a_get (a := 0) X hn fg_X12_467 dX12_dearest_23 rfl rfl ?_
  refine r_icmp_ge_t (tgt := 53) X dX12_dearest_26 rfl (by decide +kernel) ?_
  refine r_iconst (v := 2) X dX12_dearest_53 (by decide +kernel) ?_
  refine r_iload X dX12_dearest_54 rfl ?_
  refine r_imulE (v := 0) X dX12_dearest_56 (by decide +kernel) ?_
  refine r_aload_n X dX12_dearest_57 rfl ?_
  refine a_get (a := 0) X hn fg_X12_467 dX12_dearest_58 rfl rfl ?_
  refine r_icmp_le_t (tgt := 67) X dX12_dearest_61 rfl (by decide +kernel) ?_
  refine r_aload_n X dX12_dearest_67 rfl ?_
  refine r_iload_n X dX12_dearest_68 rfl ?_
  refine r_iload X dX12_dearest_69 rfl ?_
  refine r_V2i X kv_X12_421 dX12_dearest_71 (apG (k := 0) hn rfl) rfl (km24_X12_greater l G _ _ hn _) rfl (fun x h' hΨ => ?_)
  obtain ⟨rfl, rfl⟩ := hΨ
  refine r_istore_n X dX12_dearest_74 (by decide) ?_
  refine r_iinc (v := 3) X dX12_dearest_75 rfl (by decide +kernel) (by decide) ?_
  refine r_eq (ls' := [some (vR (n + 0)), some (vI 0), some (vI 0), some (vI ((-1))), some (vI 3), some (vI 0), some (vI 0)]) rfl rfl rfl ?_
  refine r_goto (tgt := 7) X dX12_dearest_78 rfl ?_
  refine r_iload X dX12_dearest_7 rfl ?_
  refine r_bipush (v := 10) X dX12_dearest_9 (by decide +kernel) ?_
  refine r_icmp_ge_f (tgt := 81) X dX12_dearest_11 rfl (by decide +kernel) ?_
  refine r_iconst (v := 0) X dX12_dearest_14 (by decide +kernel) ?_
  refine r_istore X dX12_dearest_15 (by decide) ?_
  refine r_iconst (v := 0) X dX12_dearest_17 (by decide +kernel) ?_
  refine r_istore X dX12_dearest_18 (by decide) ?_
  refine r_iload X dX12_dearest_20 rfl ?_
  refine r_aload_n X dX12_dearest_22 rfl ?_
  refine a_get (a := 0) X hn fg_X12_467 dX12_dearest_23 rfl rfl ?_
  refine r_icmp_ge_t (tgt := 53) X dX12_dearest_26 rfl (by decide +kernel) ?_
  refine r_iconst (v := 2) X dX12_dearest_53 (by decide +kernel) ?_
  refine r_iload X dX12_dearest_54 rfl ?_
  refine r_imulE (v := 0) X dX12_dearest_56 (by decide +kernel) ?_
  refine r_aload_n X dX12_dearest_57 rfl ?_
  refine a_get (a := 0) X hn fg_X12_467 dX12_dearest_58 rfl rfl ?_
  refine r_icmp_le_t (tgt := 67) X dX12_dearest_61 rfl (by decide +kernel) ?_
  refine r_aload_n X dX12_dearest_67 rfl ?_
  refine r_iload_n X dX12_dearest_68 rfl ?_
  refine r_iload X dX12_dearest_69 rfl ?_
  refine r_V2i X kv_X12_421 dX12_dearest_71 (apG (k := 0) hn rfl) rfl (km24_X12_greater l G _ _ hn _) rfl (fun x h' hΨ => ?_)
  obtain ⟨rfl, rfl⟩ := hΨ
  refine r_istore_n X dX12_dearest_74 (by decide) ?_
  refine r_iinc (v := 4) X dX12_dearest_75 rfl (by decide +kernel) (by decide) ?_
  refine r_goto (tgt := 7) X dX12_dearest_78 rfl ?_
  refine r_iload X dX12_dearest_7 rfl ?_
  refine r_bipush (v := 10) X dX12_dearest_9 (by decide +kernel) ?_
  refine r_icmp_ge_f (tgt := 81) X dX12_dearest_11 rfl (by decide +kernel) ?_
  refine r_iconst (v := 0) X dX12_dearest_14 (by decide +kernel) ?_
  refine r_istore X dX12_dearest_15 (by decide) ?_
  refine r_eq (ls' := [some (vR (n + 0)), some (vI 0), some (vI 0), some (vI ((-1))), some (vI 4), some (vI 0), some (vI 0)]) rfl rfl rfl ?_
  refine r_iconst (v := 0) X dX12_dearest_17 (by decide +kernel) ?_
  refine r_istore X dX12_dearest_18 (by decide) ?_
  refine r_iload X dX12_dearest_20 rfl ?_
  refine r_aload_n X dX12_dearest_22 rfl ?_
  refine a_get (a := 0) X hn fg_X12_467 dX12_dearest_23 rfl rfl ?_
  refine r_icmp_ge_t (tgt := 53) X dX12_dearest_26 rfl (by decide +kernel) ?_
  refine r_iconst (v := 2) X dX12_dearest_53 (by decide +kernel) ?_
  refine r_iload X dX12_dearest_54 rfl ?_
  refine r_imulE (v := 0) X dX12_dearest_56 (by decide +kernel) ?_
  refine r_aload_n X dX12_dearest_57 rfl ?_
  refine a_get (a := 0) X hn fg_X12_467 dX12_dearest_58 rfl rfl ?_
  refine r_icmp_le_t (tgt := 67) X dX12_dearest_61 rfl (by decide +kernel) ?_
  refine r_aload_n X dX12_dearest_67 rfl ?_
  refine r_iload_n X dX12_dearest_68 rfl ?_
  refine r_iload X dX12_dearest_69 rfl ?_
  refine r_V2i X kv_X12_421 dX12_dearest_71 (apG (k := 0) hn rfl) rfl (km24_X12_greater l G _ _ hn _) rfl (fun x h' hΨ => ?_)
  obtain ⟨rfl, rfl⟩ := hΨ
  refine r_istore_n X dX12_dearest_74 (by decide) ?_
  refine r_iinc (v := 5) X dX12_dearest_75 rfl (by decide +kernel) (by decide) ?_
  refine r_goto (tgt := 7) X dX12_dearest_78 rfl ?_
  refine r_iload X dX12_dearest_7 rfl ?_
  refine r_bipush (v := 10) X dX12_dearest_9 (by decide +kernel) ?_
  refine r_icmp_ge_f (tgt := 81) X dX12_dearest_11 rfl (by decide +kernel) ?_
  refine r_iconst (v := 0) X dX12_dearest_14 (by decide +kernel) ?_
  refine r_istore X dX12_dearest_15 (by decide) ?_
  refine r_iconst (v := 0) X dX12_dearest_17 (by decide +kernel) ?_
  refine r_istore X dX12_dearest_18 (by decide) ?_
  refine r_eq (ls' := [some (vR (n + 0)), some (vI 0), some (vI 0), some (vI ((-1))), some (vI 5), some (vI 0), some (vI 0)]) rfl rfl rfl ?_
  refine r_iload X dX12_dearest_20 rfl ?_
  refine r_aload_n X dX12_dearest_22 rfl ?_
  refine a_get (a := 0) X hn fg_X12_467 dX12_dearest_23 rfl rfl ?_
  refine r_icmp_ge_t (tgt := 53) X dX12_dearest_26 rfl (by decide +kernel) ?_
  refine r_iconst (v := 2) X dX12_dearest_53 (by decide +kernel) ?_
  refine r_iload X dX12_dearest_54 rfl ?_
  refine r_imulE (v := 0) X dX12_dearest_56 (by decide +kernel) ?_
  refine r_aload_n X dX12_dearest_57 rfl ?_
  refine a_get (a := 0) X hn fg_X12_467 dX12_dearest_58 rfl rfl ?_
  refine r_icmp_le_t (tgt := 67) X dX12_dearest_61 rfl (by decide +kernel) ?_
  refine r_aload_n X dX12_dearest_67 rfl ?_
  refine r_iload_n X dX12_dearest_68 rfl ?_
  refine r_iload X dX12_dearest_69 rfl ?_
  refine r_V2i X kv_X12_421 dX12_dearest_71 (apG (k := 0) hn rfl) rfl (km24_X12_greater l G _ _ hn _) rfl (fun x h' hΨ => ?_)
  obtain ⟨rfl, rfl⟩ := hΨ
  refine r_istore_n X dX12_dearest_74 (by decide) ?_
  refine r_iinc (v := 6) X dX12_dearest_75 rfl (by decide +kernel) (by decide) ?_
  refine r_goto (tgt := 7) X dX12_dearest_78 rfl ?_
  refine r_iload X dX12_dearest_7 rfl ?_
  refine r_bipush (v := 10) X dX12_dearest_9 (by decide +kernel) ?_
  refine r_icmp_ge_f (tgt := 81) X dX12_dearest_11 rfl (by decide +kernel) ?_
  refine r_iconst (v := 0) X dX12_dearest_14 (by decide +kernel) ?_
  refine r_istore X dX12_dearest_15 (by decide) ?_
  refine r_iconst (v := 0) X dX12_dearest_17 (by decide +kernel) ?_
  refine r_istore X dX12_dearest_18 (by decide) ?_
  refine r_iload X dX12_dearest_20 rfl ?_
  refine r_aload_n X dX12_dearest_22 rfl ?_
  refine a_get (a := 0) X hn fg_X12_467 dX12_dearest_23 rfl rfl ?_
  refine r_icmp_ge_t (tgt := 53) X dX12_dearest_26 rfl (by decide +kernel) ?_
  refine r_iconst (v := 2) X dX12_dearest_53 (by decide +kernel) ?_
  refine r_iload X dX12_dearest_54 rfl ?_
  refine r_imulE (v := 0) X dX12_dearest_56 (by decide +kernel) ?_
  refine r_aload_n X dX12_dearest_57 rfl ?_
  refine a_get (a := 0) X hn fg_X12_467 dX12_dearest_58 rfl rfl ?_
  refine r_icmp_le_t (tgt := 67) X dX12_dearest_61 rfl (by decide +kernel) ?_
  refine r_aload_n X dX12_dearest_67 rfl ?_
  refine r_iload_n X dX12_dearest_68 rfl ?_
  refine r_iload X dX12_dearest_69 rfl ?_
  refine r_V2i X kv_X12_421 dX12_dearest_71 (apG (k := 0) hn rfl) rfl (km24_X12_greater l G _ _ hn _) rfl (fun x h' hΨ => ?_)
  obtain ⟨rfl, rfl⟩ := hΨ
  refine r_istore_n X dX12_dearest_74 (by decide) ?_
  refine r_eq (ls' := [some (vR (n + 0)), some (vI 0), some (vI 0), some (vI ((-1))), some (vI 6), some (vI 0), some (vI 0)]) rfl rfl rfl ?_
  refine r_iinc (v := 7) X dX12_dearest_75 rfl (by decide +kernel) (by decide) ?_
  refine r_goto (tgt := 7) X dX12_dearest_78 rfl ?_
  refine r_iload X dX12_dearest_7 rfl ?_
  refine r_bipush (v := 10) X dX12_dearest_9 (by decide +kernel) ?_
  refine r_icmp_ge_f (tgt := 81) X dX12_dearest_11 rfl (by decide +kernel) ?_
  refine r_iconst (v := 0) X dX12_dearest_14 (by decide +kernel) ?_
  refine r_istore X dX12_dearest_15 (by decide) ?_
  refine r_iconst (v := 0) X dX12_dearest_17 (by decide +kernel) ?_
  refine r_istore X dX12_dearest_18 (by decide) ?_
  refine r_iload X dX12_dearest_20 rfl ?_
  refine r_aload_n X dX12_dearest_22 rfl ?_
  refine a_get (a := 0) X hn fg_X12_467 dX12_dearest_23 rfl rfl ?_
  refine r_icmp_ge_t (tgt := 53) X dX12_dearest_26 rfl (by decide +kernel) ?_
  refine r_iconst (v := 2) X dX12_dearest_53 (by decide +kernel) ?_
  refine r_iload X dX12_dearest_54 rfl ?_
  refine r_imulE (v := 0) X dX12_dearest_56 (by decide +kernel) ?_
  refine r_aload_n X dX12_dearest_57 rfl ?_
  refine a_get (a := 0) X hn fg_X12_467 dX12_dearest_58 rfl rfl ?_
  refine r_icmp_le_t (tgt := 67) X dX12_dearest_61 rfl (by decide +kernel) ?_
  refine r_aload_n X dX12_dearest_67 rfl ?_
  refine r_iload_n X dX12_dearest_68 rfl ?_
  refine r_iload X dX12_dearest_69 rfl ?_
  refine r_V2i X kv_X12_421 dX12_dearest_71 (apG (k := 0) hn rfl) rfl (km24_X12_greater l G _ _ hn _) rfl (fun x h' hΨ => ?_)
  obtain ⟨rfl, rfl⟩ := hΨ
  refine r_istore_n X dX12_dearest_74 (by decide) ?_
  refine r_iinc (v := 8) X dX12_dearest_75 rfl (by decide +kernel) (by decide) ?_
  refine r_eq (ls' := [some (vR (n + 0)), some (vI 0), some (vI 0), some (vI ((-1))), some (vI 8), some (vI 0), some (vI 0)]) rfl rfl rfl ?_
  refine r_goto (tgt := 7) X dX12_dearest_78 rfl ?_
  refine r_iload X dX12_dearest_7 rfl ?_
  refine r_bipush (v := 10) X dX12_dearest_9 (by decide +kernel) ?_
  refine r_icmp_ge_f (tgt := 81) X dX12_dearest_11 rfl (by decide +kernel) ?_
  refine r_iconst (v := 0) X dX12_dearest_14 (by decide +kernel) ?_
  refine r_istore X dX12_dearest_15 (by decide) ?_
  refine r_iconst (v := 0) X dX12_dearest_17 (by decide +kernel) ?_
  refine r_istore X dX12_dearest_18 (by decide) ?_
  refine r_iload X dX12_dearest_20 rfl ?_
  refine r_aload_n X dX12_dearest_22 rfl ?_
  refine a_get (a := 0) X hn fg_X12_467 dX12_dearest_23 rfl rfl ?_
  refine r_icmp_ge_t (tgt := 53) X dX12_dearest_26 rfl (by decide +kernel) ?_
  refine r_iconst (v := 2) X dX12_dearest_53 (by decide +kernel) ?_
  refine r_iload X dX12_dearest_54 rfl ?_
  refine r_imulE (v := 0) X dX12_dearest_56 (by decide +kernel) ?_
  refine r_aload_n X dX12_dearest_57 rfl ?_
  refine a_get (a := 0) X hn fg_X12_467 dX12_dearest_58 rfl rfl ?_
  refine r_icmp_le_t (tgt := 67) X dX12_dearest_61 rfl (by decide +kernel) ?_
  refine r_aload_n X dX12_dearest_67 rfl ?_
  refine r_iload_n X dX12_dearest_68 rfl ?_
  refine r_iload X dX12_dearest_69 rfl ?_
  refine r_V2i X kv_X12_421 dX12_dearest_71 (apG (k := 0) hn rfl) rfl (km24_X12_greater l G _ _ hn _) rfl (fun x h' hΨ => ?_)
  obtain ⟨rfl, rfl⟩ := hΨ
  refine r_istore_n X dX12_dearest_74 (by decide) ?_
  refine r_iinc (v := 9) X dX12_dearest_75 rfl (by decide +kernel) (by decide) ?_
  refine r_goto (tgt := 7) X dX12_dearest_78 rfl ?_
  refine r_iload X dX12_dearest_7 rfl ?_
  refine r_bipush (v := 10) X dX12_dearest_9 (by decide +kernel) ?_
  refine r_icmp_ge_f (tgt := 81) X dX12_dearest_11 rfl (by decide +kernel) ?_
  refine r_iconst (v := 0) X dX12_dearest_14 (by decide +kernel) ?_
  refine r_istore X dX12_dearest_15 (by decide) ?_
  refine r_eq (ls' := [some (vR (n + 0)), some (vI 0), some (vI 0), some (vI ((-1))), some (vI 9), some (vI 0), some (vI 0)]) rfl rfl rfl ?_
  refine r_iconst (v := 0) X dX12_dearest_17 (by decide +kernel) ?_
  refine r_istore X dX12_dearest_18 (by decide) ?_
  refine r_iload X dX12_dearest_20 rfl ?_
  refine r_aload_n X dX12_dearest_22 rfl ?_
  refine a_get (a := 0) X hn fg_X12_467 dX12_dearest_23 rfl rfl ?_
  refine r_icmp_ge_t (tgt := 53) X dX12_dearest_26 rfl (by decide +kernel) ?_
  refine r_iconst (v := 2) X dX12_dearest_53 (by decide +kernel) ?_
  refine r_iload X dX12_dearest_54 rfl ?_
  refine r_imulE (v := 0) X dX12_dearest_56 (by decide +kernel) ?_
  refine r_aload_n X dX12_dearest_57 rfl ?_
  refine a_get (a := 0) X hn fg_X12_467 dX12_dearest_58 rfl rfl ?_
  refine r_icmp_le_t (tgt := 67) X dX12_dearest_61 rfl (by decide +kernel) ?_
  refine r_aload_n X dX12_dearest_67 rfl ?_
  refine r_iload_n X dX12_dearest_68 rfl ?_
  refine r_iload X dX12_dearest_69 rfl ?_
  refine r_V2i X kv_X12_421 dX12_dearest_71 (apG (k := 0) hn rfl) rfl (km24_X12_greater l G _ _ hn _) rfl (fun x h' hΨ => ?_)
  obtain ⟨rfl, rfl⟩ := hΨ
  refine r_istore_n X dX12_dearest_74 (by decide) ?_
  refine r_iinc (v := 10) X dX12_dearest_75 rfl (by decide +kernel) (by decide) ?_
  refine r_goto (tgt := 7) X dX12_dearest_78 rfl ?_
  refine r_iload X dX12_dearest_7 rfl ?_
  refine r_bipush (v := 10) X dX12_dearest_9 (by decide +kernel) ?_
  refine r_icmp_ge_t (tgt := 81) X dX12_dearest_11 rfl (by decide +kernel) ?_
  refine r_iload_n X dX12_dearest_81 rfl ?_
  refine r_if_eq_t (tgt := 89) X dX12_dearest_82 rfl (by decide +kernel) ?_
  refine r_iload_n X dX12_dearest_89 rfl ?_
  exact r_ret_i X hr hlk dX12_dearest_90 (Nat.le_of_ble_eq_true rfl) (Nat.le_of_ble_eq_true rfl) ⟨_, rfl, ⟨rfl, rfl⟩⟩
set_option maxRecDepth 100000 in
set_option maxHeartbeats 4000000 in
theorem km26_X12_dearest (l : Launch) (G : PG) (h0 : PH) (n : Nat) (hn : h0.length = n) (wf : Nat → Int32) : PMet l G yX12_dearest cX12_dearest 7 (some .int) 1 0 0 [vR (n + 0), vI 1] (h0 ++ (frM n wf)) (qI (fun x h' => x = (-1) ∧ h' = h0 ++ (frM n wf))) := by
  refine PMet.intro (by decide) (Nat.le_of_ble_eq_true rfl) ?_
  intro p e s m args below meth c X hr hlk hnm
  refine r_iconst (v := 0) X dX12_dearest_0 (by decide +kernel) ?_
  refine r_istore_n X dX12_dearest_1 (by decide) ?_
  refine r_iconst (v := -1) X dX12_dearest_2 (by decide +kernel) ?_
  refine r_istore_n X dX12_dearest_3 (by decide) ?_
  refine r_iconst (v := 0) X dX12_dearest_4 (by decide +kernel) ?_
  refine r_istore X dX12_dearest_5 (by decide) ?_
  refine r_iload X dX12_dearest_7 rfl ?_
  refine r_bipush (v := 10) X dX12_dearest_9 (by decide +kernel) ?_
  refine r_icmp_ge_f (tgt := 81) X dX12_dearest_11 rfl (by decide +kernel) ?_
  refine r_iconst (v := 0) X dX12_dearest_14 (by decide +kernel) ?_
  refine r_istore X dX12_dearest_15 (by decide) ?_
  refine r_iconst (v := 0) X dX12_dearest_17 (by decide +kernel) ?_
  refine r_istore X dX12_dearest_18 (by decide) ?_
  refine r_eq (ls' := [some (vR (n + 0)), some (vI 1), some (vI 0), some (vI ((-1))), some (vI 0), some (vI 0), some (vI 0)]) rfl rfl rfl ?_
  refine r_iload X dX12_dearest_20 rfl ?_
  refine r_aload_n X dX12_dearest_22 rfl ?_
  refine a_get (a := 0) X hn fg_X12_467 dX12_dearest_23 rfl rfl ?_
  refine r_icmp_ge_t (tgt := 53) X dX12_dearest_26 rfl (by decide +kernel) ?_
  refine r_iconst (v := 2) X dX12_dearest_53 (by decide +kernel) ?_
  refine r_iload X dX12_dearest_54 rfl ?_
  refine r_imulE (v := 0) X dX12_dearest_56 (by decide +kernel) ?_
  refine r_aload_n X dX12_dearest_57 rfl ?_
  refine a_get (a := 0) X hn fg_X12_467 dX12_dearest_58 rfl rfl ?_
  refine r_icmp_le_t (tgt := 67) X dX12_dearest_61 rfl (by decide +kernel) ?_
  refine r_aload_n X dX12_dearest_67 rfl ?_
  refine r_iload_n X dX12_dearest_68 rfl ?_
  refine r_iload X dX12_dearest_69 rfl ?_
  refine r_V2i X kv_X12_421 dX12_dearest_71 (apG (k := 0) hn rfl) rfl (km24_X12_greater l G _ _ hn _) rfl (fun x h' hΨ => ?_)
  obtain ⟨rfl, rfl⟩ := hΨ
  refine r_istore_n X dX12_dearest_74 (by decide) ?_
  refine r_iinc (v := 1) X dX12_dearest_75 rfl (by decide +kernel) (by decide) ?_
  refine r_goto (tgt := 7) X dX12_dearest_78 rfl ?_
  refine r_iload X dX12_dearest_7 rfl ?_
  refine r_bipush (v := 10) X dX12_dearest_9 (by decide +kernel) ?_
  refine r_icmp_ge_f (tgt := 81) X dX12_dearest_11 rfl (by decide +kernel) ?_
  refine r_iconst (v := 0) X dX12_dearest_14 (by decide +kernel) ?_
  refine r_istore X dX12_dearest_15 (by decide) ?_
  refine r_iconst (v := 0) X dX12_dearest_17 (by decide +kernel) ?_
  refine r_istore X dX12_dearest_18 (by decide) ?_
  refine r_iload X dX12_dearest_20 rfl ?_
  refine r_aload_n X dX12_dearest_22 rfl ?_
  refine a_get (a := 0) X hn fg_X12_467 dX12_dearest_23 rfl rfl ?_
  refine r_icmp_ge_t (tgt := 53) X dX12_dearest_26 rfl (by decide +kernel) ?_
  refine r_iconst (v := 2) X dX12_dearest_53 (by decide +kernel) ?_
  refine r_iload X dX12_dearest_54 rfl ?_
  refine r_imulE (v := 0) X dX12_dearest_56 (by decide +kernel) ?_
  refine r_aload_n X dX12_dearest_57 rfl ?_
  refine a_get (a := 0) X hn fg_X12_467 dX12_dearest_58 rfl rfl ?_
  refine r_icmp_le_t (tgt := 67) X dX12_dearest_61 rfl (by decide +kernel) ?_
  refine r_aload_n X dX12_dearest_67 rfl ?_
  refine r_iload_n X dX12_dearest_68 rfl ?_
  refine r_iload X dX12_dearest_69 rfl ?_
  refine r_V2i X kv_X12_421 dX12_dearest_71 (apG (k := 0) hn rfl) rfl (km24_X12_greater l G _ _ hn _) rfl (fun x h' hΨ => ?_)
  obtain ⟨rfl, rfl⟩ := hΨ
  refine r_istore_n X dX12_dearest_74 (by decide) ?_
  refine r_eq (ls' := [some (vR (n + 0)), some (vI 1), some (vI 0), some (vI ((-1))), some (vI 1), some (vI 0), some (vI 0)]) rfl rfl rfl ?_
  refine r_iinc (v := 2) X dX12_dearest_75 rfl (by decide +kernel) (by decide) ?_
  refine r_goto (tgt := 7) X dX12_dearest_78 rfl ?_
  refine r_iload X dX12_dearest_7 rfl ?_
  refine r_bipush (v := 10) X dX12_dearest_9 (by decide +kernel) ?_
  refine r_icmp_ge_f (tgt := 81) X dX12_dearest_11 rfl (by decide +kernel) ?_
  refine r_iconst (v := 0) X dX12_dearest_14 (by decide +kernel) ?_
  refine r_istore X dX12_dearest_15 (by decide) ?_
  refine r_iconst (v := 0) X dX12_dearest_17 (by decide +kernel) ?_
  refine r_istore X dX12_dearest_18 (by decide) ?_
  refine r_iload X dX12_dearest_20 rfl ?_
  refine r_aload_n X dX12_dearest_22 rfl ?_
  refine a_get (a := 0) X hn fg_X12_467 dX12_dearest_23 rfl rfl ?_
  refine r_icmp_ge_t (tgt := 53) X dX12_dearest_26 rfl (by decide +kernel) ?_
  refine r_iconst (v := 2) X dX12_dearest_53 (by decide +kernel) ?_
  refine r_iload X dX12_dearest_54 rfl ?_
  refine r_imulE (v := 0) X dX12_dearest_56 (by decide +kernel) ?_
  refine r_aload_n X dX12_dearest_57 rfl ?_
  refine a_get (a := 0) X hn fg_X12_467 dX12_dearest_58 rfl rfl ?_
  refine r_icmp_le_t (tgt := 67) X dX12_dearest_61 rfl (by decide +kernel) ?_
  refine r_aload_n X dX12_dearest_67 rfl ?_
  refine r_iload_n X dX12_dearest_68 rfl ?_
  refine r_iload X dX12_dearest_69 rfl ?_
  refine r_V2i X kv_X12_421 dX12_dearest_71 (apG (k := 0) hn rfl) rfl (km24_X12_greater l G _ _ hn _) rfl (fun x h' hΨ => ?_)
  obtain ⟨rfl, rfl⟩ := hΨ
  refine r_istore_n X dX12_dearest_74 (by decide) ?_
  refine r_iinc (v := 3) X dX12_dearest_75 rfl (by decide +kernel) (by decide) ?_
  refine r_eq (ls' := [some (vR (n + 0)), some (vI 1), some (vI 0), some (vI ((-1))), some (vI 3), some (vI 0), some (vI 0)]) rfl rfl rfl ?_
  refine r_goto (tgt := 7) X dX12_dearest_78 rfl ?_
  refine r_iload X dX12_dearest_7 rfl ?_
  refine r_bipush (v := 10) X dX12_dearest_9 (by decide +kernel) ?_
  refine r_icmp_ge_f (tgt := 81) X dX12_dearest_11 rfl (by decide +kernel) ?_
  refine r_iconst (v := 0) X dX12_dearest_14 (by decide +kernel) ?_
  refine r_istore X dX12_dearest_15 (by decide) ?_
  refine r_iconst (v := 0) X dX12_dearest_17 (by decide +kernel) ?_
  refine r_istore X dX12_dearest_18 (by decide) ?_
  refine r_iload X dX12_dearest_20 rfl ?_
  refine r_aload_n X dX12_dearest_22 rfl ?_
  refine a_get (a := 0) X hn fg_X12_467 dX12_dearest_23 rfl rfl ?_
  refine r_icmp_ge_t (tgt := 53) X dX12_dearest_26 rfl (by decide +kernel) ?_
  refine r_iconst (v := 2) X dX12_dearest_53 (by decide +kernel) ?_
  refine r_iload X dX12_dearest_54 rfl ?_
  refine r_imulE (v := 0) X dX12_dearest_56 (by decide +kernel) ?_
  refine r_aload_n X dX12_dearest_57 rfl ?_
  refine a_get (a := 0) X hn fg_X12_467 dX12_dearest_58 rfl rfl ?_
  refine r_icmp_le_t (tgt := 67) X dX12_dearest_61 rfl (by decide +kernel) ?_
  refine r_aload_n X dX12_dearest_67 rfl ?_
  refine r_iload_n X dX12_dearest_68 rfl ?_
  refine r_iload X dX12_dearest_69 rfl ?_
  refine r_V2i X kv_X12_421 dX12_dearest_71 (apG (k := 0) hn rfl) rfl (km24_X12_greater l G _ _ hn _) rfl (fun x h' hΨ => ?_)
  obtain ⟨rfl, rfl⟩ := hΨ
  refine r_istore_n X dX12_dearest_74 (by decide) ?_
  refine r_iinc (v := 4) X dX12_dearest_75 rfl (by decide +kernel) (by decide) ?_
  refine r_goto (tgt := 7) X dX12_dearest_78 rfl ?_
  refine r_iload X dX12_dearest_7 rfl ?_
  refine r_bipush (v := 10) X dX12_dearest_9 (by decide +kernel) ?_
  refine r_icmp_ge_f (tgt := 81) X dX12_dearest_11 rfl (by decide +kernel) ?_
  refine r_iconst (v := 0) X dX12_dearest_14 (by decide +kernel) ?_
  refine r_istore X dX12_dearest_15 (by decide) ?_
  refine r_eq (ls' := [some (vR (n + 0)), some (vI 1), some (vI 0), some (vI ((-1))), some (vI 4), some (vI 0), some (vI 0)]) rfl rfl rfl ?_
  refine r_iconst (v := 0) X dX12_dearest_17 (by decide +kernel) ?_
  refine r_istore X dX12_dearest_18 (by decide) ?_
  refine r_iload X dX12_dearest_20 rfl ?_
  refine r_aload_n X dX12_dearest_22 rfl ?_
  refine a_get (a := 0) X hn fg_X12_467 dX12_dearest_23 rfl rfl ?_
  refine r_icmp_ge_t (tgt := 53) X dX12_dearest_26 rfl (by decide +kernel) ?_
  refine r_iconst (v := 2) X dX12_dearest_53 (by decide +kernel) ?_
  refine r_iload X dX12_dearest_54 rfl ?_
  refine r_imulE (v := 0) X dX12_dearest_56 (by decide +kernel) ?_
  refine r_aload_n X dX12_dearest_57 rfl ?_
  refine a_get (a := 0) X hn fg_X12_467 dX12_dearest_58 rfl rfl ?_
  refine r_icmp_le_t (tgt := 67) X dX12_dearest_61 rfl (by decide +kernel) ?_
  refine r_aload_n X dX12_dearest_67 rfl ?_
  refine r_iload_n X dX12_dearest_68 rfl ?_
  refine r_iload X dX12_dearest_69 rfl ?_
  refine r_V2i X kv_X12_421 dX12_dearest_71 (apG (k := 0) hn rfl) rfl (km24_X12_greater l G _ _ hn _) rfl (fun x h' hΨ => ?_)
  obtain ⟨rfl, rfl⟩ := hΨ
  refine r_istore_n X dX12_dearest_74 (by decide) ?_
  refine r_iinc (v := 5) X dX12_dearest_75 rfl (by decide +kernel) (by decide) ?_
  refine r_goto (tgt := 7) X dX12_dearest_78 rfl ?_
  refine r_iload X dX12_dearest_7 rfl ?_
  refine r_bipush (v := 10) X dX12_dearest_9 (by decide +kernel) ?_
  refine r_icmp_ge_f (tgt := 81) X dX12_dearest_11 rfl (by decide +kernel) ?_
  refine r_iconst (v := 0) X dX12_dearest_14 (by decide +kernel) ?_
  refine r_istore X dX12_dearest_15 (by decide) ?_
  refine r_iconst (v := 0) X dX12_dearest_17 (by decide +kernel) ?_
  refine r_istore X dX12_dearest_18 (by decide) ?_
  refine r_eq (ls' := [some (vR (n + 0)), some (vI 1), some (vI 0), some (vI ((-1))), some (vI 5), some (vI 0), some (vI 0)]) rfl rfl rfl ?_
  refine r_iload X dX12_dearest_20 rfl ?_
  refine r_aload_n X dX12_dearest_22 rfl ?_
  refine a_get (a := 0) X hn fg_X12_467 dX12_dearest_23 rfl rfl ?_
  refine r_icmp_ge_t (tgt := 53) X dX12_dearest_26 rfl (by decide +kernel) ?_
  refine r_iconst (v := 2) X dX12_dearest_53 (by decide +kernel) ?_
  refine r_iload X dX12_dearest_54 rfl ?_
  refine r_imulE (v := 0) X dX12_dearest_56 (by decide +kernel) ?_
  refine r_aload_n X dX12_dearest_57 rfl ?_
  refine a_get (a := 0) X hn fg_X12_467 dX12_dearest_58 rfl rfl ?_
  refine r_icmp_le_t (tgt := 67) X dX12_dearest_61 rfl (by decide +kernel) ?_
  refine r_aload_n X dX12_dearest_67 rfl ?_
  refine r_iload_n X dX12_dearest_68 rfl ?_
  refine r_iload X dX12_dearest_69 rfl ?_
  refine r_V2i X kv_X12_421 dX12_dearest_71 (apG (k := 0) hn rfl) rfl (km24_X12_greater l G _ _ hn _) rfl (fun x h' hΨ => ?_)
  obtain ⟨rfl, rfl⟩ := hΨ
  refine r_istore_n X dX12_dearest_74 (by decide) ?_
  refine r_iinc (v := 6) X dX12_dearest_75 rfl (by decide +kernel) (by decide) ?_
  refine r_goto (tgt := 7) X dX12_dearest_78 rfl ?_
  refine r_iload X dX12_dearest_7 rfl ?_
  refine r_bipush (v := 10) X dX12_dearest_9 (by decide +kernel) ?_
  refine r_icmp_ge_f (tgt := 81) X dX12_dearest_11 rfl (by decide +kernel) ?_
  refine r_iconst (v := 0) X dX12_dearest_14 (by decide +kernel) ?_
  refine r_istore X dX12_dearest_15 (by decide) ?_
  refine r_iconst (v := 0) X dX12_dearest_17 (by decide +kernel) ?_
  refine r_istore X dX12_dearest_18 (by decide) ?_
  refine r_iload X dX12_dearest_20 rfl ?_
  refine r_aload_n X dX12_dearest_22 rfl ?_
  refine a_get (a := 0) X hn fg_X12_467 dX12_dearest_23 rfl rfl ?_
  refine r_icmp_ge_t (tgt := 53) X dX12_dearest_26 rfl (by decide +kernel) ?_
  refine r_iconst (v := 2) X dX12_dearest_53 (by decide +kernel) ?_
  refine r_iload X dX12_dearest_54 rfl ?_
  refine r_imulE (v := 0) X dX12_dearest_56 (by decide +kernel) ?_
  refine r_aload_n X dX12_dearest_57 rfl ?_
  refine a_get (a := 0) X hn fg_X12_467 dX12_dearest_58 rfl rfl ?_
  refine r_icmp_le_t (tgt := 67) X dX12_dearest_61 rfl (by decide +kernel) ?_
  refine r_aload_n X dX12_dearest_67 rfl ?_
  refine r_iload_n X dX12_dearest_68 rfl ?_
  refine r_iload X dX12_dearest_69 rfl ?_
  refine r_V2i X kv_X12_421 dX12_dearest_71 (apG (k := 0) hn rfl) rfl (km24_X12_greater l G _ _ hn _) rfl (fun x h' hΨ => ?_)
  obtain ⟨rfl, rfl⟩ := hΨ
  refine r_istore_n X dX12_dearest_74 (by decide) ?_
  refine r_eq (ls' := [some (vR (n + 0)), some (vI 1), some (vI 0), some (vI ((-1))), some (vI 6), some (vI 0), some (vI 0)]) rfl rfl rfl ?_
  refine r_iinc (v := 7) X dX12_dearest_75 rfl (by decide +kernel) (by decide) ?_
  refine r_goto (tgt := 7) X dX12_dearest_78 rfl ?_
  refine r_iload X dX12_dearest_7 rfl ?_
  refine r_bipush (v := 10) X dX12_dearest_9 (by decide +kernel) ?_
  refine r_icmp_ge_f (tgt := 81) X dX12_dearest_11 rfl (by decide +kernel) ?_
  refine r_iconst (v := 0) X dX12_dearest_14 (by decide +kernel) ?_
  refine r_istore X dX12_dearest_15 (by decide) ?_
  refine r_iconst (v := 0) X dX12_dearest_17 (by decide +kernel) ?_
  refine r_istore X dX12_dearest_18 (by decide) ?_
  refine r_iload X dX12_dearest_20 rfl ?_
  refine r_aload_n X dX12_dearest_22 rfl ?_
  refine a_get (a := 0) X hn fg_X12_467 dX12_dearest_23 rfl rfl ?_
  refine r_icmp_ge_t (tgt := 53) X dX12_dearest_26 rfl (by decide +kernel) ?_
  refine r_iconst (v := 2) X dX12_dearest_53 (by decide +kernel) ?_
  refine r_iload X dX12_dearest_54 rfl ?_
  refine r_imulE (v := 0) X dX12_dearest_56 (by decide +kernel) ?_
  refine r_aload_n X dX12_dearest_57 rfl ?_
  refine a_get (a := 0) X hn fg_X12_467 dX12_dearest_58 rfl rfl ?_
  refine r_icmp_le_t (tgt := 67) X dX12_dearest_61 rfl (by decide +kernel) ?_
  refine r_aload_n X dX12_dearest_67 rfl ?_
  refine r_iload_n X dX12_dearest_68 rfl ?_
  refine r_iload X dX12_dearest_69 rfl ?_
  refine r_V2i X kv_X12_421 dX12_dearest_71 (apG (k := 0) hn rfl) rfl (km24_X12_greater l G _ _ hn _) rfl (fun x h' hΨ => ?_)
  obtain ⟨rfl, rfl⟩ := hΨ
  refine r_istore_n X dX12_dearest_74 (by decide) ?_
  refine r_iinc (v := 8) X dX12_dearest_75 rfl (by decide +kernel) (by decide) ?_
  refine r_eq (ls' := [some (vR (n + 0)), some (vI 1), some (vI 0), some (vI ((-1))), some (vI 8), some (vI 0), some (vI 0)]) rfl rfl rfl ?_
  refine r_goto (tgt := 7) X dX12_dearest_78 rfl ?_
  refine r_iload X dX12_dearest_7 rfl ?_
  refine r_bipush (v := 10) X dX12_dearest_9 (by decide +kernel) ?_
  refine r_icmp_ge_f (tgt := 81) X dX12_dearest_11 rfl (by decide +kernel) ?_
  refine r_iconst (v := 0) X dX12_dearest_14 (by decide +kernel) ?_
  refine r_istore X dX12_dearest_15 (by decide) ?_
  refine r_iconst (v := 0) X dX12_dearest_17 (by decide +kernel) ?_
  refine r_istore X dX12_dearest_18 (by decide) ?_
  refine r_iload X dX12_dearest_20 rfl ?_
  refine r_aload_n X dX12_dearest_22 rfl ?_
  refine a_get (a := 0) X hn fg_X12_467 dX12_dearest_23 rfl rfl ?_
  refine r_icmp_ge_t (tgt := 53) X dX12_dearest_26 rfl (by decide +kernel) ?_
  refine r_iconst (v := 2) X dX12_dearest_53 (by decide +kernel) ?_
  refine r_iload X dX12_dearest_54 rfl ?_
  refine r_imulE (v := 0) X dX12_dearest_56 (by decide +kernel) ?_
  refine r_aload_n X dX12_dearest_57 rfl ?_
  refine a_get (a := 0) X hn fg_X12_467 dX12_dearest_58 rfl rfl ?_
  refine r_icmp_le_t (tgt := 67) X dX12_dearest_61 rfl (by decide +kernel) ?_
  refine r_aload_n X dX12_dearest_67 rfl ?_
  refine r_iload_n X dX12_dearest_68 rfl ?_
  refine r_iload X dX12_dearest_69 rfl ?_
  refine r_V2i X kv_X12_421 dX12_dearest_71 (apG (k := 0) hn rfl) rfl (km24_X12_greater l G _ _ hn _) rfl (fun x h' hΨ => ?_)
  obtain ⟨rfl, rfl⟩ := hΨ
  refine r_istore_n X dX12_dearest_74 (by decide) ?_
  refine r_iinc (v := 9) X dX12_dearest_75 rfl (by decide +kernel) (by decide) ?_
  refine r_goto (tgt := 7) X dX12_dearest_78 rfl ?_
  refine r_iload X dX12_dearest_7 rfl ?_
  refine r_bipush (v := 10) X dX12_dearest_9 (by decide +kernel) ?_
  refine r_icmp_ge_f (tgt := 81) X dX12_dearest_11 rfl (by decide +kernel) ?_
  refine r_iconst (v := 0) X dX12_dearest_14 (by decide +kernel) ?_
  refine r_istore X dX12_dearest_15 (by decide) ?_
  refine r_eq (ls' := [some (vR (n + 0)), some (vI 1), some (vI 0), some (vI ((-1))), some (vI 9), some (vI 0), some (vI 0)]) rfl rfl rfl ?_
  refine r_iconst (v := 0) X dX12_dearest_17 (by decide +kernel) ?_
  refine r_istore X dX12_dearest_18 (by decide) ?_
  refine r_iload X dX12_dearest_20 rfl ?_
  refine r_aload_n X dX12_dearest_22 rfl ?_
  refine a_get (a := 0) X hn fg_X12_467 dX12_dearest_23 rfl rfl ?_
  refine r_icmp_ge_t (tgt := 53) X dX12_dearest_26 rfl (by decide +kernel) ?_
  refine r_iconst (v := 2) X dX12_dearest_53 (by decide +kernel) ?_
  refine r_iload X dX12_dearest_54 rfl ?_
  refine r_imulE (v := 0) X dX12_dearest_56 (by decide +kernel) ?_
  refine r_aload_n X dX12_dearest_57 rfl ?_
  refine a_get (a := 0) X hn fg_X12_467 dX12_dearest_58 rfl rfl ?_
  refine r_icmp_le_t (tgt := 67) X dX12_dearest_61 rfl (by decide +kernel) ?_
  refine r_aload_n X dX12_dearest_67 rfl ?_
  refine r_iload_n X dX12_dearest_68 rfl ?_
  refine r_iload X dX12_dearest_69 rfl ?_
  refine r_V2i X kv_X12_421 dX12_dearest_71 (apG (k := 0) hn rfl) rfl (km24_X12_greater l G _ _ hn _) rfl (fun x h' hΨ => ?_)
  obtain ⟨rfl, rfl⟩ := hΨ
  refine r_istore_n X dX12_dearest_74 (by decide) ?_
  refine r_iinc (v := 10) X dX12_dearest_75 rfl (by decide +kernel) (by decide) ?_
  refine r_goto (tgt := 7) X dX12_dearest_78 rfl ?_
  refine r_iload X dX12_dearest_7 rfl ?_
  refine r_bipush (v := 10) X dX12_dearest_9 (by decide +kernel) ?_
  refine r_icmp_ge_t (tgt := 81) X dX12_dearest_11 rfl (by decide +kernel) ?_
  refine r_iload_n X dX12_dearest_81 rfl ?_
  refine r_if_eq_f (tgt := 89) X dX12_dearest_82 rfl (by decide +kernel) ?_
  refine r_iload_n X dX12_dearest_85 rfl ?_
  refine r_goto (tgt := 90) X dX12_dearest_86 rfl ?_
  exact r_ret_i X hr hlk dX12_dearest_90 (Nat.le_of_ble_eq_true rfl) (Nat.le_of_ble_eq_true rfl) ⟨_, rfl, ⟨rfl, rfl⟩⟩
set_option maxRecDepth 100000 in
set_option maxHeartbeats 4000000 in
theorem m_middle (l : Launch) (G : PG) (h0 : PH) (n : Nat) (hn : h0.length = n) (wf : Nat → Int32) (a : Int32) : PMet l G yX12_middle cX12_middle 5 (some .int) 2 0 0 [vR (n + 0), vI a] (h0 ++ (frM n wf)) (qI (fun x h' => x = sp_middle a)) := by
  refine PMet.intro (by decide) (Nat.le_of_ble_eq_true rfl) ?_
  intro p e s m args below meth c X hr hlk hnm
  refine r_aload_n X dX12_middle_0 rfl ?_
  refine r_iconst (v := 0) X dX12_middle_1 (by decide +kernel) ?_
  refine a_put (a := 0) X hn fp_X12_140 dX12_middle_2 rfl rfl rfl rfl ?_
  refine r_eq (h' := h0 ++ (frM n wf)) rfl rfl rfl ?_
  refine r_aload_n X dX12_middle_5 rfl ?_
  refine r_iload_n X dX12_middle_6 rfl ?_
  refine r_iconst (v := 0) X dX12_middle_7 (by decide +kernel) ?_
  refine r_iconst (v := 3) X dX12_middle_8 (by decide +kernel) ?_
  refine r_V3i X kv_X12_155 dX12_middle_9 (apG (k := 0) hn rfl) rfl (km5_X12_isIn l G _ _ hn _ _) rfl (fun x h' hΨ => ?_)
  rcases hΨ with ⟨q1, rfl, rfl⟩ | ⟨q2, q3, rfl, rfl⟩ | ⟨q4, q5, rfl, rfl⟩
  · refine r_if_ne_f (tgt := 17) X dX12_middle_12 rfl (by decide +kernel) ?_
    refine r_iconst (v := -1) X dX12_middle_15 (by decide +kernel) ?_
    exact r_ret_i X hr hlk dX12_middle_16 (Nat.le_of_ble_eq_true rfl) (Nat.le_of_ble_eq_true rfl) ⟨_, rfl, by unfold sp_middle; (repeat' split) <;> first | rfl | (exfalso; have e0 : (-1 : Int32).toInt = -1 := (by decide); have e1 : (0 : Int32).toInt = 0 := (by decide); have e2 : (1 : Int32).toInt = 1 := (by decide); have e3 : (3 : Int32).toInt = 3 := (by decide); simp only [inR, Int32.lt_iff_toInt_lt, Int32.le_iff_toInt_le, ← Int32.toInt_inj, true_or, or_true, not_true_eq_false, and_true, true_and, false_or, or_false, false_and, and_false, not_false_eq_true] at * <;> omega)⟩
  · refine r_if_ne_f (tgt := 17) X dX12_middle_12 rfl (by decide +kernel) ?_
    refine r_iconst (v := -1) X dX12_middle_15 (by decide +kernel) ?_
    exact r_ret_i X hr hlk dX12_middle_16 (Nat.le_of_ble_eq_true rfl) (Nat.le_of_ble_eq_true rfl) ⟨_, rfl, by unfold sp_middle; (repeat' split) <;> first | rfl | (exfalso; have e0 : (-1 : Int32).toInt = -1 := (by decide); have e1 : (0 : Int32).toInt = 0 := (by decide); have e2 : (1 : Int32).toInt = 1 := (by decide); have e3 : (3 : Int32).toInt = 3 := (by decide); simp only [inR, Int32.lt_iff_toInt_lt, Int32.le_iff_toInt_le, ← Int32.toInt_inj, true_or, or_true, not_true_eq_false, and_true, true_and, false_or, or_false, false_and, and_false, not_false_eq_true] at * <;> omega)⟩
  · refine r_if_ne_t (tgt := 17) X dX12_middle_12 rfl (by decide +kernel) ?_
    refine r_iload_n X dX12_middle_17 rfl ?_
    refine r_iconst (v := 1) X dX12_middle_18 (by decide +kernel) ?_
    refine r_icmp_le (tgt := 37) X dX12_middle_19 rfl (fun q6 => ?_) (fun q6 => ?_)
    · refine r_aload_n X dX12_middle_37 rfl ?_
      refine r_V0i X kv_X12_473 dX12_middle_38 (apG (k := 0) hn rfl) rfl (km23_X12_middleOf l G _ _ hn _) rfl (fun x h' hΨ => ?_)
      obtain ⟨rfl, rfl⟩ := hΨ
      refine r_istore_n X dX12_middle_41 (by decide) ?_
      refine r_iload_n X dX12_middle_42 rfl ?_
      refine r_if_ne (tgt := 48) X dX12_middle_43 rfl (fun q7 => ?_) (fun q7 => ?_)
      · refine r_iconst (v := 0) X dX12_middle_48 (by decide +kernel) ?_
        refine r_istore_n X dX12_middle_49 (by decide) ?_
        refine r_iconst (v := 0) X dX12_middle_50 (by decide +kernel) ?_
        refine r_istore X dX12_middle_51 (by decide) ?_
        refine r_iload X dX12_middle_53 rfl ?_
        refine r_aload_n X dX12_middle_55 rfl ?_
        refine a_get (a := 0) X hn fg_X12_464 dX12_middle_56 rfl rfl ?_
        refine r_icmp_ge_t (tgt := 83) X dX12_middle_59 rfl (by decide +kernel) ?_
        refine r_iload_n X dX12_middle_83 rfl ?_
        exact r_ret_i X hr hlk dX12_middle_84 (Nat.le_of_ble_eq_true rfl) (Nat.le_of_ble_eq_true rfl) ⟨_, rfl, by unfold sp_middle; (repeat' split) <;> first | rfl | (exfalso; have e0 : (-1 : Int32).toInt = -1 := (by decide); have e1 : (0 : Int32).toInt = 0 := (by decide); have e2 : (1 : Int32).toInt = 1 := (by decide); have e3 : (3 : Int32).toInt = 3 := (by decide); simp only [inR, Int32.lt_iff_toInt_lt, Int32.le_iff_toInt_le, ← Int32.toInt_inj, true_or, or_true, not_true_eq_false, and_true, true_and, false_or, or_false, false_and, and_false, not_false_eq_true] at * <;> omega)⟩
      · refine r_iload_n X dX12_middle_46 rfl ?_
        exact r_ret_i X hr hlk dX12_middle_47 (Nat.le_of_ble_eq_true rfl) (Nat.le_of_ble_eq_true rfl) ⟨_, rfl, by unfold sp_middle; (repeat' split) <;> first | rfl | (exfalso; have e0 : (-1 : Int32).toInt = -1 := (by decide); have e1 : (0 : Int32).toInt = 0 := (by decide); have e2 : (1 : Int32).toInt = 1 := (by decide); have e3 : (3 : Int32).toInt = 3 := (by decide); simp only [inR, Int32.lt_iff_toInt_lt, Int32.le_iff_toInt_le, ← Int32.toInt_inj, true_or, or_true, not_true_eq_false, and_true, true_and, false_or, or_false, false_and, and_false, not_false_eq_true] at * <;> omega)⟩
    · refine r_aload_n X dX12_middle_22 rfl ?_
      refine r_iload_n X dX12_middle_23 rfl ?_
      refine r_iconst (v := 2) X dX12_middle_24 (by decide +kernel) ?_
      refine r_icmp_ne (tgt := 32) X dX12_middle_25 rfl (fun q8 => ?_) (fun q8 => ?_)
      · refine r_iconst (v := 0) X dX12_middle_32 (by decide +kernel) ?_
        refine r_V1i X kv_X12_470 dX12_middle_33 (apG (k := 0) hn rfl) rfl (km25_X12_dearest l G _ _ hn _) rfl (fun x h' hΨ => ?_)
        obtain ⟨rfl, rfl⟩ := hΨ
        exact r_ret_i X hr hlk dX12_middle_36 (Nat.le_of_ble_eq_true rfl) (Nat.le_of_ble_eq_true rfl) ⟨_, rfl, by unfold sp_middle; (repeat' split) <;> first | rfl | (exfalso; have e0 : (-1 : Int32).toInt = -1 := (by decide); have e1 : (0 : Int32).toInt = 0 := (by decide); have e2 : (1 : Int32).toInt = 1 := (by decide); have e3 : (2 : Int32).toInt = 2 := (by decide); have e4 : (3 : Int32).toInt = 3 := (by decide); simp only [inR, Int32.lt_iff_toInt_lt, Int32.le_iff_toInt_le, ← Int32.toInt_inj, true_or, or_true, not_true_eq_false, and_true, true_and, false_or, or_false, false_and, and_false, not_false_eq_true] at * <;> omega)⟩
      · refine r_iconst (v := 1) X dX12_middle_28 (by decide +kernel) ?_
        refine r_goto (tgt := 33) X dX12_middle_29 rfl ?_
        refine r_V1i X kv_X12_470 dX12_middle_33 (apG (k := 0) hn rfl) rfl (km26_X12_dearest l G _ _ hn _) rfl (fun x h' hΨ => ?_)
        obtain ⟨rfl, rfl⟩ := hΨ
        exact r_ret_i X hr hlk dX12_middle_36 (Nat.le_of_ble_eq_true rfl) (Nat.le_of_ble_eq_true rfl) ⟨_, rfl, by unfold sp_middle; (repeat' split) <;> first | rfl | (exfalso; have e0 : (-1 : Int32).toInt = -1 := (by decide); have e1 : (0 : Int32).toInt = 0 := (by decide); have e2 : (1 : Int32).toInt = 1 := (by decide); have e3 : (2 : Int32).toInt = 2 := (by decide); have e4 : (3 : Int32).toInt = 3 := (by decide); simp only [inR, Int32.lt_iff_toInt_lt, Int32.le_iff_toInt_le, ← Int32.toInt_inj, true_or, or_true, not_true_eq_false, and_true, true_and, false_or, or_false, false_and, and_false, not_false_eq_true] at * <;> omega)⟩
