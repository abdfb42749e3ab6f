set_option maxRecDepth 100000 in
set_option maxHeartbeats 4000000 in
theorem km28_X12_isIn (l : Launch) (G : PG) (h0 : PH) (n : Nat) (hn : h0.length = n) (wf : Nat → Int32) (z0 : Int32) : PMet l G yX12_isIn cX12_isIn 4 (some .boolean) 0 0 0 [vR (n + 0), vI z0, vI 0, vI 200] (h0 ++ (frM n wf)) (qI (fun x h' => ((z0 < 0) ∧ x = 0 ∧ h' = h0 ++ (frM n wf)) ∨ ((¬ z0 < 0) ∧ (200 < z0) ∧ x = 0 ∧ h' = h0 ++ (frM n wf)) ∨ ((¬ z0 < 0) ∧ (¬ 200 < z0) ∧ x = 1 ∧ h' = h0 ++ (frM n wf)))) := by
  refine PMet.intro (by decide) (Nat.le_of_ble_eq_true rfl) ?_
  intro p e s m args below meth c X hr hlk hnm
  refine r_iload_n X dX12_isIn_0 rfl ?_
  refine r_iload_n X dX12_isIn_1 rfl ?_
  refine r_icmp_lt (tgt := 14) X dX12_isIn_2 rfl (fun q1 => ?_) (fun q1 => ?_)
  · refine r_iconst (v := 0) X dX12_isIn_14 (by decide +kernel) ?_
    exact r_ret_z X hr hlk (Or.inl rfl) dX12_isIn_15 (Nat.le_of_ble_eq_true rfl) (Nat.le_of_ble_eq_true rfl) ⟨_, rfl, Or.inl ⟨q1, rfl, rfl⟩⟩
  · refine r_iload_n X dX12_isIn_5 rfl ?_
    refine r_iload_n X dX12_isIn_6 rfl ?_
    refine r_icmp_gt (tgt := 14) X dX12_isIn_7 rfl (fun q2 => ?_) (fun q2 => ?_)
    · refine r_iconst (v := 0) X dX12_isIn_14 (by decide +kernel) ?_
      exact r_ret_z X hr hlk (Or.inl rfl) dX12_isIn_15 (Nat.le_of_ble_eq_true rfl) (Nat.le_of_ble_eq_true rfl) ⟨_, rfl, Or.inr (Or.inl ⟨q1, q2, rfl, rfl⟩)⟩
    · refine r_iconst (v := 1) X dX12_isIn_10 (by decide +kernel) ?_
      refine r_goto (tgt := 15) X dX12_isIn_11 rfl ?_
      exact r_ret_z X hr hlk (Or.inr rfl) dX12_isIn_15 (Nat.le_of_ble_eq_true rfl) (Nat.le_of_ble_eq_true rfl) ⟨_, rfl, Or.inr (Or.inr (⟨q1, q2, rfl, rfl⟩))⟩
set_option maxRecDepth 100000 in
set_option maxHeartbeats 4000000 in
theorem m_door (l : Launch) (G : PG) (h0 : PH) (n : Nat) (hn : h0.length = n) (wf : Nat → Int32) (a b : Int32) : PMet l G yX12_door cX12_door 3 (some .int) 1 0 0 [vR (n + 0), vI a, vI b] (h0 ++ (frM n wf)) (qI (fun x h' => x = sp_door a b)) := by
  refine PMet.intro (by decide) (Nat.le_of_ble_eq_true rfl) ?_
  intro p e s m args below meth c X hr hlk hnm
  refine r_aload_n X dX12_door_0 rfl ?_
  refine r_iconst (v := 0) X dX12_door_1 (by decide +kernel) ?_
  refine a_put (a := 0) X hn fp_X12_140 dX12_door_2 rfl rfl rfl rfl ?_
  refine r_eq (h' := h0 ++ (frM n wf)) rfl rfl rfl ?_
  refine r_iload_n X dX12_door_5 rfl ?_
  refine r_iconst (v := -1) X dX12_door_6 (by decide +kernel) ?_
  refine r_icmp_ne (tgt := 17) X dX12_door_7 rfl (fun q1 => ?_) (fun q1 => ?_)
  · refine r_aload_n X dX12_door_17 rfl ?_
    refine r_iload_n X dX12_door_18 rfl ?_
    refine r_iconst (v := 1) X dX12_door_19 (by decide +kernel) ?_
    refine r_bipush (v := 50) X dX12_door_20 (by decide +kernel) ?_
    refine r_V3i X kv_X12_155 dX12_door_22 (apG (k := 0) hn rfl) rfl (km27_X12_isIn l G _ _ hn _ _) rfl (fun x h' hΨ => ?_)
    rcases hΨ with ⟨q2, rfl, rfl⟩ | ⟨q3, q4, rfl, rfl⟩ | ⟨q5, q6, rfl, rfl⟩
    · refine r_if_eq_t (tgt := 49) X dX12_door_25 rfl (by decide +kernel) ?_
      refine r_iconst (v := -1) X dX12_door_49 (by decide +kernel) ?_
      exact r_ret_i X hr hlk dX12_door_50 (Nat.le_of_ble_eq_true rfl) (Nat.le_of_ble_eq_true rfl) ⟨_, rfl, by unfold sp_door; (repeat' split) <;> first | rfl | (exfalso; have e0 : (-1 : Int32).toInt = -1 := (by decide); have e1 : (0 : Int32).toInt = 0 := (by decide); have e2 : (1 : Int32).toInt = 1 := (by decide); have e3 : (200 : Int32).toInt = 200 := (by decide); have e4 : (50 : Int32).toInt = 50 := (by decide); simp only [inR, Int32.lt_iff_toInt_lt, Int32.le_iff_toInt_le, ← Int32.toInt_inj, true_or, or_true, not_true_eq_false, and_true, true_and, false_or, or_false, false_and, and_false, not_false_eq_true] at * <;> omega)⟩
    · refine r_if_eq_t (tgt := 49) X dX12_door_25 rfl (by decide +kernel) ?_
      refine r_iconst (v := -1) X dX12_door_49 (by decide +kernel) ?_
      exact r_ret_i X hr hlk dX12_door_50 (Nat.le_of_ble_eq_true rfl) (Nat.le_of_ble_eq_true rfl) ⟨_, rfl, by unfold sp_door; (repeat' split) <;> first | rfl | (exfalso; have e0 : (-1 : Int32).toInt = -1 := (by decide); have e1 : (0 : Int32).toInt = 0 := (by decide); have e2 : (1 : Int32).toInt = 1 := (by decide); have e3 : (200 : Int32).toInt = 200 := (by decide); have e4 : (50 : Int32).toInt = 50 := (by decide); simp only [inR, Int32.lt_iff_toInt_lt, Int32.le_iff_toInt_le, ← Int32.toInt_inj, true_or, or_true, not_true_eq_false, and_true, true_and, false_or, or_false, false_and, and_false, not_false_eq_true] at * <;> omega)⟩
    · refine r_if_eq_f (tgt := 49) X dX12_door_25 rfl (by decide +kernel) ?_
      refine r_aload_n X dX12_door_28 rfl ?_
      refine r_iload_n X dX12_door_29 rfl ?_
      refine r_iconst (v := 0) X dX12_door_30 (by decide +kernel) ?_
      refine r_sipush (v := 200) X dX12_door_31 (by decide +kernel) ?_
      refine r_V3i X kv_X12_155 dX12_door_34 (apG (k := 0) hn rfl) rfl (km28_X12_isIn l G _ _ hn _ _) rfl (fun x h' hΨ => ?_)
      rcases hΨ with ⟨q7, rfl, rfl⟩ | ⟨q8, q9, rfl, rfl⟩ | ⟨q10, q11, rfl, rfl⟩
      · refine r_if_eq_t (tgt := 49) X dX12_door_37 rfl (by decide +kernel) ?_
        refine r_iconst (v := -1) X dX12_door_49 (by decide +kernel) ?_
        exact r_ret_i X hr hlk dX12_door_50 (Nat.le_of_ble_eq_true rfl) (Nat.le_of_ble_eq_true rfl) ⟨_, rfl, by unfold sp_door; (repeat' split) <;> first | rfl | (exfalso; have e0 : (-1 : Int32).toInt = -1 := (by decide); have e1 : (0 : Int32).toInt = 0 := (by decide); have e2 : (1 : Int32).toInt = 1 := (by decide); have e3 : (200 : Int32).toInt = 200 := (by decide); have e4 : (50 : Int32).toInt = 50 := (by decide); simp only [inR, Int32.lt_iff_toInt_lt, Int32.le_iff_toInt_le, ← Int32.toInt_inj, true_or, or_true, not_true_eq_false, and_true, true_and, false_or, or_false, false_and, and_false, not_false_eq_true] at * <;> omega)⟩
      · refine r_if_eq_t (tgt := 49) X dX12_door_37 rfl (by decide +kernel) ?_
        refine r_iconst (v := -1) X dX12_door_49 (by decide +kernel) ?_
        exact r_ret_i X hr hlk dX12_door_50 (Nat.le_of_ble_eq_true rfl) (Nat.le_of_ble_eq_true rfl) ⟨_, rfl, by unfold sp_door; (repeat' split) <;> first | rfl | (exfalso; have e0 : (-1 : Int32).toInt = -1 := (by decide); have e1 : (0 : Int32).toInt = 0 := (by decide); have e2 : (1 : Int32).toInt = 1 := (by decide); have e3 : (200 : Int32).toInt = 200 := (by decide); have e4 : (50 : Int32).toInt = 50 := (by decide); simp only [inR, Int32.lt_iff_toInt_lt, Int32.le_iff_toInt_le, ← Int32.toInt_inj, true_or, or_true, not_true_eq_false, and_true, true_and, false_or, or_false, false_and, and_false, not_false_eq_true] at * <;> omega)⟩
      · refine r_if_eq_f (tgt := 49) X dX12_door_37 rfl (by decide +kernel) ?_
        refine r_aload_n X dX12_door_40 rfl ?_
        refine a_get (a := 0) X hn fg_X12_482 dX12_door_41 rfl rfl ?_
        refine r_bipush (v := 8) X dX12_door_44 (by decide +kernel) ?_
        refine r_icmp_ne_t (tgt := 51) X dX12_door_46 rfl (by decide +kernel) ?_
        refine r_aload_n X dX12_door_51 rfl ?_
        refine a_get (a := 0) X hn fg_X12_110 dX12_door_52 rfl rfl ?_
        refine r_aload_n X dX12_door_55 rfl ?_
        refine a_get (a := 0) X hn fg_X12_482 dX12_door_56 rfl rfl ?_
        refine r_iload_n X dX12_door_59 rfl ?_
        refine a_iast (a := 33) X hn dX12_door_60 rfl (inK (by decide +kernel)) ?_
        refine r_aload_n X dX12_door_61 rfl ?_
        refine a_get (a := 0) X hn fg_X12_113 dX12_door_62 rfl rfl ?_
        refine r_aload_n X dX12_door_65 rfl ?_
        refine a_get (a := 0) X hn fg_X12_482 dX12_door_66 rfl rfl ?_
        refine r_iload_n X dX12_door_69 rfl ?_
        refine a_iast (a := 34) X hn dX12_door_70 rfl (inK (by decide +kernel)) ?_
        refine r_aload_n X dX12_door_71 rfl ?_
        refine r_aload_n X dX12_door_72 rfl ?_
        refine a_get (a := 0) X hn fg_X12_482 dX12_door_73 rfl rfl ?_
        refine r_iconst (v := 1) X dX12_door_76 (by decide +kernel) ?_
        refine r_iaddE (v := 1) X dX12_door_77 (by decide +kernel) ?_
        refine a_put (a := 0) X hn fp_X12_482 dX12_door_78 rfl rfl rfl rfl ?_
        refine r_eq (h' := h0 ++ ((((frM n wf).set 0 (eO 12 [vI 0, vR (n + 1), vR (n + 2), vI 0, vR (n + 3), vI 0, vI 0, vR (n + 4), vR (n + 5), vR (n + 6), vR (n + 7), vR (n + 8), vI 0, vI 0, vI 0, vI 0, vI 0, vR (n + 9), vR (n + 10), vR (n + 11), vR (n + 12), vR (n + 13), vR (n + 14), vR (n + 15), vR (n + 16), vI 0, vI 0, vI 0, vR (n + 17), vI 0, vI 0, vI 0, vI 0, vI ((-1)), vI 0, vR (n + 18), vI 0, vR (n + 19), vI 0, vR (n + 20), vR (n + 21), vR (n + 22), vR (n + 23), vI 0, vR (n + 24), vR (n + 25), vI 0, vR (n + 26), vR (n + 27), vR (n + 28), vI 0, vR (n + 29), vI 0, vR (n + 30), vI 0, vR (n + 31), vR (n + 32), vI 1, vR (n + 33), vR (n + 34), vR (n + 35), vI 0, vR (n + 36), vI 0, vR (n + 37), vI 0, vR (n + 38), vR (n + 39), vR (n + 40), vR (n + 41), vI 0, vI 0, vI 0, vI 0, vI 0, vR (n + 42)])).set 33 (eI 8 (upd (fun _ => 0) (0 : Int32).toNatClampNeg (a)))).set 34 (eI 8 (upd (fun _ => 0) (0 : Int32).toNatClampNeg (b))))) rfl rfl rfl ?_
        refine r_aload_n X dX12_door_81 rfl ?_
        refine a_get (a := 0) X hn fg_X12_482 dX12_door_82 rfl rfl ?_
        exact r_ret_i X hr hlk dX12_door_85 (Nat.le_of_ble_eq_true rfl) (Nat.le_of_ble_eq_true rfl) ⟨_, rfl, by unfold sp_door; (repeat' split) <;> first | rfl | (exfalso; have e0 : (-1 : Int32).toInt = -1 := (by decide); have e1 : (0 : Int32).toInt = 0 := (by decide); have e2 : (1 : Int32).toInt = 1 := (by decide); have e3 : (200 : Int32).toInt = 200 := (by decide); have e4 : (50 : Int32).toInt = 50 := (by decide); simp only [inR, Int32.lt_iff_toInt_lt, Int32.le_iff_toInt_le, ← Int32.toInt_inj, true_or, or_true, not_true_eq_false, and_true, true_and, false_or, or_false, false_and, and_false, not_false_eq_true] at * <;> omega)⟩
  · refine r_aload_n X dX12_door_10 rfl ?_
    refine r_iconst (v := 0) X dX12_door_11 (by decide +kernel) ?_
    refine a_put (a := 0) X hn fp_X12_482 dX12_door_12 rfl rfl rfl rfl ?_
    refine r_eq (h' := h0 ++ (frM n wf)) rfl rfl rfl ?_
    refine r_iconst (v := 0) X dX12_door_15 (by decide +kernel) ?_
    exact r_ret_i X hr hlk dX12_door_16 (Nat.le_of_ble_eq_true rfl) (Nat.le_of_ble_eq_true rfl) ⟨_, rfl, by unfold sp_door; (repeat' split) <;> first | rfl | (exfalso; have e0 : (-1 : Int32).toInt = -1 := (by decide); have e1 : (0 : Int32).toInt = 0 := (by decide); have e2 : (1 : Int32).toInt = 1 := (by decide); have e3 : (200 : Int32).toInt = 200 := (by decide); have e4 : (50 : Int32).toInt = 50 := (by decide); simp only [inR, Int32.lt_iff_toInt_lt, Int32.le_iff_toInt_le, ← Int32.toInt_inj, true_or, or_true, not_true_eq_false, and_true, true_and, false_or, or_false, false_and, and_false, not_false_eq_true] at * <;> omega)⟩
