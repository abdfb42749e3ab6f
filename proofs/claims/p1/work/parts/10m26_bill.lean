set_option maxRecDepth 100000 in
set_option maxHeartbeats 4000000 in
theorem km33_X12_isIn (l : Launch) (G : PG) (h0 : PH) (n : Nat) (hn : h0.length = n) (wf : Nat → Int32) (z0 : Int32) : PMet l G yX12_isIn cX12_isIn 4 (some .boolean) 0 0 0 [vR (n + 0), vI z0, vI 0, vI 7] (h0 ++ (frM n wf)) (qI (fun x h' => ((z0 < 0) ∧ x = 0 ∧ h' = h0 ++ (frM n wf)) ∨ ((¬ z0 < 0) ∧ (7 < z0) ∧ x = 0 ∧ h' = h0 ++ (frM n wf)) ∨ ((¬ z0 < 0) ∧ (¬ 7 < z0) ∧ x = 1 ∧ h' = h0 ++ (frM n wf)))) := by
  refine PMet.intro (by decide) (Nat.le_of_ble_eq_true rfl) ?_
  intro p e s m args below meth c X hr hlk hnm
  refine r_iload_n X dX12_isIn_0 rfl ?_
  refine r_iload_n X dX12_isIn_1 rfl ?_
  refine r_icmp_lt (tgt := 14) X dX12_isIn_2 rfl (fun q1 => ?_) (fun q1 => ?_)
  · refine r_iconst (v := 0) X dX12_isIn_14 (by decide +kernel) ?_
    exact r_ret_z X hr hlk (Or.inl rfl) dX12_isIn_15 (Nat.le_of_ble_eq_true rfl) (Nat.le_of_ble_eq_true rfl) ⟨_, rfl, Or.inl ⟨q1, rfl, rfl⟩⟩
  · refine r_iload_n X dX12_isIn_5 rfl ?_
    refine r_iload_n X dX12_isIn_6 rfl ?_
    refine r_icmp_gt (tgt := 14) X dX12_isIn_7 rfl (fun q2 => ?_) (fun q2 => ?_)
    · refine r_iconst (v := 0) X dX12_isIn_14 (by decide +kernel) ?_
      exact r_ret_z X hr hlk (Or.inl rfl) dX12_isIn_15 (Nat.le_of_ble_eq_true rfl) (Nat.le_of_ble_eq_true rfl) ⟨_, rfl, Or.inr (Or.inl ⟨q1, q2, rfl, rfl⟩)⟩
    · refine r_iconst (v := 1) X dX12_isIn_10 (by decide +kernel) ?_
      refine r_goto (tgt := 15) X dX12_isIn_11 rfl ?_
      exact r_ret_z X hr hlk (Or.inr rfl) dX12_isIn_15 (Nat.le_of_ble_eq_true rfl) (Nat.le_of_ble_eq_true rfl) ⟨_, rfl, Or.inr (Or.inr (⟨q1, q2, rfl, rfl⟩))⟩
set_option maxRecDepth 100000 in
set_option maxHeartbeats 4000000 in
theorem m_bill (l : Launch) (G : PG) (h0 : PH) (n : Nat) (hn : h0.length = n) (wf : Nat → Int32) (a b : Int32) : PMet l G yX12_bill cX12_bill 4 (some .int) 1 0 0 [vR (n + 0), vI a, vI b] (h0 ++ (frM n wf)) (qI (fun x h' => x = sp_bill a b)) := by
  refine PMet.intro (by decide) (Nat.le_of_ble_eq_true rfl) ?_
  intro p e s m args below meth c X hr hlk hnm
  refine r_aload_n X dX12_bill_0 rfl ?_
  refine r_iconst (v := 0) X dX12_bill_1 (by decide +kernel) ?_
  refine a_put (a := 0) X hn fp_X12_140 dX12_bill_2 rfl rfl rfl rfl ?_
  refine r_eq (h' := h0 ++ (frM n wf)) rfl rfl rfl ?_
  refine r_iload_n X dX12_bill_5 rfl ?_
  refine r_iconst (v := -1) X dX12_bill_6 (by decide +kernel) ?_
  refine r_icmp_ne (tgt := 38) X dX12_bill_7 rfl (fun q1 => ?_) (fun q1 => ?_)
  · refine r_aload_n X dX12_bill_38 rfl ?_
    refine r_iload_n X dX12_bill_39 rfl ?_
    refine r_iconst (v := 0) X dX12_bill_40 (by decide +kernel) ?_
    refine r_bipush (v := 7) X dX12_bill_41 (by decide +kernel) ?_
    refine r_V3i X kv_X12_155 dX12_bill_43 (apG (k := 0) hn rfl) rfl (km33_X12_isIn l G _ _ hn _ _) rfl (fun x h' hΨ => ?_)
    rcases hΨ with ⟨q2, rfl, rfl⟩ | ⟨q3, q4, rfl, rfl⟩ | ⟨q5, q6, rfl, rfl⟩
    · refine r_if_eq_t (tgt := 74) X dX12_bill_46 rfl (by decide +kernel) ?_
      refine r_iconst (v := -1) X dX12_bill_74 (by decide +kernel) ?_
      exact r_ret_i X hr hlk dX12_bill_75 (Nat.le_of_ble_eq_true rfl) (Nat.le_of_ble_eq_true rfl) ⟨_, rfl, by unfold sp_bill; (repeat' split) <;> first | rfl | (exfalso; have e0 : (-1 : Int32).toInt = -1 := (by decide); have e1 : (0 : Int32).toInt = 0 := (by decide); have e2 : (1 : Int32).toInt = 1 := (by decide); have e3 : (7 : Int32).toInt = 7 := (by decide); simp only [inR, Int32.lt_iff_toInt_lt, Int32.le_iff_toInt_le, ← Int32.toInt_inj, true_or, or_true, not_true_eq_false, and_true, true_and, false_or, or_false, false_and, and_false, not_false_eq_true] at * <;> omega)⟩
    · refine r_if_eq_t (tgt := 74) X dX12_bill_46 rfl (by decide +kernel) ?_
      refine r_iconst (v := -1) X dX12_bill_74 (by decide +kernel) ?_
      exact r_ret_i X hr hlk dX12_bill_75 (Nat.le_of_ble_eq_true rfl) (Nat.le_of_ble_eq_true rfl) ⟨_, rfl, by unfold sp_bill; (repeat' split) <;> first | rfl | (exfalso; have e0 : (-1 : Int32).toInt = -1 := (by decide); have e1 : (0 : Int32).toInt = 0 := (by decide); have e2 : (1 : Int32).toInt = 1 := (by decide); have e3 : (7 : Int32).toInt = 7 := (by decide); simp only [inR, Int32.lt_iff_toInt_lt, Int32.le_iff_toInt_le, ← Int32.toInt_inj, true_or, or_true, not_true_eq_false, and_true, true_and, false_or, or_false, false_and, and_false, not_false_eq_true] at * <;> omega)⟩
    · refine r_if_eq_f (tgt := 74) X dX12_bill_46 rfl (by decide +kernel) ?_
      refine r_aload_n X dX12_bill_49 rfl ?_
      refine r_iload_n X dX12_bill_50 rfl ?_
      refine r_iconst (v := 0) X dX12_bill_51 (by decide +kernel) ?_
      refine r_bipush (v := 7) X dX12_bill_52 (by decide +kernel) ?_
      refine r_V3i X kv_X12_155 dX12_bill_54 (apG (k := 0) hn rfl) rfl (km33_X12_isIn l G _ _ hn _ _) rfl (fun x h' hΨ => ?_)
      rcases hΨ with ⟨q7, rfl, rfl⟩ | ⟨q8, q9, rfl, rfl⟩ | ⟨q10, q11, rfl, rfl⟩
      · refine r_if_eq_t (tgt := 74) X dX12_bill_57 rfl (by decide +kernel) ?_
        refine r_iconst (v := -1) X dX12_bill_74 (by decide +kernel) ?_
        exact r_ret_i X hr hlk dX12_bill_75 (Nat.le_of_ble_eq_true rfl) (Nat.le_of_ble_eq_true rfl) ⟨_, rfl, by unfold sp_bill; (repeat' split) <;> first | rfl | (exfalso; have e0 : (-1 : Int32).toInt = -1 := (by decide); have e1 : (0 : Int32).toInt = 0 := (by decide); have e2 : (1 : Int32).toInt = 1 := (by decide); have e3 : (7 : Int32).toInt = 7 := (by decide); simp only [inR, Int32.lt_iff_toInt_lt, Int32.le_iff_toInt_le, ← Int32.toInt_inj, true_or, or_true, not_true_eq_false, and_true, true_and, false_or, or_false, false_and, and_false, not_false_eq_true] at * <;> omega)⟩
      · refine r_if_eq_t (tgt := 74) X dX12_bill_57 rfl (by decide +kernel) ?_
        refine r_iconst (v := -1) X dX12_bill_74 (by decide +kernel) ?_
        exact r_ret_i X hr hlk dX12_bill_75 (Nat.le_of_ble_eq_true rfl) (Nat.le_of_ble_eq_true rfl) ⟨_, rfl, by unfold sp_bill; (repeat' split) <;> first | rfl | (exfalso; have e0 : (-1 : Int32).toInt = -1 := (by decide); have e1 : (0 : Int32).toInt = 0 := (by decide); have e2 : (1 : Int32).toInt = 1 := (by decide); have e3 : (7 : Int32).toInt = 7 := (by decide); simp only [inR, Int32.lt_iff_toInt_lt, Int32.le_iff_toInt_le, ← Int32.toInt_inj, true_or, or_true, not_true_eq_false, and_true, true_and, false_or, or_false, false_and, and_false, not_false_eq_true] at * <;> omega)⟩
      · refine r_if_eq_f (tgt := 74) X dX12_bill_57 rfl (by decide +kernel) ?_
        refine r_iload_n X dX12_bill_60 rfl ?_
        refine r_iload_n X dX12_bill_61 rfl ?_
        refine r_icmp_eq (tgt := 74) X dX12_bill_62 rfl (fun q12 => ?_) (fun q12 => ?_)
        · refine r_iconst (v := -1) X dX12_bill_74 (by decide +kernel) ?_
          exact r_ret_i X hr hlk dX12_bill_75 (Nat.le_of_ble_eq_true rfl) (Nat.le_of_ble_eq_true rfl) ⟨_, rfl, by unfold sp_bill; (repeat' split) <;> first | rfl | (exfalso; have e0 : (-1 : Int32).toInt = -1 := (by decide); have e1 : (0 : Int32).toInt = 0 := (by decide); have e2 : (1 : Int32).toInt = 1 := (by decide); have e3 : (7 : Int32).toInt = 7 := (by decide); simp only [inR, Int32.lt_iff_toInt_lt, Int32.le_iff_toInt_le, ← Int32.toInt_inj, true_or, or_true, not_true_eq_false, and_true, true_and, false_or, or_false, false_and, and_false, not_false_eq_true] at * <;> omega)⟩
        · refine r_aload_n X dX12_bill_65 rfl ?_
          refine a_get (a := 0) X hn fg_X12_488 dX12_bill_66 rfl rfl ?_
          refine r_bipush (v := 12) X dX12_bill_69 (by decide +kernel) ?_
          refine r_icmp_ne_t (tgt := 76) X dX12_bill_71 rfl (by decide +kernel) ?_
          refine r_aload_n X dX12_bill_76 rfl ?_
          refine a_get (a := 0) X hn fg_X12_122 dX12_bill_77 rfl rfl ?_
          refine r_iload_n X dX12_bill_80 rfl ?_
          refine r_aload_n X dX12_bill_81 rfl ?_
          refine a_get (a := 0) X hn fg_X12_122 dX12_bill_82 rfl rfl ?_
          refine r_iload_n X dX12_bill_85 rfl ?_
          obtain ⟨j_a, hj_a, rfl⟩ : ∃ j : Nat, j ≤ 7 ∧ a = nI j := nI_of2 (M := 7) (by decide) (by have e0 : (-1 : Int32).toInt = -1 := (by decide); have e2 : (0 : Int32).toInt = 0 := (by decide); have e3 : (7 : Int32).toInt = 7 := (by decide); simp only [Int32.lt_iff_toInt_lt, Int32.le_iff_toInt_le, ← Int32.toInt_inj] at q1 q5 q6 ⊢; omega) (by have e0 : (-1 : Int32).toInt = -1 := (by decide); have e2 : (0 : Int32).toInt = 0 := (by decide); have e3 : (7 : Int32).toInt = 7 := (by decide); simp only [Int32.lt_iff_toInt_lt, Int32.le_iff_toInt_le, ← Int32.toInt_inj] at q1 q5 q6 ⊢; omega)
          refine a_iald (a := 37) (v := 0) X hn dX12_bill_86 rfl (vin (k := j_a) (rfl) (by omega) (by decide)) rfl ?_
          refine r_iconst (v := 1) X dX12_bill_87 (by decide +kernel) ?_
          refine r_iload_n X dX12_bill_88 rfl ?_
          refine r_ishl X dX12_bill_89 ?_
          refine r_ior X dX12_bill_90 ?_
          refine a_iast (a := 37) X hn dX12_bill_91 rfl (vin (k := j_a) (rfl) (by omega) (by decide)) ?_
          refine r_aload_n X dX12_bill_92 rfl ?_
          refine a_get (a := 0) X hn fg_X12_122 dX12_bill_93 rfl rfl ?_
          refine r_iload_n X dX12_bill_96 rfl ?_
          refine r_aload_n X dX12_bill_97 rfl ?_
          refine a_get (a := 0) X hn fg_X12_122 dX12_bill_98 rfl rfl ?_
          refine r_iload_n X dX12_bill_101 rfl ?_
          obtain ⟨j_b, hj_b, rfl⟩ : ∃ j : Nat, j ≤ 7 ∧ b = nI j := nI_of2 (M := 7) (by decide) (by have e1 : (0 : Int32).toInt = 0 := (by decide); have e2 : (7 : Int32).toInt = 7 := (by decide); simp only [Int32.lt_iff_toInt_lt, Int32.le_iff_toInt_le, ← Int32.toInt_inj] at q10 q11 ⊢; omega) (by have e1 : (0 : Int32).toInt = 0 := (by decide); have e2 : (7 : Int32).toInt = 7 := (by decide); simp only [Int32.lt_iff_toInt_lt, Int32.le_iff_toInt_le, ← Int32.toInt_inj] at q10 q11 ⊢; omega)
          refine a_iald (a := 37) X hn dX12_bill_102 rfl (vin (k := j_b) (rfl) (by omega) (by decide)) rfl ?_
          refine r_iconst (v := 1) X dX12_bill_103 (by decide +kernel) ?_
          refine r_iload_n X dX12_bill_104 rfl ?_
          refine r_ishl X dX12_bill_105 ?_
          refine r_ior X dX12_bill_106 ?_
          refine a_iast (a := 37) X hn dX12_bill_107 rfl (vin (k := j_b) (rfl) (by omega) (by decide)) ?_
          refine r_eq (h' := h0 ++ ((frM n wf).set 37 (eI 8 (upd (upd (fun _ => 0) (nI j_a : Int32).toNatClampNeg ((0 : Int32) ||| ((1 : Int32) <<< ((nI j_b) &&& 31)))) (nI j_b : Int32).toNatClampNeg (((upd (fun _ => 0) (nI j_a : Int32).toNatClampNeg ((0 : Int32) ||| ((1 : Int32) <<< ((nI j_b) &&& 31)))) (nI j_b).toNatClampNeg) ||| ((1 : Int32) <<< ((nI j_a) &&& 31))))))) rfl rfl rfl ?_
          refine r_aload_n X dX12_bill_108 rfl ?_
          refine r_aload_n X dX12_bill_109 rfl ?_
          refine a_get (a := 0) X hn fg_X12_488 dX12_bill_110 rfl rfl ?_
          refine r_iconst (v := 1) X dX12_bill_113 (by decide +kernel) ?_
          refine r_iaddE (v := 1) X dX12_bill_114 (by decide +kernel) ?_
          refine a_put (a := 0) X hn fp_X12_488 dX12_bill_115 rfl rfl rfl rfl ?_
          refine r_eq (h' := h0 ++ (((frM n wf).set 0 (eO 12 [vI 0, vR (n + 1), vR (n + 2), vI 0, vR (n + 3), vI 0, vI 0, vR (n + 4), vR (n + 5), vR (n + 6), vR (n + 7), vR (n + 8), vI 0, vI 0, vI 0, vI 0, vI 0, vR (n + 9), vR (n + 10), vR (n + 11), vR (n + 12), vR (n + 13), vR (n + 14), vR (n + 15), vR (n + 16), vI 0, vI 0, vI 0, vR (n + 17), vI 0, vI 0, vI 0, vI 0, vI ((-1)), vI 0, vR (n + 18), vI 0, vR (n + 19), vI 0, vR (n + 20), vR (n + 21), vR (n + 22), vR (n + 23), vI 0, vR (n + 24), vR (n + 25), vI 0, vR (n + 26), vR (n + 27), vR (n + 28), vI 0, vR (n + 29), vI 0, vR (n + 30), vI 0, vR (n + 31), vR (n + 32), vI 0, vR (n + 33), vR (n + 34), vR (n + 35), vI 0, vR (n + 36), vI 1, vR (n + 37), vI 0, vR (n + 38), vR (n + 39), vR (n + 40), vR (n + 41), vI 0, vI 0, vI 0, vI 0, vI 0, vR (n + 42)])).set 37 (eI 8 (upd (upd (fun _ => 0) (nI j_a : Int32).toNatClampNeg ((0 : Int32) ||| ((1 : Int32) <<< ((nI j_b) &&& 31)))) (nI j_b : Int32).toNatClampNeg (((upd (fun _ => 0) (nI j_a : Int32).toNatClampNeg ((0 : Int32) ||| ((1 : Int32) <<< ((nI j_b) &&& 31)))) (nI j_b).toNatClampNeg) ||| ((1 : Int32) <<< ((nI j_a) &&& 31))))))) rfl rfl rfl ?_
          refine r_aload_n X dX12_bill_118 rfl ?_
          refine a_get (a := 0) X hn fg_X12_488 dX12_bill_119 rfl rfl ?_
          exact r_ret_i X hr hlk dX12_bill_122 (Nat.le_of_ble_eq_true rfl) (Nat.le_of_ble_eq_true rfl) ⟨_, rfl, by unfold sp_bill; (repeat' split) <;> first | rfl | (exfalso; have e0 : (-1 : Int32).toInt = -1 := (by decide); have e1 : (0 : Int32).toInt = 0 := (by decide); have e2 : (1 : Int32).toInt = 1 := (by decide); have e3 : (7 : Int32).toInt = 7 := (by decide); have en0 : (nI j_a).toInt = ((j_a : Nat) : Int) := toN rfl (by omega); have en1 : (nI j_b).toInt = ((j_b : Nat) : Int) := toN rfl (by omega); simp only [inR, Int32.lt_iff_toInt_lt, Int32.le_iff_toInt_le, ← Int32.toInt_inj, true_or, or_true, not_true_eq_false, and_true, true_and, false_or, or_false, false_and, and_false, not_false_eq_true] at * <;> omega)⟩
  · refine r_aload_n X dX12_bill_10 rfl ?_
    refine r_iconst (v := 0) X dX12_bill_11 (by decide +kernel) ?_
    refine a_put (a := 0) X hn fp_X12_488 dX12_bill_12 rfl rfl rfl rfl ?_
    refine r_eq (h' := h0 ++ (frM n wf)) rfl rfl rfl ?_
    refine r_iconst (v := 0) X dX12_bill_15 (by decide +kernel) ?_
    refine r_istore_n X dX12_bill_16 (by decide) ?_
    refine r_iload_n X dX12_bill_17 rfl ?_
    refine r_bipush (v := 8) X dX12_bill_18 (by decide +kernel) ?_
    refine r_icmp_ge_f (tgt := 36) X dX12_bill_20 rfl (by decide +kernel) ?_
    refine r_aload_n X dX12_bill_23 rfl ?_
    refine a_get (a := 0) X hn fg_X12_122 dX12_bill_24 rfl rfl ?_
    refine r_iload_n X dX12_bill_27 rfl ?_
    refine r_iconst (v := 0) X dX12_bill_28 (by decide +kernel) ?_
    refine a_iastE (a := 37) (f' := fun _ => 0) X hn dX12_bill_29 rfl (inK (by decide +kernel)) (upd_c _ _) ?_
    refine r_eq (h' := h0 ++ (frM n wf)) rfl rfl rfl ?_
    refine r_iinc (v := 1) X dX12_bill_30 rfl (by decide +kernel) (by decide) ?_
    refine r_goto (tgt := 17) X dX12_bill_33 rfl ?_
    refine r_iload_n X dX12_bill_17 rfl ?_
    refine r_bipush (v := 8) X dX12_bill_18 (by decide +kernel) ?_
    refine r_icmp_ge_f (tgt := 36) X dX12_bill_20 rfl (by decide +kernel) ?_
    refine r_aload_n X dX12_bill_23 rfl ?_
    refine a_get (a := 0) X hn fg_X12_122 dX12_bill_24 rfl rfl ?_
    refine r_iload_n X dX12_bill_27 rfl ?_
    refine r_iconst (v := 0) X dX12_bill_28 (by decide +kernel) ?_
    refine a_iastE (a := 37) (f' := fun _ => 0) X hn dX12_bill_29 rfl (inK (by decide +kernel)) (upd_c _ _) ?_
    refine r_eq (h' := h0 ++ (frM n wf)) rfl rfl rfl ?_
    refine r_iinc (v := 2) X dX12_bill_30 rfl (by decide +kernel) (by decide) ?_
    refine r_goto (tgt := 17) X dX12_bill_33 rfl ?_
    refine r_iload_n X dX12_bill_17 rfl ?_
    refine r_bipush (v := 8) X dX12_bill_18 (by decide +kernel) ?_
    refine r_icmp_ge_f (tgt := 36) X dX12_bill_20 rfl (by decide +kernel) ?_
    refine r_aload_n X dX12_bill_23 rfl ?_
    refine a_get (a := 0) X hn fg_X12_122 dX12_bill_24 rfl rfl ?_
    refine r_iload_n X dX12_bill_27 rfl ?_
    refine r_iconst (v := 0) X dX12_bill_28 (by decide +kernel) ?_
    refine a_iastE (a := 37) (f' := fun _ => 0) X hn dX12_bill_29 rfl (inK (by decide +kernel)) (upd_c _ _) ?_
    refine r_eq (h' := h0 ++ (frM n wf)) rfl rfl rfl ?_
    refine r_iinc (v := 3) X dX12_bill_30 rfl (by decide +kernel) (by decide) ?_
    refine r_goto (tgt := 17) X dX12_bill_33 rfl ?_
    refine r_iload_n X dX12_bill_17 rfl ?_
    refine r_bipush (v := 8) X dX12_bill_18 (by decide +kernel) ?_
    refine r_icmp_ge_f (tgt := 36) X dX12_bill_20 rfl (by decide +kernel) ?_
    refine r_aload_n X dX12_bill_23 rfl ?_
    refine a_get (a := 0) X hn fg_X12_122 dX12_bill_24 rfl rfl ?_
    refine r_iload_n X dX12_bill_27 rfl ?_
    refine r_iconst (v := 0) X dX12_bill_28 (by decide +kernel) ?_
    refine a_iastE (a := 37) (f' := fun _ => 0) X hn dX12_bill_29 rfl (inK (by decide +kernel)) (upd_c _ _) ?_
    refine r_eq (h' := h0 ++ (frM n wf)) rfl rfl rfl ?_
    refine r_iinc (v := 4) X dX12_bill_30 rfl (by decide +kernel) (by decide) ?_
    refine r_eq (ls' := [some (vR (n + 0)), some (vI a), some (vI b), some (vI 4)]) rfl rfl rfl ?_
    refine r_goto (tgt := 17) X dX12_bill_33 rfl ?_
    refine r_iload_n X dX12_bill_17 rfl ?_
    refine r_bipush (v := 8) X dX12_bill_18 (by decide +kernel) ?_
    refine r_icmp_ge_f (tgt := 36) X dX12_bill_20 rfl (by decide +kernel) ?_
    refine r_aload_n X dX12_bill_23 rfl ?_
    refine a_get (a := 0) X hn fg_X12_122 dX12_bill_24 rfl rfl ?_
    refine r_iload_n X dX12_bill_27 rfl ?_
    refine r_iconst (v := 0) X dX12_bill_28 (by decide +kernel) ?_
    refine a_iastE (a := 37) (f' := fun _ => 0) X hn dX12_bill_29 rfl (inK (by decide +kernel)) (upd_c _ _) ?_
    refine r_eq (h' := h0 ++ (frM n wf)) rfl rfl rfl ?_
    refine r_iinc (v := 5) X dX12_bill_30 rfl (by decide +kernel) (by decide) ?_
    refine r_goto (tgt := 17) X dX12_bill_33 rfl ?_
    refine r_iload_n X dX12_bill_17 rfl ?_
    refine r_bipush (v := 8) X dX12_bill_18 (by decide +kernel) ?_
    refine r_icmp_ge_f (tgt := 36) X dX12_bill_20 rfl (by decide +kernel) ?_
    refine r_aload_n X dX12_bill_23 rfl ?_
    refine a_get (a := 0) X hn fg_X12_122 dX12_bill_24 rfl rfl ?_
    refine r_iload_n X dX12_bill_27 rfl ?_
    refine r_iconst (v := 0) X dX12_bill_28 (by decide +kernel) ?_
    refine a_iastE (a := 37) (f' := fun _ => 0) X hn dX12_bill_29 rfl (inK (by decide +kernel)) (upd_c _ _) ?_
    refine r_eq (h' := h0 ++ (frM n wf)) rfl rfl rfl ?_
    refine r_iinc (v := 6) X dX12_bill_30 rfl (by decide +kernel) (by decide) ?_
    refine r_goto (tgt := 17) X dX12_bill_33 rfl ?_
    refine r_iload_n X dX12_bill_17 rfl ?_
    refine r_bipush (v := 8) X dX12_bill_18 (by decide +kernel) ?_
    refine r_icmp_ge_f (tgt := 36) X dX12_bill_20 rfl (by decide +kernel) ?_
    refine r_aload_n X dX12_bill_23 rfl ?_
    refine a_get (a := 0) X hn fg_X12_122 dX12_bill_24 rfl rfl ?_
    refine r_iload_n X dX12_bill_27 rfl ?_
    refine r_iconst (v := 0) X dX12_bill_28 (by decide +kernel) ?_
    refine a_iastE (a := 37) (f' := fun _ => 0) X hn dX12_bill_29 rfl (inK (by decide +kernel)) (upd_c _ _) ?_
    refine r_eq (h' := h0 ++ (frM n wf)) rfl rfl rfl ?_
    refine r_iinc (v := 7) X dX12_bill_30 rfl (by decide +kernel) (by decide) ?_
    refine r_goto (tgt := 17) X dX12_bill_33 rfl ?_
    refine r_iload_n X dX12_bill_17 rfl ?_
    refine r_bipush (v := 8) X dX12_bill_18 (by decide +kernel) ?_
    refine r_icmp_ge_f (tgt := 36) X dX12_bill_20 rfl (by decide +kernel) ?_
    refine r_aload_n X dX12_bill_23 rfl ?_
    refine a_get (a := 0) X hn fg_X12_122 dX12_bill_24 rfl rfl ?_
    refine r_iload_n X dX12_bill_27 rfl ?_
    refine r_iconst (v := 0) X dX12_bill_28 (by decide +kernel) ?_
    refine a_iastE (a := 37) (f' := fun _ => 0) X hn dX12_bill_29 rfl (inK (by decide +kernel)) (upd_c _ _) ?_
    refine r_eq (h' := h0 ++ (frM n wf)) rfl rfl rfl ?_
    refine r_iinc (v := 8) X dX12_bill_30 rfl (by decide +kernel) (by decide) ?_
    refine r_goto (tgt := 17) X dX12_bill_33 rfl ?_
    refine r_iload_n X dX12_bill_17 rfl ?_
    refine r_bipush (v := 8) X dX12_bill_18 (by decide +kernel) ?_
    refine r_icmp_ge_t (tgt := 36) X dX12_bill_20 rfl (by decide +kernel) ?_
    refine r_iconst (v := 0) X dX12_bill_36 (by decide +kernel) ?_
    exact r_ret_i X hr hlk dX12_bill_37 (Nat.le_of_ble_eq_true rfl) (Nat.le_of_ble_eq_true rfl) ⟨_, rfl, by unfold sp_bill; (repeat' split) <;> first | rfl | (exfalso; have e0 : (-1 : Int32).toInt = -1 := (by decide); have e1 : (0 : Int32).toInt = 0 := (by decide); have e2 : (1 : Int32).toInt = 1 := (by decide); have e3 : (7 : Int32).toInt = 7 := (by decide); simp only [inR, Int32.lt_iff_toInt_lt, Int32.le_iff_toInt_le, ← Int32.toInt_inj, true_or, or_true, not_true_eq_false, and_true, true_and, false_or, or_false, false_and, and_false, not_false_eq_true] at * <;> omega)⟩
