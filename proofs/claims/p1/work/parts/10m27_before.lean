set_option maxRecDepth 100000 in
set_option maxHeartbeats 4000000 in
theorem m_before (l : Launch) (G : PG) (h0 : PH) (n : Nat) (hn : h0.length = n) (wf : Nat → Int32) (a b : Int32) : PMet l G yX12_before cX12_before 4 (some .int) 1 0 0 [vR (n + 0), vI a, vI b] (h0 ++ (frM n wf)) (qI (fun x h' => x = sp_before a b)) := by
  refine PMet.intro (by decide) (Nat.le_of_ble_eq_true rfl) ?_
  intro p e s m args below meth c X hr hlk hnm
  refine r_aload_n X dX12_before_0 rfl ?_
  refine r_iconst (v := 0) X dX12_before_1 (by decide +kernel) ?_
  refine a_put (a := 0) X hn fp_X12_140 dX12_before_2 rfl rfl rfl rfl ?_
  refine r_eq (h' := h0 ++ (frM n wf)) rfl rfl rfl ?_
  refine r_iload_n X dX12_before_5 rfl ?_
  refine r_iconst (v := -1) X dX12_before_6 (by decide +kernel) ?_
  refine r_icmp_ne (tgt := 38) X dX12_before_7 rfl (fun q1 => ?_) (fun q1 => ?_)
  · refine r_aload_n X dX12_before_38 rfl ?_
    refine r_iload_n X dX12_before_39 rfl ?_
    refine r_iconst (v := 0) X dX12_before_40 (by decide +kernel) ?_
    refine r_bipush (v := 7) X dX12_before_41 (by decide +kernel) ?_
    refine r_V3i X kv_X12_155 dX12_before_43 (apG (k := 0) hn rfl) rfl (km33_X12_isIn l G _ _ hn _ _) rfl (fun x h' hΨ => ?_)
    rcases hΨ with ⟨q2, rfl, rfl⟩ | ⟨q3, q4, rfl, rfl⟩ | ⟨q5, q6, rfl, rfl⟩
    · refine r_if_eq_t (tgt := 74) X dX12_before_46 rfl (by decide +kernel) ?_
      refine r_iconst (v := -1) X dX12_before_74 (by decide +kernel) ?_
      exact r_ret_i X hr hlk dX12_before_75 (Nat.le_of_ble_eq_true rfl) (Nat.le_of_ble_eq_true rfl) ⟨_, rfl, by unfold sp_before; (repeat' split) <;> first | rfl | (exfalso; have e0 : (-1 : Int32).toInt = -1 := (by decide); have e1 : (0 : Int32).toInt = 0 := (by decide); have e2 : (1 : Int32).toInt = 1 := (by decide); have e3 : (7 : Int32).toInt = 7 := (by decide); simp only [inR, Int32.lt_iff_toInt_lt, Int32.le_iff_toInt_le, ← Int32.toInt_inj, true_or, or_true, not_true_eq_false, and_true, true_and, false_or, or_false, false_and, and_false, not_false_eq_true] at * <;> omega)⟩
    · refine r_if_eq_t (tgt := 74) X dX12_before_46 rfl (by decide +kernel) ?_
      refine r_iconst (v := -1) X dX12_before_74 (by decide +kernel) ?_
      exact r_ret_i X hr hlk dX12_before_75 (Nat.le_of_ble_eq_true rfl) (Nat.le_of_ble_eq_true rfl) ⟨_, rfl, by unfold sp_before; (repeat' split) <;> first | rfl | (exfalso; have e0 : (-1 : Int32).toInt = -1 := (by decide); have e1 : (0 : Int32).toInt = 0 := (by decide); have e2 : (1 : Int32).toInt = 1 := (by decide); have e3 : (7 : Int32).toInt = 7 := (by decide); simp only [inR, Int32.lt_iff_toInt_lt, Int32.le_iff_toInt_le, ← Int32.toInt_inj, true_or, or_true, not_true_eq_false, and_true, true_and, false_or, or_false, false_and, and_false, not_false_eq_true] at * <;> omega)⟩
    · refine r_if_eq_f (tgt := 74) X dX12_before_46 rfl (by decide +kernel) ?_
      refine r_aload_n X dX12_before_49 rfl ?_
      refine r_iload_n X dX12_before_50 rfl ?_
      refine r_iconst (v := 0) X dX12_before_51 (by decide +kernel) ?_
      refine r_bipush (v := 7) X dX12_before_52 (by decide +kernel) ?_
      refine r_V3i X kv_X12_155 dX12_before_54 (apG (k := 0) hn rfl) rfl (km33_X12_isIn l G _ _ hn _ _) rfl (fun x h' hΨ => ?_)
      rcases hΨ with ⟨q7, rfl, rfl⟩ | ⟨q8, q9, rfl, rfl⟩ | ⟨q10, q11, rfl, rfl⟩
      · refine r_if_eq_t (tgt := 74) X dX12_before_57 rfl (by decide +kernel) ?_
        refine r_iconst (v := -1) X dX12_before_74 (by decide +kernel) ?_
        exact r_ret_i X hr hlk dX12_before_75 (Nat.le_of_ble_eq_true rfl) (Nat.le_of_ble_eq_true rfl) ⟨_, rfl, by unfold sp_before; (repeat' split) <;> first | rfl | (exfalso; have e0 : (-1 : Int32).toInt = -1 := (by decide); have e1 : (0 : Int32).toInt = 0 := (by decide); have e2 : (1 : Int32).toInt = 1 := (by decide); have e3 : (7 : Int32).toInt = 7 := (by decide); simp only [inR, Int32.lt_iff_toInt_lt, Int32.le_iff_toInt_le, ← Int32.toInt_inj, true_or, or_true, not_true_eq_false, and_true, true_and, false_or, or_false, false_and, and_false, not_false_eq_true] at * <;> omega)⟩
      · refine r_if_eq_t (tgt := 74) X dX12_before_57 rfl (by decide +kernel) ?_
        refine r_iconst (v := -1) X dX12_before_74 (by decide +kernel) ?_
        exact r_ret_i X hr hlk dX12_before_75 (Nat.le_of_ble_eq_true rfl) (Nat.le_of_ble_eq_true rfl) ⟨_, rfl, by unfold sp_before; (repeat' split) <;> first | rfl | (exfalso; have e0 : (-1 : Int32).toInt = -1 := (by decide); have e1 : (0 : Int32).toInt = 0 := (by decide); have e2 : (1 : Int32).toInt = 1 := (by decide); have e3 : (7 : Int32).toInt = 7 := (by decide); simp only [inR, Int32.lt_iff_toInt_lt, Int32.le_iff_toInt_le, ← Int32.toInt_inj, true_or, or_true, not_true_eq_false, and_true, true_and, false_or, or_false, false_and, and_false, not_false_eq_true] at * <;> omega)⟩
      · refine r_if_eq_f (tgt := 74) X dX12_before_57 rfl (by decide +kernel) ?_
        refine r_iload_n X dX12_before_60 rfl ?_
        refine r_iload_n X dX12_before_61 rfl ?_
        refine r_icmp_eq (tgt := 74) X dX12_before_62 rfl (fun q12 => ?_) (fun q12 => ?_)
        · refine r_iconst (v := -1) X dX12_before_74 (by decide +kernel) ?_
          exact r_ret_i X hr hlk dX12_before_75 (Nat.le_of_ble_eq_true rfl) (Nat.le_of_ble_eq_true rfl) ⟨_, rfl, by unfold sp_before; (repeat' split) <;> first | rfl | (exfalso; have e0 : (-1 : Int32).toInt = -1 := (by decide); have e1 : (0 : Int32).toInt = 0 := (by decide); have e2 : (1 : Int32).toInt = 1 := (by decide); have e3 : (7 : Int32).toInt = 7 := (by decide); simp only [inR, Int32.lt_iff_toInt_lt, Int32.le_iff_toInt_le, ← Int32.toInt_inj, true_or, or_true, not_true_eq_false, and_true, true_and, false_or, or_false, false_and, and_false, not_false_eq_true] at * <;> omega)⟩
        · refine r_aload_n X dX12_before_65 rfl ?_
          refine a_get (a := 0) X hn fg_X12_494 dX12_before_66 rfl rfl ?_
          refine r_bipush (v := 12) X dX12_before_69 (by decide +kernel) ?_
          refine r_icmp_ne_t (tgt := 76) X dX12_before_71 rfl (by decide +kernel) ?_
          refine r_aload_n X dX12_before_76 rfl ?_
          refine a_get (a := 0) X hn fg_X12_125 dX12_before_77 rfl rfl ?_
          refine r_iload_n X dX12_before_80 rfl ?_
          refine r_aload_n X dX12_before_81 rfl ?_
          refine a_get (a := 0) X hn fg_X12_125 dX12_before_82 rfl rfl ?_
          refine r_iload_n X dX12_before_85 rfl ?_
          obtain ⟨j_b, hj_b, rfl⟩ : ∃ j : Nat, j ≤ 7 ∧ b = nI j := nI_of2 (M := 7) (by decide) (by have e1 : (0 : Int32).toInt = 0 := (by decide); have e2 : (7 : Int32).toInt = 7 := (by decide); simp only [Int32.lt_iff_toInt_lt, Int32.le_iff_toInt_le, ← Int32.toInt_inj] at q10 q11 ⊢; omega) (by have e1 : (0 : Int32).toInt = 0 := (by decide); have e2 : (7 : Int32).toInt = 7 := (by decide); simp only [Int32.lt_iff_toInt_lt, Int32.le_iff_toInt_le, ← Int32.toInt_inj] at q10 q11 ⊢; omega)
          refine a_iald (a := 38) (v := 0) X hn dX12_before_86 rfl (vin (k := j_b) (rfl) (by omega) (by decide)) rfl ?_
          refine r_iconst (v := 1) X dX12_before_87 (by decide +kernel) ?_
          refine r_iload_n X dX12_before_88 rfl ?_
          refine r_ishl X dX12_before_89 ?_
          refine r_ior X dX12_before_90 ?_
          refine a_iast (a := 38) X hn dX12_before_91 rfl (vin (k := j_b) (rfl) (by omega) (by decide)) ?_
          refine r_aload_n X dX12_before_92 rfl ?_
          refine r_aload_n X dX12_before_93 rfl ?_
          refine a_get (a := 0) X hn fg_X12_494 dX12_before_94 rfl rfl ?_
          refine r_iconst (v := 1) X dX12_before_97 (by decide +kernel) ?_
          refine r_iaddE (v := 1) X dX12_before_98 (by decide +kernel) ?_
          refine a_put (a := 0) X hn fp_X12_494 dX12_before_99 rfl rfl rfl rfl ?_
          refine r_eq (h' := h0 ++ (((frM n wf).set 0 (eO 12 [vI 0, vR (n + 1), vR (n + 2), vI 0, vR (n + 3), vI 0, vI 0, vR (n + 4), vR (n + 5), vR (n + 6), vR (n + 7), vR (n + 8), vI 0, vI 0, vI 0, vI 0, vI 0, vR (n + 9), vR (n + 10), vR (n + 11), vR (n + 12), vR (n + 13), vR (n + 14), vR (n + 15), vR (n + 16), vI 0, vI 0, vI 0, vR (n + 17), vI 0, vI 0, vI 0, vI 0, vI ((-1)), vI 0, vR (n + 18), vI 0, vR (n + 19), vI 0, vR (n + 20), vR (n + 21), vR (n + 22), vR (n + 23), vI 0, vR (n + 24), vR (n + 25), vI 0, vR (n + 26), vR (n + 27), vR (n + 28), vI 0, vR (n + 29), vI 0, vR (n + 30), vI 0, vR (n + 31), vR (n + 32), vI 0, vR (n + 33), vR (n + 34), vR (n + 35), vI 0, vR (n + 36), vI 0, vR (n + 37), vI 1, vR (n + 38), vR (n + 39), vR (n + 40), vR (n + 41), vI 0, vI 0, vI 0, vI 0, vI 0, vR (n + 42)])).set 38 (eI 8 (upd (fun _ => 0) (nI j_b : Int32).toNatClampNeg ((0 : Int32) ||| ((1 : Int32) <<< (a &&& 31))))))) rfl rfl rfl ?_
          refine r_aload_n X dX12_before_102 rfl ?_
          refine a_get (a := 0) X hn fg_X12_494 dX12_before_103 rfl rfl ?_
          exact r_ret_i X hr hlk dX12_before_106 (Nat.le_of_ble_eq_true rfl) (Nat.le_of_ble_eq_true rfl) ⟨_, rfl, by unfold sp_before; (repeat' split) <;> first | rfl | (exfalso; have e0 : (-1 : Int32).toInt = -1 := (by decide); have e1 : (0 : Int32).toInt = 0 := (by decide); have e2 : (1 : Int32).toInt = 1 := (by decide); have e3 : (7 : Int32).toInt = 7 := (by decide); have en0 : (nI j_b).toInt = ((j_b : Nat) : Int) := toN rfl (by omega); simp only [inR, Int32.lt_iff_toInt_lt, Int32.le_iff_toInt_le, ← Int32.toInt_inj, true_or, or_true, not_true_eq_false, and_true, true_and, false_or, or_false, false_and, and_false, not_false_eq_true] at * <;> omega)⟩
  · refine r_aload_n X dX12_before_10 rfl ?_
    refine r_iconst (v := 0) X dX12_before_11 (by decide +kernel) ?_
    refine a_put (a := 0) X hn fp_X12_494 dX12_before_12 rfl rfl rfl rfl ?_
    refine r_eq (h' := h0 ++ (frM n wf)) rfl rfl rfl ?_
    refine r_iconst (v := 0) X dX12_before_15 (by decide +kernel) ?_
    refine r_istore_n X dX12_before_16 (by decide) ?_
    refine r_iload_n X dX12_before_17 rfl ?_
    refine r_bipush (v := 8) X dX12_before_18 (by decide +kernel) ?_
    refine r_icmp_ge_f (tgt := 36) X dX12_before_20 rfl (by decide +kernel) ?_
    refine r_aload_n X dX12_before_23 rfl ?_
    refine a_get (a := 0) X hn fg_X12_125 dX12_before_24 rfl rfl ?_
    refine r_iload_n X dX12_before_27 rfl ?_
    refine r_iconst (v := 0) X dX12_before_28 (by decide +kernel) ?_
    refine a_iastE (a := 38) (f' := fun _ => 0) X hn dX12_before_29 rfl (inK (by decide +kernel)) (upd_c _ _) ?_
    refine r_eq (h' := h0 ++ (frM n wf)) rfl rfl rfl ?_
    refine r_iinc (v := 1) X dX12_before_30 rfl (by decide +kernel) (by decide) ?_
    refine r_goto (tgt := 17) X dX12_before_33 rfl ?_
    refine r_iload_n X dX12_before_17 rfl ?_
    refine r_bipush (v := 8) X dX12_before_18 (by decide +kernel) ?_
    refine r_icmp_ge_f (tgt := 36) X dX12_before_20 rfl (by decide +kernel) ?_
    refine r_aload_n X dX12_before_23 rfl ?_
    refine a_get (a := 0) X hn fg_X12_125 dX12_before_24 rfl rfl ?_
    refine r_iload_n X dX12_before_27 rfl ?_
    refine r_iconst (v := 0) X dX12_before_28 (by decide +kernel) ?_
    refine a_iastE (a := 38) (f' := fun _ => 0) X hn dX12_before_29 rfl (inK (by decide +kernel)) (upd_c _ _) ?_
    refine r_eq (h' := h0 ++ (frM n wf)) rfl rfl rfl ?_
    refine r_iinc (v := 2) X dX12_before_30 rfl (by decide +kernel) (by decide) ?_
    refine r_goto (tgt := 17) X dX12_before_33 rfl ?_
    refine r_iload_n X dX12_before_17 rfl ?_
    refine r_bipush (v := 8) X dX12_before_18 (by decide +kernel) ?_
    refine r_icmp_ge_f (tgt := 36) X dX12_before_20 rfl (by decide +kernel) ?_
    refine r_aload_n X dX12_before_23 rfl ?_
    refine a_get (a := 0) X hn fg_X12_125 dX12_before_24 rfl rfl ?_
    refine r_iload_n X dX12_before_27 rfl ?_
    refine r_iconst (v := 0) X dX12_before_28 (by decide +kernel) ?_
    refine a_iastE (a := 38) (f' := fun _ => 0) X hn dX12_before_29 rfl (inK (by decide +kernel)) (upd_c _ _) ?_
    refine r_eq (h' := h0 ++ (frM n wf)) rfl rfl rfl ?_
    refine r_iinc (v := 3) X dX12_before_30 rfl (by decide +kernel) (by decide) ?_
    refine r_goto (tgt := 17) X dX12_before_33 rfl ?_
    refine r_iload_n X dX12_before_17 rfl ?_
    refine r_bipush (v := 8) X dX12_before_18 (by decide +kernel) ?_
    refine r_icmp_ge_f (tgt := 36) X dX12_before_20 rfl (by decide +kernel) ?_
    refine r_aload_n X dX12_before_23 rfl ?_
    refine a_get (a := 0) X hn fg_X12_125 dX12_before_24 rfl rfl ?_
    refine r_iload_n X dX12_before_27 rfl ?_
    refine r_iconst (v := 0) X dX12_before_28 (by decide +kernel) ?_
    refine a_iastE (a := 38) (f' := fun _ => 0) X hn dX12_before_29 rfl (inK (by decide +kernel)) (upd_c _ _) ?_
    refine r_eq (h' := h0 ++ (frM n wf)) rfl rfl rfl ?_
    refine r_iinc (v := 4) X dX12_before_30 rfl (by decide +kernel) (by decide) ?_
    refine r_eq (ls' := [some (vR (n + 0)), some (vI a), some (vI b), some (vI 4)]) rfl rfl rfl ?_
    refine r_goto (tgt := 17) X dX12_before_33 rfl ?_
    refine r_iload_n X dX12_before_17 rfl ?_
    refine r_bipush (v := 8) X dX12_before_18 (by decide +kernel) ?_
    refine r_icmp_ge_f (tgt := 36) X dX12_before_20 rfl (by decide +kernel) ?_
    refine r_aload_n X dX12_before_23 rfl ?_
    refine a_get (a := 0) X hn fg_X12_125 dX12_before_24 rfl rfl ?_
    refine r_iload_n X dX12_before_27 rfl ?_
    refine r_iconst (v := 0) X dX12_before_28 (by decide +kernel) ?_
    refine a_iastE (a := 38) (f' := fun _ => 0) X hn dX12_before_29 rfl (inK (by decide +kernel)) (upd_c _ _) ?_
    refine r_eq (h' := h0 ++ (frM n wf)) rfl rfl rfl ?_
    refine r_iinc (v := 5) X dX12_before_30 rfl (by decide +kernel) (by decide) ?_
    refine r_goto (tgt := 17) X dX12_before_33 rfl ?_
    refine r_iload_n X dX12_before_17 rfl ?_
    refine r_bipush (v := 8) X dX12_before_18 (by decide +kernel) ?_
    refine r_icmp_ge_f (tgt := 36) X dX12_before_20 rfl (by decide +kernel) ?_
    refine r_aload_n X dX12_before_23 rfl ?_
    refine a_get (a := 0) X hn fg_X12_125 dX12_before_24 rfl rfl ?_
    refine r_iload_n X dX12_before_27 rfl ?_
    refine r_iconst (v := 0) X dX12_before_28 (by decide +kernel) ?_
    refine a_iastE (a := 38) (f' := fun _ => 0) X hn dX12_before_29 rfl (inK (by decide +kernel)) (upd_c _ _) ?_
    refine r_eq (h' := h0 ++ (frM n wf)) rfl rfl rfl ?_
    refine r_iinc (v := 6) X dX12_before_30 rfl (by decide +kernel) (by decide) ?_
    refine r_goto (tgt := 17) X dX12_before_33 rfl ?_
    refine r_iload_n X dX12_before_17 rfl ?_
    refine r_bipush (v := 8) X dX12_before_18 (by decide +kernel) ?_
    refine r_icmp_ge_f (tgt := 36) X dX12_before_20 rfl (by decide +kernel) ?_
    refine r_aload_n X dX12_before_23 rfl ?_
    refine a_get (a := 0) X hn fg_X12_125 dX12_before_24 rfl rfl ?_
    refine r_iload_n X dX12_before_27 rfl ?_
    refine r_iconst (v := 0) X dX12_before_28 (by decide +kernel) ?_
    refine a_iastE (a := 38) (f' := fun _ => 0) X hn dX12_before_29 rfl (inK (by decide +kernel)) (upd_c _ _) ?_
    refine r_eq (h' := h0 ++ (frM n wf)) rfl rfl rfl ?_
    refine r_iinc (v := 7) X dX12_before_30 rfl (by decide +kernel) (by decide) ?_
    refine r_goto (tgt := 17) X dX12_before_33 rfl ?_
    refine r_iload_n X dX12_before_17 rfl ?_
    refine r_bipush (v := 8) X dX12_before_18 (by decide +kernel) ?_
    refine r_icmp_ge_f (tgt := 36) X dX12_before_20 rfl (by decide +kernel) ?_
    refine r_aload_n X dX12_before_23 rfl ?_
    refine a_get (a := 0) X hn fg_X12_125 dX12_before_24 rfl rfl ?_
    refine r_iload_n X dX12_before_27 rfl ?_
    refine r_iconst (v := 0) X dX12_before_28 (by decide +kernel) ?_
    refine a_iastE (a := 38) (f' := fun _ => 0) X hn dX12_before_29 rfl (inK (by decide +kernel)) (upd_c _ _) ?_
    refine r_eq (h' := h0 ++ (frM n wf)) rfl rfl rfl ?_
    refine r_iinc (v := 8) X dX12_before_30 rfl (by decide +kernel) (by decide) ?_
    refine r_goto (tgt := 17) X dX12_before_33 rfl ?_
    refine r_iload_n X dX12_before_17 rfl ?_
    refine r_bipush (v := 8) X dX12_before_18 (by decide +kernel) ?_
    refine r_icmp_ge_t (tgt := 36) X dX12_before_20 rfl (by decide +kernel) ?_
    refine r_iconst (v := 0) X dX12_before_36 (by decide +kernel) ?_
    exact r_ret_i X hr hlk dX12_before_37 (Nat.le_of_ble_eq_true rfl) (Nat.le_of_ble_eq_true rfl) ⟨_, rfl, by unfold sp_before; (repeat' split) <;> first | rfl | (exfalso; have e0 : (-1 : Int32).toInt = -1 := (by decide); have e1 : (0 : Int32).toInt = 0 := (by decide); have e2 : (1 : Int32).toInt = 1 := (by decide); have e3 : (7 : Int32).toInt = 7 := (by decide); simp only [inR, Int32.lt_iff_toInt_lt, Int32.le_iff_toInt_le, ← Int32.toInt_inj, true_or, or_true, not_true_eq_false, and_true, true_and, false_or, or_false, false_and, and_false, not_false_eq_true] at * <;> omega)⟩
