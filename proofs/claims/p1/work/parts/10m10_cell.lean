set_option maxRecDepth 100000 in
set_option maxHeartbeats 4000000 in
theorem km15_X12_isIn (l : Launch) (G : PG) (h0 : PH) (n : Nat) (hn : h0.length = n) (wf : Nat → Int32) (z0 : Int32) : PMet l G yX12_isIn cX12_isIn 4 (some .boolean) 0 0 0 [vR (n + 0), vI z0, vI 0, vI 4] (h0 ++ (frM n wf)) (qI (fun x h' => ((z0 < 0) ∧ x = 0 ∧ h' = h0 ++ (frM n wf)) ∨ ((¬ z0 < 0) ∧ (4 < z0) ∧ x = 0 ∧ h' = h0 ++ (frM n wf)) ∨ ((¬ z0 < 0) ∧ (¬ 4 < z0) ∧ x = 1 ∧ h' = h0 ++ (frM n wf)))) := by
  refine PMet.intro (by decide) (Nat.le_of_ble_eq_true rfl) ?_
  intro p e s m args below meth c X hr hlk hnm
  refine r_iload_n X dX12_isIn_0 rfl ?_
  refine r_iload_n X dX12_isIn_1 rfl ?_
  refine r_icmp_lt (tgt := 14) X dX12_isIn_2 rfl (fun q1 => ?_) (fun q1 => ?_)
  · refine r_iconst (v := 0) X dX12_isIn_14 (by decide +kernel) ?_
    exact r_ret_z X hr hlk (Or.inl rfl) dX12_isIn_15 (Nat.le_of_ble_eq_true rfl) (Nat.le_of_ble_eq_true rfl) ⟨_, rfl, Or.inl ⟨q1, rfl, rfl⟩⟩
  · refine r_iload_n X dX12_isIn_5 rfl ?_
    refine r_iload_n X dX12_isIn_6 rfl ?_
    refine r_icmp_gt (tgt := 14) X dX12_isIn_7 rfl (fun q2 => ?_) (fun q2 => ?_)
    · refine r_iconst (v := 0) X dX12_isIn_14 (by decide +kernel) ?_
      exact r_ret_z X hr hlk (Or.inl rfl) dX12_isIn_15 (Nat.le_of_ble_eq_true rfl) (Nat.le_of_ble_eq_true rfl) ⟨_, rfl, Or.inr (Or.inl ⟨q1, q2, rfl, rfl⟩)⟩
    · refine r_iconst (v := 1) X dX12_isIn_10 (by decide +kernel) ?_
      refine r_goto (tgt := 15) X dX12_isIn_11 rfl ?_
      exact r_ret_z X hr hlk (Or.inr rfl) dX12_isIn_15 (Nat.le_of_ble_eq_true rfl) (Nat.le_of_ble_eq_true rfl) ⟨_, rfl, Or.inr (Or.inr (⟨q1, q2, rfl, rfl⟩))⟩
set_option maxRecDepth 100000 in
set_option maxHeartbeats 4000000 in
theorem m_cell (l : Launch) (G : PG) (h0 : PH) (n : Nat) (hn : h0.length = n) (wf : Nat → Int32) (a b c0 : Int32) : PMet l G yX12_cell cX12_cell 5 (some .int) 1 0 0 [vR (n + 0), vI a, vI b, vI c0] (h0 ++ (frM n wf)) (qI (fun x h' => x = sp_cell a b c0)) := by
  refine PMet.intro (by decide) (Nat.le_of_ble_eq_true rfl) ?_
  intro p e s m args below meth c X hr hlk hnm
  refine r_aload_n X dX12_cell_0 rfl ?_
  refine r_iconst (v := 0) X dX12_cell_1 (by decide +kernel) ?_
  refine a_put (a := 0) X hn fp_X12_140 dX12_cell_2 rfl rfl rfl rfl ?_
  refine r_eq (h' := h0 ++ (frM n wf)) rfl rfl rfl ?_
  refine r_aload_n X dX12_cell_5 rfl ?_
  refine r_iload_n X dX12_cell_6 rfl ?_
  refine r_iconst (v := 0) X dX12_cell_7 (by decide +kernel) ?_
  refine r_bipush (v := 11) X dX12_cell_8 (by decide +kernel) ?_
  refine r_V3i X kv_X12_155 dX12_cell_10 (apG (k := 0) hn rfl) rfl (km3_X12_isIn l G _ _ hn _ _) rfl (fun x h' hΨ => ?_)
  rcases hΨ with ⟨q1, rfl, rfl⟩ | ⟨q2, q3, rfl, rfl⟩ | ⟨q4, q5, rfl, rfl⟩
  · refine r_if_eq_t (tgt := 37) X dX12_cell_13 rfl (by decide +kernel) ?_
    refine r_bipush (v := -2) X dX12_cell_37 (by decide +kernel) ?_
    exact r_ret_i X hr hlk dX12_cell_39 (Nat.le_of_ble_eq_true rfl) (Nat.le_of_ble_eq_true rfl) ⟨_, rfl, by unfold sp_cell; (repeat' split) <;> first | rfl | (exfalso; have e0 : (-1 : Int32).toInt = -1 := (by decide); have e1 : (-2 : Int32).toInt = -2 := (by decide); have e2 : (0 : Int32).toInt = 0 := (by decide); have e3 : (11 : Int32).toInt = 11 := (by decide); have e4 : (3 : Int32).toInt = 3 := (by decide); have e5 : (4 : Int32).toInt = 4 := (by decide); simp only [inR, Int32.lt_iff_toInt_lt, Int32.le_iff_toInt_le, ← Int32.toInt_inj, true_or, or_true, not_true_eq_false, and_true, true_and, false_or, or_false, false_and, and_false, not_false_eq_true] at * <;> omega)⟩
  · refine r_if_eq_t (tgt := 37) X dX12_cell_13 rfl (by decide +kernel) ?_
    refine r_bipush (v := -2) X dX12_cell_37 (by decide +kernel) ?_
    exact r_ret_i X hr hlk dX12_cell_39 (Nat.le_of_ble_eq_true rfl) (Nat.le_of_ble_eq_true rfl) ⟨_, rfl, by unfold sp_cell; (repeat' split) <;> first | rfl | (exfalso; have e0 : (-1 : Int32).toInt = -1 := (by decide); have e1 : (-2 : Int32).toInt = -2 := (by decide); have e2 : (0 : Int32).toInt = 0 := (by decide); have e3 : (11 : Int32).toInt = 11 := (by decide); have e4 : (3 : Int32).toInt = 3 := (by decide); have e5 : (4 : Int32).toInt = 4 := (by decide); simp only [inR, Int32.lt_iff_toInt_lt, Int32.le_iff_toInt_le, ← Int32.toInt_inj, true_or, or_true, not_true_eq_false, and_true, true_and, false_or, or_false, false_and, and_false, not_false_eq_true] at * <;> omega)⟩
  · refine r_if_eq_f (tgt := 37) X dX12_cell_13 rfl (by decide +kernel) ?_
    refine r_aload_n X dX12_cell_16 rfl ?_
    refine r_iload_n X dX12_cell_17 rfl ?_
    refine r_iconst (v := 0) X dX12_cell_18 (by decide +kernel) ?_
    refine r_bipush (v := 11) X dX12_cell_19 (by decide +kernel) ?_
    refine r_V3i X kv_X12_155 dX12_cell_21 (apG (k := 0) hn rfl) rfl (km3_X12_isIn l G _ _ hn _ _) rfl (fun x h' hΨ => ?_)
    rcases hΨ with ⟨q6, rfl, rfl⟩ | ⟨q7, q8, rfl, rfl⟩ | ⟨q9, q10, rfl, rfl⟩
    · refine r_if_eq_t (tgt := 37) X dX12_cell_24 rfl (by decide +kernel) ?_
      refine r_bipush (v := -2) X dX12_cell_37 (by decide +kernel) ?_
      exact r_ret_i X hr hlk dX12_cell_39 (Nat.le_of_ble_eq_true rfl) (Nat.le_of_ble_eq_true rfl) ⟨_, rfl, by unfold sp_cell; (repeat' split) <;> first | rfl | (exfalso; have e0 : (-1 : Int32).toInt = -1 := (by decide); have e1 : (-2 : Int32).toInt = -2 := (by decide); have e2 : (0 : Int32).toInt = 0 := (by decide); have e3 : (11 : Int32).toInt = 11 := (by decide); have e4 : (3 : Int32).toInt = 3 := (by decide); have e5 : (4 : Int32).toInt = 4 := (by decide); simp only [inR, Int32.lt_iff_toInt_lt, Int32.le_iff_toInt_le, ← Int32.toInt_inj, true_or, or_true, not_true_eq_false, and_true, true_and, false_or, or_false, false_and, and_false, not_false_eq_true] at * <;> omega)⟩
    · refine r_if_eq_t (tgt := 37) X dX12_cell_24 rfl (by decide +kernel) ?_
      refine r_bipush (v := -2) X dX12_cell_37 (by decide +kernel) ?_
      exact r_ret_i X hr hlk dX12_cell_39 (Nat.le_of_ble_eq_true rfl) (Nat.le_of_ble_eq_true rfl) ⟨_, rfl, by unfold sp_cell; (repeat' split) <;> first | rfl | (exfalso; have e0 : (-1 : Int32).toInt = -1 := (by decide); have e1 : (-2 : Int32).toInt = -2 := (by decide); have e2 : (0 : Int32).toInt = 0 := (by decide); have e3 : (11 : Int32).toInt = 11 := (by decide); have e4 : (3 : Int32).toInt = 3 := (by decide); have e5 : (4 : Int32).toInt = 4 := (by decide); simp only [inR, Int32.lt_iff_toInt_lt, Int32.le_iff_toInt_le, ← Int32.toInt_inj, true_or, or_true, not_true_eq_false, and_true, true_and, false_or, or_false, false_and, and_false, not_false_eq_true] at * <;> omega)⟩
    · refine r_if_eq_f (tgt := 37) X dX12_cell_24 rfl (by decide +kernel) ?_
      refine r_aload_n X dX12_cell_27 rfl ?_
      refine r_iload_n X dX12_cell_28 rfl ?_
      refine r_iconst (v := 0) X dX12_cell_29 (by decide +kernel) ?_
      refine r_iconst (v := 4) X dX12_cell_30 (by decide +kernel) ?_
      refine r_V3i X kv_X12_155 dX12_cell_31 (apG (k := 0) hn rfl) rfl (km15_X12_isIn l G _ _ hn _ _) rfl (fun x h' hΨ => ?_)
      rcases hΨ with ⟨q11, rfl, rfl⟩ | ⟨q12, q13, rfl, rfl⟩ | ⟨q14, q15, rfl, rfl⟩
      · refine r_if_ne_f (tgt := 40) X dX12_cell_34 rfl (by decide +kernel) ?_
        refine r_bipush (v := -2) X dX12_cell_37 (by decide +kernel) ?_
        exact r_ret_i X hr hlk dX12_cell_39 (Nat.le_of_ble_eq_true rfl) (Nat.le_of_ble_eq_true rfl) ⟨_, rfl, by unfold sp_cell; (repeat' split) <;> first | rfl | (exfalso; have e0 : (-1 : Int32).toInt = -1 := (by decide); have e1 : (-2 : Int32).toInt = -2 := (by decide); have e2 : (0 : Int32).toInt = 0 := (by decide); have e3 : (11 : Int32).toInt = 11 := (by decide); have e4 : (3 : Int32).toInt = 3 := (by decide); have e5 : (4 : Int32).toInt = 4 := (by decide); simp only [inR, Int32.lt_iff_toInt_lt, Int32.le_iff_toInt_le, ← Int32.toInt_inj, true_or, or_true, not_true_eq_false, and_true, true_and, false_or, or_false, false_and, and_false, not_false_eq_true] at * <;> omega)⟩
      · refine r_if_ne_f (tgt := 40) X dX12_cell_34 rfl (by decide +kernel) ?_
        refine r_bipush (v := -2) X dX12_cell_37 (by decide +kernel) ?_
        exact r_ret_i X hr hlk dX12_cell_39 (Nat.le_of_ble_eq_true rfl) (Nat.le_of_ble_eq_true rfl) ⟨_, rfl, by unfold sp_cell; (repeat' split) <;> first | rfl | (exfalso; have e0 : (-1 : Int32).toInt = -1 := (by decide); have e1 : (-2 : Int32).toInt = -2 := (by decide); have e2 : (0 : Int32).toInt = 0 := (by decide); have e3 : (11 : Int32).toInt = 11 := (by decide); have e4 : (3 : Int32).toInt = 3 := (by decide); have e5 : (4 : Int32).toInt = 4 := (by decide); simp only [inR, Int32.lt_iff_toInt_lt, Int32.le_iff_toInt_le, ← Int32.toInt_inj, true_or, or_true, not_true_eq_false, and_true, true_and, false_or, or_false, false_and, and_false, not_false_eq_true] at * <;> omega)⟩
      · refine r_if_ne_t (tgt := 40) X dX12_cell_34 rfl (by decide +kernel) ?_
        refine r_bipush (v := 12) X dX12_cell_40 (by decide +kernel) ?_
        refine r_iload_n X dX12_cell_42 rfl ?_
        refine r_imul X dX12_cell_43 ?_
        refine r_iload_n X dX12_cell_44 rfl ?_
        refine r_iadd X dX12_cell_45 ?_
        refine r_istore X dX12_cell_46 (by decide) ?_
        refine r_iload_n X dX12_cell_48 rfl ?_
        refine r_if_ne (tgt := 65) X dX12_cell_49 rfl (fun q16 => ?_) (fun q16 => ?_)
        · refine r_iload_n X dX12_cell_65 rfl ?_
          refine r_iconst (v := 1) X dX12_cell_66 (by decide +kernel) ?_
          refine r_icmp_ne (tgt := 82) X dX12_cell_67 rfl (fun q17 => ?_) (fun q17 => ?_)
          · refine r_iload_n X dX12_cell_82 rfl ?_
            refine r_iconst (v := 2) X dX12_cell_83 (by decide +kernel) ?_
            refine r_icmp_ne (tgt := 99) X dX12_cell_84 rfl (fun q18 => ?_) (fun q18 => ?_)
            · refine r_aload_n X dX12_cell_99 rfl ?_
              refine r_iload X dX12_cell_100 rfl ?_
              obtain ⟨j_a, hj_a, rfl⟩ : ∃ j : Nat, j ≤ 11 ∧ a = nI j := nI_of2 (M := 11) (by decide) (by have e1 : (0 : Int32).toInt = 0 := (by decide); have e2 : (11 : Int32).toInt = 11 := (by decide); simp only [Int32.lt_iff_toInt_lt, Int32.le_iff_toInt_le, ← Int32.toInt_inj] at q4 q5 ⊢; omega) (by have e1 : (0 : Int32).toInt = 0 := (by decide); have e2 : (11 : Int32).toInt = 11 := (by decide); simp only [Int32.lt_iff_toInt_lt, Int32.le_iff_toInt_le, ← Int32.toInt_inj] at q4 q5 ⊢; omega)
              obtain ⟨j_b, hj_b, rfl⟩ : ∃ j : Nat, j ≤ 11 ∧ b = nI j := nI_of2 (M := 11) (by decide) (by have e1 : (0 : Int32).toInt = 0 := (by decide); have e2 : (11 : Int32).toInt = 11 := (by decide); simp only [Int32.lt_iff_toInt_lt, Int32.le_iff_toInt_le, ← Int32.toInt_inj] at q9 q10 ⊢; omega) (by have e1 : (0 : Int32).toInt = 0 := (by decide); have e2 : (11 : Int32).toInt = 11 := (by decide); simp only [Int32.lt_iff_toInt_lt, Int32.le_iff_toInt_le, ← Int32.toInt_inj] at q9 q10 ⊢; omega)
              refine r_eq (st' := [vI (nI ((12 * j_a) + j_b)), vR (n + 0)]) rfl rfl (by rw [show ((12 * (nI j_a)) + (nI j_b) : Int32) = nI ((12 * j_a) + j_b) from nadd (nmul ((rfl : (12 : Int32) = nI 12)) (rfl)) (rfl)]) ?_
              refine r_V1i X kv_X12_332 dX12_cell_102 (apG (k := 0) hn rfl) rfl (km8_X12_isMarked l G _ _ hn _ _ (by omega)) rfl (fun x h' hΨ => ?_)
              obtain ⟨rfl, rfl⟩ := hΨ
              refine r_if_ne_f (tgt := 112) X dX12_cell_105 rfl (by decide +kernel) ?_
              refine r_iconst (v := -1) X dX12_cell_108 (by decide +kernel) ?_
              refine r_goto (tgt := 132) X dX12_cell_109 rfl ?_
              exact r_ret_i X hr hlk dX12_cell_132 (Nat.le_of_ble_eq_true rfl) (Nat.le_of_ble_eq_true rfl) ⟨_, rfl, by unfold sp_cell; (repeat' split) <;> first | rfl | (exfalso; have e0 : (-1 : Int32).toInt = -1 := (by decide); have e1 : (-2 : Int32).toInt = -2 := (by decide); have e2 : (0 : Int32).toInt = 0 := (by decide); have e3 : (1 : Int32).toInt = 1 := (by decide); have e4 : (11 : Int32).toInt = 11 := (by decide); have e5 : (2 : Int32).toInt = 2 := (by decide); have e6 : (3 : Int32).toInt = 3 := (by decide); have e7 : (4 : Int32).toInt = 4 := (by decide); have en0 : (nI j_a).toInt = ((j_a : Nat) : Int) := toN rfl (by omega); have en1 : (nI j_b).toInt = ((j_b : Nat) : Int) := toN rfl (by omega); simp only [inR, Int32.lt_iff_toInt_lt, Int32.le_iff_toInt_le, ← Int32.toInt_inj, true_or, or_true, not_true_eq_false, and_true, true_and, false_or, or_false, false_and, and_false, not_false_eq_true] at * <;> omega)⟩
            · refine r_aload_n X dX12_cell_87 rfl ?_
              refine a_get (a := 0) X hn fg_X12_7 dX12_cell_88 rfl rfl ?_
              refine r_sipush (v := 355) X dX12_cell_91 (by decide +kernel) ?_
              refine r_iload X dX12_cell_94 rfl ?_
              refine r_iadd X dX12_cell_96 ?_
              obtain ⟨j_a, hj_a, rfl⟩ : ∃ j : Nat, j ≤ 11 ∧ a = nI j := nI_of2 (M := 11) (by decide) (by have e1 : (0 : Int32).toInt = 0 := (by decide); have e2 : (11 : Int32).toInt = 11 := (by decide); simp only [Int32.lt_iff_toInt_lt, Int32.le_iff_toInt_le, ← Int32.toInt_inj] at q4 q5 ⊢; omega) (by have e1 : (0 : Int32).toInt = 0 := (by decide); have e2 : (11 : Int32).toInt = 11 := (by decide); simp only [Int32.lt_iff_toInt_lt, Int32.le_iff_toInt_le, ← Int32.toInt_inj] at q4 q5 ⊢; omega)
              obtain ⟨j_b, hj_b, rfl⟩ : ∃ j : Nat, j ≤ 11 ∧ b = nI j := nI_of2 (M := 11) (by decide) (by have e1 : (0 : Int32).toInt = 0 := (by decide); have e2 : (11 : Int32).toInt = 11 := (by decide); simp only [Int32.lt_iff_toInt_lt, Int32.le_iff_toInt_le, ← Int32.toInt_inj] at q9 q10 ⊢; omega) (by have e1 : (0 : Int32).toInt = 0 := (by decide); have e2 : (11 : Int32).toInt = 11 := (by decide); simp only [Int32.lt_iff_toInt_lt, Int32.le_iff_toInt_le, ← Int32.toInt_inj] at q9 q10 ⊢; omega)
              refine a_iald (a := 1) (v := 0) X hn dX12_cell_97 rfl (vin (k := (355 + ((12 * j_a) + j_b))) (nadd ((rfl : (355 : Int32) = nI 355)) (nadd (nmul ((rfl : (12 : Int32) = nI 12)) (rfl)) (rfl))) (by omega) (by decide)) (nw_hi (k := (355 + ((12 * j_a) + j_b))) (nadd ((rfl : (355 : Int32) = nI 355)) (nadd (nmul ((rfl : (12 : Int32) = nI 12)) (rfl)) (rfl))) (by omega) (by omega)) ?_
              exact r_ret_i X hr hlk dX12_cell_98 (Nat.le_of_ble_eq_true rfl) (Nat.le_of_ble_eq_true rfl) ⟨_, rfl, by unfold sp_cell; (repeat' split) <;> first | rfl | (exfalso; have e0 : (-1 : Int32).toInt = -1 := (by decide); have e1 : (-2 : Int32).toInt = -2 := (by decide); have e2 : (0 : Int32).toInt = 0 := (by decide); have e3 : (1 : Int32).toInt = 1 := (by decide); have e4 : (11 : Int32).toInt = 11 := (by decide); have e5 : (2 : Int32).toInt = 2 := (by decide); have e6 : (3 : Int32).toInt = 3 := (by decide); have e7 : (4 : Int32).toInt = 4 := (by decide); have en0 : (nI j_a).toInt = ((j_a : Nat) : Int) := toN rfl (by omega); have en1 : (nI j_b).toInt = ((j_b : Nat) : Int) := toN rfl (by omega); simp only [inR, Int32.lt_iff_toInt_lt, Int32.le_iff_toInt_le, ← Int32.toInt_inj, true_or, or_true, not_true_eq_false, and_true, true_and, false_or, or_false, false_and, and_false, not_false_eq_true] at * <;> omega)⟩
          · refine r_aload_n X dX12_cell_70 rfl ?_
            refine a_get (a := 0) X hn fg_X12_7 dX12_cell_71 rfl rfl ?_
            refine r_sipush (v := 211) X dX12_cell_74 (by decide +kernel) ?_
            refine r_iload X dX12_cell_77 rfl ?_
            refine r_iadd X dX12_cell_79 ?_
            obtain ⟨j_a, hj_a, rfl⟩ : ∃ j : Nat, j ≤ 11 ∧ a = nI j := nI_of2 (M := 11) (by decide) (by have e1 : (0 : Int32).toInt = 0 := (by decide); have e2 : (11 : Int32).toInt = 11 := (by decide); simp only [Int32.lt_iff_toInt_lt, Int32.le_iff_toInt_le, ← Int32.toInt_inj] at q4 q5 ⊢; omega) (by have e1 : (0 : Int32).toInt = 0 := (by decide); have e2 : (11 : Int32).toInt = 11 := (by decide); simp only [Int32.lt_iff_toInt_lt, Int32.le_iff_toInt_le, ← Int32.toInt_inj] at q4 q5 ⊢; omega)
            obtain ⟨j_b, hj_b, rfl⟩ : ∃ j : Nat, j ≤ 11 ∧ b = nI j := nI_of2 (M := 11) (by decide) (by have e1 : (0 : Int32).toInt = 0 := (by decide); have e2 : (11 : Int32).toInt = 11 := (by decide); simp only [Int32.lt_iff_toInt_lt, Int32.le_iff_toInt_le, ← Int32.toInt_inj] at q9 q10 ⊢; omega) (by have e1 : (0 : Int32).toInt = 0 := (by decide); have e2 : (11 : Int32).toInt = 11 := (by decide); simp only [Int32.lt_iff_toInt_lt, Int32.le_iff_toInt_le, ← Int32.toInt_inj] at q9 q10 ⊢; omega)
            refine a_iald (a := 1) (v := 0) X hn dX12_cell_80 rfl (vin (k := (211 + ((12 * j_a) + j_b))) (nadd ((rfl : (211 : Int32) = nI 211)) (nadd (nmul ((rfl : (12 : Int32) = nI 12)) (rfl)) (rfl))) (by omega) (by decide)) (nw_hi (k := (211 + ((12 * j_a) + j_b))) (nadd ((rfl : (211 : Int32) = nI 211)) (nadd (nmul ((rfl : (12 : Int32) = nI 12)) (rfl)) (rfl))) (by omega) (by omega)) ?_
            exact r_ret_i X hr hlk dX12_cell_81 (Nat.le_of_ble_eq_true rfl) (Nat.le_of_ble_eq_true rfl) ⟨_, rfl, by unfold sp_cell; (repeat' split) <;> first | rfl | (exfalso; have e0 : (-1 : Int32).toInt = -1 := (by decide); have e1 : (-2 : Int32).toInt = -2 := (by decide); have e2 : (0 : Int32).toInt = 0 := (by decide); have e3 : (1 : Int32).toInt = 1 := (by decide); have e4 : (11 : Int32).toInt = 11 := (by decide); have e5 : (3 : Int32).toInt = 3 := (by decide); have e6 : (4 : Int32).toInt = 4 := (by decide); have en0 : (nI j_a).toInt = ((j_a : Nat) : Int) := toN rfl (by omega); have en1 : (nI j_b).toInt = ((j_b : Nat) : Int) := toN rfl (by omega); simp only [inR, Int32.lt_iff_toInt_lt, Int32.le_iff_toInt_le, ← Int32.toInt_inj, true_or, or_true, not_true_eq_false, and_true, true_and, false_or, or_false, false_and, and_false, not_false_eq_true] at * <;> omega)⟩
        · refine r_aload_n X dX12_cell_52 rfl ?_
          refine a_get (a := 0) X hn fg_X12_7 dX12_cell_53 rfl rfl ?_
          refine r_bipush (v := 67) X dX12_cell_56 (by decide +kernel) ?_
          refine r_iload X dX12_cell_58 rfl ?_
          refine r_iadd X dX12_cell_60 ?_
          obtain ⟨j_a, hj_a, rfl⟩ : ∃ j : Nat, j ≤ 11 ∧ a = nI j := nI_of2 (M := 11) (by decide) (by have e1 : (0 : Int32).toInt = 0 := (by decide); have e2 : (11 : Int32).toInt = 11 := (by decide); simp only [Int32.lt_iff_toInt_lt, Int32.le_iff_toInt_le, ← Int32.toInt_inj] at q4 q5 ⊢; omega) (by have e1 : (0 : Int32).toInt = 0 := (by decide); have e2 : (11 : Int32).toInt = 11 := (by decide); simp only [Int32.lt_iff_toInt_lt, Int32.le_iff_toInt_le, ← Int32.toInt_inj] at q4 q5 ⊢; omega)
          obtain ⟨j_b, hj_b, rfl⟩ : ∃ j : Nat, j ≤ 11 ∧ b = nI j := nI_of2 (M := 11) (by decide) (by have e1 : (0 : Int32).toInt = 0 := (by decide); have e2 : (11 : Int32).toInt = 11 := (by decide); simp only [Int32.lt_iff_toInt_lt, Int32.le_iff_toInt_le, ← Int32.toInt_inj] at q9 q10 ⊢; omega) (by have e1 : (0 : Int32).toInt = 0 := (by decide); have e2 : (11 : Int32).toInt = 11 := (by decide); simp only [Int32.lt_iff_toInt_lt, Int32.le_iff_toInt_le, ← Int32.toInt_inj] at q9 q10 ⊢; omega)
          refine a_iald (a := 1) (v := 0) X hn dX12_cell_61 rfl (vin (k := (67 + ((12 * j_a) + j_b))) (nadd ((rfl : (67 : Int32) = nI 67)) (nadd (nmul ((rfl : (12 : Int32) = nI 12)) (rfl)) (rfl))) (by omega) (by decide)) (nw_hi (k := (67 + ((12 * j_a) + j_b))) (nadd ((rfl : (67 : Int32) = nI 67)) (nadd (nmul ((rfl : (12 : Int32) = nI 12)) (rfl)) (rfl))) (by omega) (by omega)) ?_
          refine r_iconst (v := 1) X dX12_cell_62 (by decide +kernel) ?_
          refine r_isubE (v := (-1)) X dX12_cell_63 (by decide +kernel) ?_
          exact r_ret_i X hr hlk dX12_cell_64 (Nat.le_of_ble_eq_true rfl) (Nat.le_of_ble_eq_true rfl) ⟨_, rfl, by unfold sp_cell; (repeat' split) <;> first | rfl | (exfalso; have e0 : (-1 : Int32).toInt = -1 := (by decide); have e1 : (-2 : Int32).toInt = -2 := (by decide); have e2 : (0 : Int32).toInt = 0 := (by decide); have e3 : (11 : Int32).toInt = 11 := (by decide); have e4 : (3 : Int32).toInt = 3 := (by decide); have e5 : (4 : Int32).toInt = 4 := (by decide); have en0 : (nI j_a).toInt = ((j_a : Nat) : Int) := toN rfl (by omega); have en1 : (nI j_b).toInt = ((j_b : Nat) : Int) := toN rfl (by omega); simp only [inR, Int32.lt_iff_toInt_lt, Int32.le_iff_toInt_le, ← Int32.toInt_inj, true_or, or_true, not_true_eq_false, and_true, true_and, false_or, or_false, false_and, and_false, not_false_eq_true] at * <;> omega)⟩
