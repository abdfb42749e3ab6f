set_option maxRecDepth 100000 in
set_option maxHeartbeats 4000000 in
theorem kx94_X0_countMarks (l : Launch) (G : PG) (h0 : PH) (n : Nat) (hn : h0.length = n) (T : PH) : PMet l G yX0_countMarks cX0_countMarks 3 (some .int) 0 0 0 [vR (n + 2)] (h0 ++ (frC n ++ T)) (qI (fun x h' => x = 0 ∧ h' = h0 ++ (frC n ++ T))) := by
  refine PMet.intro (by decide) (Nat.le_of_ble_eq_true rfl) ?_
  intro p e s m args below meth c X hr hlk hnm
  refine r_iconst (v := 0) X dX0_countMarks_0 (by decide +kernel) ?_
  refine r_istore_n X dX0_countMarks_1 (by decide) ?_
  refine r_iconst (v := 0) X dX0_countMarks_2 (by decide +kernel) ?_
  refine r_istore_n X dX0_countMarks_3 (by decide) ?_
  refine r_eq (h' := h0 ++ (frC n ++ T)) (ls' := [some (vR (n + 2)), some (vI 0), some (vI (nI 0))]) rfl rfl rfl ?_
  refine pw_loop1 144 (fun i0 => h0 ++ (frC n ++ T)) (fun i0 => [some (vR (n + 2)), some (vI 0), some (vI (nI i0))]) ?_ ?_ 0 (by omega)
  · refine r_eq (h' := h0 ++ (frC n ++ T)) (ls' := [some (vR (n + 2)), some (vI 0), some (vI (nI 144))]) rfl rfl rfl ?_
    refine r_iload_n X dX0_countMarks_4 rfl ?_
    refine r_sipush (v := 144) X dX0_countMarks_5 (by decide +kernel) ?_
    refine r_icmp_ge_t (tgt := 34) X dX0_countMarks_8 rfl (by decide +kernel) ?_
    refine r_iload_n X dX0_countMarks_34 rfl ?_
    exact r_ret_i X hr hlk dX0_countMarks_35 (Nat.le_of_ble_eq_true rfl) (Nat.le_of_ble_eq_true rfl) ⟨_, rfl, ⟨rfl, rfl⟩⟩
  · rintro i0 hi0 ih0 
    refine r_eq (h' := h0 ++ (frC n ++ T)) (ls' := [some (vR (n + 2)), some (vI 0), some (vI (nI i0))]) rfl rfl rfl ?_
    refine r_iload_n X dX0_countMarks_4 rfl ?_
    refine r_sipush (v := 144) X dX0_countMarks_5 (by decide +kernel) ?_
    refine r_icmp_ge_f (tgt := 34) X dX0_countMarks_8 rfl (by have e0 : (144 : Int32).toInt = 144 := (by decide); have e1 : (nI i0).toInt = ((i0 : Nat) : Int) := toN (rfl) (by omega); simp only [Int32.lt_iff_toInt_lt, Int32.le_iff_toInt_le, ← Int32.toInt_inj] at  ⊢; omega) ?_
    refine r_iload_n X dX0_countMarks_11 rfl ?_
    refine r_aload_n X dX0_countMarks_12 rfl ?_
    refine a_get (a := 2) X hn fg_X0_15 dX0_countMarks_13 rfl rfl ?_
    refine r_iload_n X dX0_countMarks_16 rfl ?_
    refine a_iald (a := 4) (v := 0) X hn dX0_countMarks_17 rfl (vin (k := i0) (rfl) (by omega) (by decide)) rfl ?_
    refine r_if_ne_f (tgt := 25) X dX0_countMarks_18 rfl (by decide +kernel) ?_
    refine r_iconst (v := 0) X dX0_countMarks_21 (by decide +kernel) ?_
    refine r_goto (tgt := 26) X dX0_countMarks_22 rfl ?_
    refine r_iaddE (v := 0) X dX0_countMarks_26 (by decide +kernel) ?_
    refine r_istore_n X dX0_countMarks_27 (by decide) ?_
    refine r_iinc (v := nI (i0 + 1)) X dX0_countMarks_28 rfl (nadd (rfl) rfl) (by decide) ?_
    refine r_goto (tgt := 4) X dX0_countMarks_31 rfl ?_
    exact r_eq (h' := h0 ++ (frC n ++ T)) (ls' := [some (vR (n + 2)), some (vI 0), some (vI (nI (i0 + 1)))]) (st' := []) rfl rfl rfl (ih0)
set_option maxRecDepth 100000 in
set_option maxHeartbeats 4000000 in
theorem kx95_X10_linesOf (l : Launch) (G : PG) (h0 : PH) (n : Nat) (hn : h0.length = n) (T : PH) : PMet l G yX10_linesOf cX10_linesOf 2 (some .int) 0 0 0 [vR (n + 1), vI 0] (h0 ++ (frC n ++ T)) (qI (fun x h' => x = 0 ∧ h' = h0 ++ (frC n ++ T))) := by
  refine PMet.intro (by decide) (Nat.le_of_ble_eq_true rfl) ?_
  intro p e s m args below meth c X hr hlk hnm
  refine r_iload_n X dX10_linesOf_0 rfl ?_
  refine r_if_lt_f (tgt := 21) X dX10_linesOf_1 rfl (by decide +kernel) ?_
  refine r_iload_n X dX10_linesOf_4 rfl ?_
  refine r_iconst (v := 4) X dX10_linesOf_5 (by decide +kernel) ?_
  refine r_icmp_ge_f (tgt := 21) X dX10_linesOf_6 rfl (by decide +kernel) ?_
  refine r_aload_n X dX10_linesOf_9 rfl ?_
  refine a_get (a := 1) X hn fg_X10_27 dX10_linesOf_10 rfl rfl ?_
  refine r_iload_n X dX10_linesOf_13 rfl ?_
  refine a_aald (a := 7) (v := vR (n + 9)) (C := RX8) X hn rfl dX10_linesOf_14 rfl (inK (by decide +kernel)) rfl ?_
  refine a_get (a := 9) X hn fg_X10_67 dX10_linesOf_15 rfl rfl ?_
  refine r_goto (tgt := 22) X dX10_linesOf_18 rfl ?_
  exact r_ret_i X hr hlk dX10_linesOf_22 (Nat.le_of_ble_eq_true rfl) (Nat.le_of_ble_eq_true rfl) ⟨_, rfl, ⟨rfl, rfl⟩⟩
set_option maxRecDepth 100000 in
set_option maxHeartbeats 4000000 in
theorem kx96_X10_linesOf (l : Launch) (G : PG) (h0 : PH) (n : Nat) (hn : h0.length = n) (T : PH) : PMet l G yX10_linesOf cX10_linesOf 2 (some .int) 0 0 0 [vR (n + 1), vI 1] (h0 ++ (frC n ++ T)) (qI (fun x h' => x = 0 ∧ h' = h0 ++ (frC n ++ T))) := by
  refine PMet.intro (by decide) (Nat.le_of_ble_eq_true rfl) ?_
  intro p e s m args below meth c X hr hlk hnm
  refine r_iload_n X dX10_linesOf_0 rfl ?_
  refine r_if_lt_f (tgt := 21) X dX10_linesOf_1 rfl (by decide +kernel) ?_
  refine r_iload_n X dX10_linesOf_4 rfl ?_
  refine r_iconst (v := 4) X dX10_linesOf_5 (by decide +kernel) ?_
  refine r_icmp_ge_f (tgt := 21) X dX10_linesOf_6 rfl (by decide +kernel) ?_
  refine r_aload_n X dX10_linesOf_9 rfl ?_
  refine a_get (a := 1) X hn fg_X10_27 dX10_linesOf_10 rfl rfl ?_
  refine r_iload_n X dX10_linesOf_13 rfl ?_
  refine a_aald (a := 7) (v := vR (n + 9)) (C := RX8) X hn rfl dX10_linesOf_14 rfl (inK (by decide +kernel)) rfl ?_
  refine a_get (a := 9) X hn fg_X10_67 dX10_linesOf_15 rfl rfl ?_
  refine r_goto (tgt := 22) X dX10_linesOf_18 rfl ?_
  exact r_ret_i X hr hlk dX10_linesOf_22 (Nat.le_of_ble_eq_true rfl) (Nat.le_of_ble_eq_true rfl) ⟨_, rfl, ⟨rfl, rfl⟩⟩
set_option maxRecDepth 100000 in
set_option maxHeartbeats 4000000 in
theorem kx97_X10_linesOf (l : Launch) (G : PG) (h0 : PH) (n : Nat) (hn : h0.length = n) (T : PH) : PMet l G yX10_linesOf cX10_linesOf 2 (some .int) 0 0 0 [vR (n + 1), vI 2] (h0 ++ (frC n ++ T)) (qI (fun x h' => x = 0 ∧ h' = h0 ++ (frC n ++ T))) := by
  refine PMet.intro (by decide) (Nat.le_of_ble_eq_true rfl) ?_
  intro p e s m args below meth c X hr hlk hnm
  refine r_iload_n X dX10_linesOf_0 rfl ?_
  refine r_if_lt_f (tgt := 21) X dX10_linesOf_1 rfl (by decide +kernel) ?_
  refine r_iload_n X dX10_linesOf_4 rfl ?_
  refine r_iconst (v := 4) X dX10_linesOf_5 (by decide +kernel) ?_
  refine r_icmp_ge_f (tgt := 21) X dX10_linesOf_6 rfl (by decide +kernel) ?_
  refine r_aload_n X dX10_linesOf_9 rfl ?_
  refine a_get (a := 1) X hn fg_X10_27 dX10_linesOf_10 rfl rfl ?_
  refine r_iload_n X dX10_linesOf_13 rfl ?_
  refine a_aald (a := 7) (v := vR (n + 9)) (C := RX8) X hn rfl dX10_linesOf_14 rfl (inK (by decide +kernel)) rfl ?_
  refine a_get (a := 9) X hn fg_X10_67 dX10_linesOf_15 rfl rfl ?_
  refine r_goto (tgt := 22) X dX10_linesOf_18 rfl ?_
  exact r_ret_i X hr hlk dX10_linesOf_22 (Nat.le_of_ble_eq_true rfl) (Nat.le_of_ble_eq_true rfl) ⟨_, rfl, ⟨rfl, rfl⟩⟩
set_option maxRecDepth 100000 in
set_option maxHeartbeats 4000000 in
theorem kx98_X10_linesOf (l : Launch) (G : PG) (h0 : PH) (n : Nat) (hn : h0.length = n) (T : PH) : PMet l G yX10_linesOf cX10_linesOf 2 (some .int) 0 0 0 [vR (n + 1), vI 3] (h0 ++ (frC n ++ T)) (qI (fun x h' => x = 0 ∧ h' = h0 ++ (frC n ++ T))) := by
  refine PMet.intro (by decide) (Nat.le_of_ble_eq_true rfl) ?_
  intro p e s m args below meth c X hr hlk hnm
  refine r_iload_n X dX10_linesOf_0 rfl ?_
  refine r_if_lt_f (tgt := 21) X dX10_linesOf_1 rfl (by decide +kernel) ?_
  refine r_iload_n X dX10_linesOf_4 rfl ?_
  refine r_iconst (v := 4) X dX10_linesOf_5 (by decide +kernel) ?_
  refine r_icmp_ge_f (tgt := 21) X dX10_linesOf_6 rfl (by decide +kernel) ?_
  refine r_aload_n X dX10_linesOf_9 rfl ?_
  refine a_get (a := 1) X hn fg_X10_27 dX10_linesOf_10 rfl rfl ?_
  refine r_iload_n X dX10_linesOf_13 rfl ?_
  refine a_aald (a := 7) (v := vR (n + 9)) (C := RX8) X hn rfl dX10_linesOf_14 rfl (inK (by decide +kernel)) rfl ?_
  refine a_get (a := 9) X hn fg_X10_67 dX10_linesOf_15 rfl rfl ?_
  refine r_goto (tgt := 22) X dX10_linesOf_18 rfl ?_
  exact r_ret_i X hr hlk dX10_linesOf_22 (Nat.le_of_ble_eq_true rfl) (Nat.le_of_ble_eq_true rfl) ⟨_, rfl, ⟨rfl, rfl⟩⟩
set_option maxRecDepth 100000 in
set_option maxHeartbeats 4000000 in
theorem x_look (l : Launch) (G : PG) (h0 : PH) (n : Nat) (hn : h0.length = n) (T : PH) (a : Int32) : PMet l G yX11_look cX11_look 2 (some .int) 1 0 0 [vR (n + 0), vI a] (h0 ++ (frC n ++ T)) (qI (fun x h' => x = sp_look a ∧ kp n 103 T h')) := by
  refine PMet.intro (by decide) (Nat.le_of_ble_eq_true rfl) ?_
  intro p e s m args below meth c X hr hlk hnm
  rcases tabc a 0 13 (by decide) with q1 | ⟨q1j, q1l, q1e⟩
  · have q1_0 : ¬ a = 0 := by rintro rfl; revert q1; decide
    have q1_1 : ¬ a = 1 := by rintro rfl; revert q1; decide
    have q1_2 : ¬ a = 2 := by rintro rfl; revert q1; decide
    have q1_3 : ¬ a = 3 := by rintro rfl; revert q1; decide
    have q1_4 : ¬ a = 4 := by rintro rfl; revert q1; decide
    have q1_5 : ¬ a = 5 := by rintro rfl; revert q1; decide
    have q1_6 : ¬ a = 6 := by rintro rfl; revert q1; decide
    have q1_7 : ¬ a = 7 := by rintro rfl; revert q1; decide
    have q1_8 : ¬ a = 8 := by rintro rfl; revert q1; decide
    have q1_9 : ¬ a = 9 := by rintro rfl; revert q1; decide
    have q1_10 : ¬ a = 10 := by rintro rfl; revert q1; decide
    have q1_11 : ¬ a = 11 := by rintro rfl; revert q1; decide
    have q1_12 : ¬ a = 12 := by rintro rfl; revert q1; decide
    have q1_13 : ¬ a = 13 := by rintro rfl; revert q1; decide
    refine r_iload_n X dX11_look_0 rfl ?_
    refine r_bipush (v := 9) X dX11_look_1 (by decide +kernel) ?_
    refine r_icmp_lt (tgt := 24) X dX11_look_3 rfl (fun q2 => ?_) (fun q2 => ?_)
    · refine r_iload_n X dX11_look_24 rfl ?_
      rcases tabc a 0 13 (by decide) with q3 | ⟨q3j, q3l, q3e⟩
      · refine r_tabOut (tgt := 203) X dX11_look_25 q3 rfl ?_
        have q3_0 : ¬ a = 0 := by rintro rfl; revert q3; decide
        have q3_1 : ¬ a = 1 := by rintro rfl; revert q3; decide
        have q3_2 : ¬ a = 2 := by rintro rfl; revert q3; decide
        have q3_3 : ¬ a = 3 := by rintro rfl; revert q3; decide
        have q3_4 : ¬ a = 4 := by rintro rfl; revert q3; decide
        have q3_5 : ¬ a = 5 := by rintro rfl; revert q3; decide
        have q3_6 : ¬ a = 6 := by rintro rfl; revert q3; decide
        have q3_7 : ¬ a = 7 := by rintro rfl; revert q3; decide
        have q3_8 : ¬ a = 8 := by rintro rfl; revert q3; decide
        have q3_9 : ¬ a = 9 := by rintro rfl; revert q3; decide
        have q3_10 : ¬ a = 10 := by rintro rfl; revert q3; decide
        have q3_11 : ¬ a = 11 := by rintro rfl; revert q3; decide
        have q3_12 : ¬ a = 12 := by rintro rfl; revert q3; decide
        have q3_13 : ¬ a = 13 := by rintro rfl; revert q3; decide
        refine r_iconst (v := -1) X dX11_look_203 (by decide +kernel) ?_
        exact r_ret_i X hr hlk dX11_look_204 (Nat.le_of_ble_eq_true rfl) (Nat.le_of_ble_eq_true rfl) ⟨_, rfl, by unfold sp_look; (repeat' split) <;> first | rfl | (exfalso; have e0 : (-1 : Int32).toInt = -1 := (by decide); have e1 : (0 : Int32).toInt = 0 := (by decide); have e2 : (1 : Int32).toInt = 1 := (by decide); have e3 : (10 : Int32).toInt = 10 := (by decide); have e4 : (11 : Int32).toInt = 11 := (by decide); have e5 : (12 : Int32).toInt = 12 := (by decide); have e6 : (13 : Int32).toInt = 13 := (by decide); have e7 : (2 : Int32).toInt = 2 := (by decide); have e8 : (3 : Int32).toInt = 3 := (by decide); have e9 : (4 : Int32).toInt = 4 := (by decide); have e10 : (5 : Int32).toInt = 5 := (by decide); have e11 : (6 : Int32).toInt = 6 := (by decide); have e12 : (7 : Int32).toInt = 7 := (by decide); have e13 : (8 : Int32).toInt = 8 := (by decide); have e14 : (9 : Int32).toInt = 9 := (by decide); simp only [inR, Int32.lt_iff_toInt_lt, Int32.le_iff_toInt_le, ← Int32.toInt_inj, true_or, or_true, not_true_eq_false, and_true, true_and, false_or, or_false, false_and, and_false, not_false_eq_true] at * <;> omega), kp_of hn rfl rfl⟩
      · rcases (show q3j = 0 ∨ q3j = 1 ∨ q3j = 2 ∨ q3j = 3 ∨ q3j = 4 ∨ q3j = 5 ∨ q3j = 6 ∨ q3j = 7 ∨ q3j = 8 ∨ q3j = 9 ∨ q3j = 10 ∨ q3j = 11 ∨ q3j = 12 ∨ q3j = 13 by omega) with rfl | rfl | rfl | rfl | rfl | rfl | rfl | rfl | rfl | rfl | rfl | rfl | rfl | rfl
        · obtain rfl : a = 0 := q3e.trans (by decide +kernel)
          refine r_tabIn (off := 71) (tgt := 96) X dX11_look_25 (by decide +kernel) (by decide +kernel) (by decide +kernel) rfl ?_
          refine r_aload_n X dX11_look_96 rfl ?_
          refine a_get (a := 0) X hn fg_X11_12 dX11_look_97 rfl rfl ?_
          refine a_get (a := 1) X hn fg_X11_67 dX11_look_100 rfl rfl ?_
          refine a_get (a := 2) X hn fg_X11_99 dX11_look_103 rfl rfl ?_
          exact r_ret_i X hr hlk dX11_look_106 (Nat.le_of_ble_eq_true rfl) (Nat.le_of_ble_eq_true rfl) ⟨_, rfl, by unfold sp_look; (repeat' split) <;> first | rfl | (exfalso; have e0 : (-1 : Int32).toInt = -1 := (by decide); have e1 : (0 : Int32).toInt = 0 := (by decide); have e2 : (1 : Int32).toInt = 1 := (by decide); have e3 : (10 : Int32).toInt = 10 := (by decide); have e4 : (11 : Int32).toInt = 11 := (by decide); have e5 : (12 : Int32).toInt = 12 := (by decide); have e6 : (13 : Int32).toInt = 13 := (by decide); have e7 : (2 : Int32).toInt = 2 := (by decide); have e8 : (3 : Int32).toInt = 3 := (by decide); have e9 : (4 : Int32).toInt = 4 := (by decide); have e10 : (5 : Int32).toInt = 5 := (by decide); have e11 : (6 : Int32).toInt = 6 := (by decide); have e12 : (7 : Int32).toInt = 7 := (by decide); have e13 : (8 : Int32).toInt = 8 := (by decide); have e14 : (9 : Int32).toInt = 9 := (by decide); simp only [inR, Int32.lt_iff_toInt_lt, Int32.le_iff_toInt_le, ← Int32.toInt_inj, true_or, or_true, not_true_eq_false, and_true, true_and, false_or, or_false, false_and, and_false, not_false_eq_true] at * <;> omega), kp_of hn rfl rfl⟩
        · obtain rfl : a = 1 := q3e.trans (by decide +kernel)
          refine r_tabIn (off := 82) (tgt := 107) X dX11_look_25 (by decide +kernel) (by decide +kernel) (by decide +kernel) rfl ?_
          refine r_aload_n X dX11_look_107 rfl ?_
          refine a_get (a := 0) X hn fg_X11_12 dX11_look_108 rfl rfl ?_
          refine a_get (a := 1) X hn fg_X11_67 dX11_look_111 rfl rfl ?_
          refine r_V0i X kv_X11_204 dX11_look_114 (apG (k := 2) hn rfl) rfl (kx94_X0_countMarks l G _ _ hn _) rfl (fun x h' hΨ => ?_)
          obtain ⟨rfl, rfl⟩ := hΨ
          exact r_ret_i X hr hlk dX11_look_117 (Nat.le_of_ble_eq_true rfl) (Nat.le_of_ble_eq_true rfl) ⟨_, rfl, by unfold sp_look; (repeat' split) <;> first | rfl | (exfalso; have e0 : (-1 : Int32).toInt = -1 := (by decide); have e1 : (0 : Int32).toInt = 0 := (by decide); have e2 : (1 : Int32).toInt = 1 := (by decide); have e3 : (10 : Int32).toInt = 10 := (by decide); have e4 : (11 : Int32).toInt = 11 := (by decide); have e5 : (12 : Int32).toInt = 12 := (by decide); have e6 : (13 : Int32).toInt = 13 := (by decide); have e7 : (2 : Int32).toInt = 2 := (by decide); have e8 : (3 : Int32).toInt = 3 := (by decide); have e9 : (4 : Int32).toInt = 4 := (by decide); have e10 : (5 : Int32).toInt = 5 := (by decide); have e11 : (6 : Int32).toInt = 6 := (by decide); have e12 : (7 : Int32).toInt = 7 := (by decide); have e13 : (8 : Int32).toInt = 8 := (by decide); have e14 : (9 : Int32).toInt = 9 := (by decide); simp only [inR, Int32.lt_iff_toInt_lt, Int32.le_iff_toInt_le, ← Int32.toInt_inj, true_or, or_true, not_true_eq_false, and_true, true_and, false_or, or_false, false_and, and_false, not_false_eq_true] at * <;> omega), kp_of hn rfl rfl⟩
        · obtain rfl : a = 2 := q3e.trans (by decide +kernel)
          refine r_tabIn (off := 93) (tgt := 118) X dX11_look_25 (by decide +kernel) (by decide +kernel) (by decide +kernel) rfl ?_
          refine r_aload_n X dX11_look_118 rfl ?_
          refine a_get (a := 0) X hn fg_X11_12 dX11_look_119 rfl rfl ?_
          refine a_get (a := 1) X hn fg_X11_67 dX11_look_122 rfl rfl ?_
          refine a_get (a := 2) X hn fg_X11_106 dX11_look_125 rfl rfl ?_
          exact r_ret_i X hr hlk dX11_look_128 (Nat.le_of_ble_eq_true rfl) (Nat.le_of_ble_eq_true rfl) ⟨_, rfl, by unfold sp_look; (repeat' split) <;> first | rfl | (exfalso; have e0 : (-1 : Int32).toInt = -1 := (by decide); have e1 : (0 : Int32).toInt = 0 := (by decide); have e2 : (1 : Int32).toInt = 1 := (by decide); have e3 : (10 : Int32).toInt = 10 := (by decide); have e4 : (11 : Int32).toInt = 11 := (by decide); have e5 : (12 : Int32).toInt = 12 := (by decide); have e6 : (13 : Int32).toInt = 13 := (by decide); have e7 : (2 : Int32).toInt = 2 := (by decide); have e8 : (3 : Int32).toInt = 3 := (by decide); have e9 : (4 : Int32).toInt = 4 := (by decide); have e10 : (5 : Int32).toInt = 5 := (by decide); have e11 : (6 : Int32).toInt = 6 := (by decide); have e12 : (7 : Int32).toInt = 7 := (by decide); have e13 : (8 : Int32).toInt = 8 := (by decide); have e14 : (9 : Int32).toInt = 9 := (by decide); simp only [inR, Int32.lt_iff_toInt_lt, Int32.le_iff_toInt_le, ← Int32.toInt_inj, true_or, or_true, not_true_eq_false, and_true, true_and, false_or, or_false, false_and, and_false, not_false_eq_true] at * <;> omega), kp_of hn rfl rfl⟩
        · obtain rfl : a = 3 := q3e.trans (by decide +kernel)
          refine r_tabIn (off := 104) (tgt := 129) X dX11_look_25 (by decide +kernel) (by decide +kernel) (by decide +kernel) rfl ?_
          refine r_aload_n X dX11_look_129 rfl ?_
          refine a_get (a := 0) X hn fg_X11_12 dX11_look_130 rfl rfl ?_
          refine a_get (a := 1) X hn fg_X11_67 dX11_look_133 rfl rfl ?_
          refine a_get (a := 2) X hn fg_X11_140 dX11_look_136 rfl rfl ?_
          exact r_ret_i X hr hlk dX11_look_139 (Nat.le_of_ble_eq_true rfl) (Nat.le_of_ble_eq_true rfl) ⟨_, rfl, by unfold sp_look; (repeat' split) <;> first | rfl | (exfalso; have e0 : (-1 : Int32).toInt = -1 := (by decide); have e1 : (0 : Int32).toInt = 0 := (by decide); have e2 : (1 : Int32).toInt = 1 := (by decide); have e3 : (10 : Int32).toInt = 10 := (by decide); have e4 : (11 : Int32).toInt = 11 := (by decide); have e5 : (12 : Int32).toInt = 12 := (by decide); have e6 : (13 : Int32).toInt = 13 := (by decide); have e7 : (2 : Int32).toInt = 2 := (by decide); have e8 : (3 : Int32).toInt = 3 := (by decide); have e9 : (4 : Int32).toInt = 4 := (by decide); have e10 : (5 : Int32).toInt = 5 := (by decide); have e11 : (6 : Int32).toInt = 6 := (by decide); have e12 : (7 : Int32).toInt = 7 := (by decide); have e13 : (8 : Int32).toInt = 8 := (by decide); have e14 : (9 : Int32).toInt = 9 := (by decide); simp only [inR, Int32.lt_iff_toInt_lt, Int32.le_iff_toInt_le, ← Int32.toInt_inj, true_or, or_true, not_true_eq_false, and_true, true_and, false_or, or_false, false_and, and_false, not_false_eq_true] at * <;> omega), kp_of hn rfl rfl⟩
        · obtain rfl : a = 4 := q3e.trans (by decide +kernel)
          refine r_tabIn (off := 115) (tgt := 140) X dX11_look_25 (by decide +kernel) (by decide +kernel) (by decide +kernel) rfl ?_
          refine r_aload_n X dX11_look_140 rfl ?_
          refine a_get (a := 0) X hn fg_X11_12 dX11_look_141 rfl rfl ?_
          refine a_get (a := 1) X hn fg_X11_67 dX11_look_144 rfl rfl ?_
          refine a_get (a := 2) X hn fg_X11_137 dX11_look_147 rfl rfl ?_
          exact r_ret_i X hr hlk dX11_look_150 (Nat.le_of_ble_eq_true rfl) (Nat.le_of_ble_eq_true rfl) ⟨_, rfl, by unfold sp_look; (repeat' split) <;> first | rfl | (exfalso; have e0 : (-1 : Int32).toInt = -1 := (by decide); have e1 : (0 : Int32).toInt = 0 := (by decide); have e2 : (1 : Int32).toInt = 1 := (by decide); have e3 : (10 : Int32).toInt = 10 := (by decide); have e4 : (11 : Int32).toInt = 11 := (by decide); have e5 : (12 : Int32).toInt = 12 := (by decide); have e6 : (13 : Int32).toInt = 13 := (by decide); have e7 : (2 : Int32).toInt = 2 := (by decide); have e8 : (3 : Int32).toInt = 3 := (by decide); have e9 : (4 : Int32).toInt = 4 := (by decide); have e10 : (5 : Int32).toInt = 5 := (by decide); have e11 : (6 : Int32).toInt = 6 := (by decide); have e12 : (7 : Int32).toInt = 7 := (by decide); have e13 : (8 : Int32).toInt = 8 := (by decide); have e14 : (9 : Int32).toInt = 9 := (by decide); simp only [inR, Int32.lt_iff_toInt_lt, Int32.le_iff_toInt_le, ← Int32.toInt_inj, true_or, or_true, not_true_eq_false, and_true, true_and, false_or, or_false, false_and, and_false, not_false_eq_true] at * <;> omega), kp_of hn rfl rfl⟩
        · obtain rfl : a = 5 := q3e.trans (by decide +kernel)
          refine r_tabIn (off := 126) (tgt := 151) X dX11_look_25 (by decide +kernel) (by decide +kernel) (by decide +kernel) rfl ?_
          refine r_aload_n X dX11_look_151 rfl ?_
          refine a_get (a := 0) X hn fg_X11_12 dX11_look_152 rfl rfl ?_
          refine a_get (a := 1) X hn fg_X11_67 dX11_look_155 rfl rfl ?_
          refine a_get (a := 2) X hn fg_X11_201 dX11_look_158 rfl rfl ?_
          exact r_ret_i X hr hlk dX11_look_161 (Nat.le_of_ble_eq_true rfl) (Nat.le_of_ble_eq_true rfl) ⟨_, rfl, by unfold sp_look; (repeat' split) <;> first | rfl | (exfalso; have e0 : (-1 : Int32).toInt = -1 := (by decide); have e1 : (0 : Int32).toInt = 0 := (by decide); have e2 : (1 : Int32).toInt = 1 := (by decide); have e3 : (10 : Int32).toInt = 10 := (by decide); have e4 : (11 : Int32).toInt = 11 := (by decide); have e5 : (12 : Int32).toInt = 12 := (by decide); have e6 : (13 : Int32).toInt = 13 := (by decide); have e7 : (2 : Int32).toInt = 2 := (by decide); have e8 : (3 : Int32).toInt = 3 := (by decide); have e9 : (4 : Int32).toInt = 4 := (by decide); have e10 : (5 : Int32).toInt = 5 := (by decide); have e11 : (6 : Int32).toInt = 6 := (by decide); have e12 : (7 : Int32).toInt = 7 := (by decide); have e13 : (8 : Int32).toInt = 8 := (by decide); have e14 : (9 : Int32).toInt = 9 := (by decide); simp only [inR, Int32.lt_iff_toInt_lt, Int32.le_iff_toInt_le, ← Int32.toInt_inj, true_or, or_true, not_true_eq_false, and_true, true_and, false_or, or_false, false_and, and_false, not_false_eq_true] at * <;> omega), kp_of hn rfl rfl⟩
        · obtain rfl : a = 6 := q3e.trans (by decide +kernel)
          refine r_tabIn (off := 137) (tgt := 162) X dX11_look_25 (by decide +kernel) (by decide +kernel) (by decide +kernel) rfl ?_
          refine r_aload_n X dX11_look_162 rfl ?_
          refine a_get (a := 0) X hn fg_X11_12 dX11_look_163 rfl rfl ?_
          refine a_get (a := 1) X hn fg_X11_67 dX11_look_166 rfl rfl ?_
          refine a_get (a := 2) X hn fg_X11_315 dX11_look_169 rfl rfl ?_
          exact r_ret_i X hr hlk dX11_look_172 (Nat.le_of_ble_eq_true rfl) (Nat.le_of_ble_eq_true rfl) ⟨_, rfl, by unfold sp_look; (repeat' split) <;> first | rfl | (exfalso; have e0 : (-1 : Int32).toInt = -1 := (by decide); have e1 : (0 : Int32).toInt = 0 := (by decide); have e2 : (1 : Int32).toInt = 1 := (by decide); have e3 : (10 : Int32).toInt = 10 := (by decide); have e4 : (11 : Int32).toInt = 11 := (by decide); have e5 : (12 : Int32).toInt = 12 := (by decide); have e6 : (13 : Int32).toInt = 13 := (by decide); have e7 : (2 : Int32).toInt = 2 := (by decide); have e8 : (3 : Int32).toInt = 3 := (by decide); have e9 : (4 : Int32).toInt = 4 := (by decide); have e10 : (5 : Int32).toInt = 5 := (by decide); have e11 : (6 : Int32).toInt = 6 := (by decide); have e12 : (7 : Int32).toInt = 7 := (by decide); have e13 : (8 : Int32).toInt = 8 := (by decide); have e14 : (9 : Int32).toInt = 9 := (by decide); simp only [inR, Int32.lt_iff_toInt_lt, Int32.le_iff_toInt_le, ← Int32.toInt_inj, true_or, or_true, not_true_eq_false, and_true, true_and, false_or, or_false, false_and, and_false, not_false_eq_true] at * <;> omega), kp_of hn rfl rfl⟩
        · obtain rfl : a = 7 := q3e.trans (by decide +kernel)
          refine r_tabIn (off := 148) (tgt := 173) X dX11_look_25 (by decide +kernel) (by decide +kernel) (by decide +kernel) rfl ?_
          refine r_aload_n X dX11_look_173 rfl ?_
          refine a_get (a := 0) X hn fg_X11_12 dX11_look_174 rfl rfl ?_
          refine a_get (a := 1) X hn fg_X11_67 dX11_look_177 rfl rfl ?_
          refine a_get (a := 2) X hn fg_X11_191 dX11_look_180 rfl rfl ?_
          exact r_ret_i X hr hlk dX11_look_183 (Nat.le_of_ble_eq_true rfl) (Nat.le_of_ble_eq_true rfl) ⟨_, rfl, by unfold sp_look; (repeat' split) <;> first | rfl | (exfalso; have e0 : (-1 : Int32).toInt = -1 := (by decide); have e1 : (0 : Int32).toInt = 0 := (by decide); have e2 : (1 : Int32).toInt = 1 := (by decide); have e3 : (10 : Int32).toInt = 10 := (by decide); have e4 : (11 : Int32).toInt = 11 := (by decide); have e5 : (12 : Int32).toInt = 12 := (by decide); have e6 : (13 : Int32).toInt = 13 := (by decide); have e7 : (2 : Int32).toInt = 2 := (by decide); have e8 : (3 : Int32).toInt = 3 := (by decide); have e9 : (4 : Int32).toInt = 4 := (by decide); have e10 : (5 : Int32).toInt = 5 := (by decide); have e11 : (6 : Int32).toInt = 6 := (by decide); have e12 : (7 : Int32).toInt = 7 := (by decide); have e13 : (8 : Int32).toInt = 8 := (by decide); have e14 : (9 : Int32).toInt = 9 := (by decide); simp only [inR, Int32.lt_iff_toInt_lt, Int32.le_iff_toInt_le, ← Int32.toInt_inj, true_or, or_true, not_true_eq_false, and_true, true_and, false_or, or_false, false_and, and_false, not_false_eq_true] at * <;> omega), kp_of hn rfl rfl⟩
        · obtain rfl : a = 8 := q3e.trans (by decide +kernel)
          refine r_tabIn (off := 159) (tgt := 184) X dX11_look_25 (by decide +kernel) (by decide +kernel) (by decide +kernel) rfl ?_
          refine r_aload_n X dX11_look_184 rfl ?_
          refine a_get (a := 0) X hn fg_X11_12 dX11_look_185 rfl rfl ?_
          refine a_get (a := 1) X hn fg_X11_67 dX11_look_188 rfl rfl ?_
          refine a_get (a := 2) X hn fg_X11_88 dX11_look_191 rfl rfl ?_
          exact r_ret_i X hr hlk dX11_look_194 (Nat.le_of_ble_eq_true rfl) (Nat.le_of_ble_eq_true rfl) ⟨_, rfl, by unfold sp_look; (repeat' split) <;> first | rfl | (exfalso; have e0 : (-1 : Int32).toInt = -1 := (by decide); have e1 : (0 : Int32).toInt = 0 := (by decide); have e2 : (1 : Int32).toInt = 1 := (by decide); have e3 : (10 : Int32).toInt = 10 := (by decide); have e4 : (11 : Int32).toInt = 11 := (by decide); have e5 : (12 : Int32).toInt = 12 := (by decide); have e6 : (13 : Int32).toInt = 13 := (by decide); have e7 : (2 : Int32).toInt = 2 := (by decide); have e8 : (3 : Int32).toInt = 3 := (by decide); have e9 : (4 : Int32).toInt = 4 := (by decide); have e10 : (5 : Int32).toInt = 5 := (by decide); have e11 : (6 : Int32).toInt = 6 := (by decide); have e12 : (7 : Int32).toInt = 7 := (by decide); have e13 : (8 : Int32).toInt = 8 := (by decide); have e14 : (9 : Int32).toInt = 9 := (by decide); simp only [inR, Int32.lt_iff_toInt_lt, Int32.le_iff_toInt_le, ← Int32.toInt_inj, true_or, or_true, not_true_eq_false, and_true, true_and, false_or, or_false, false_and, and_false, not_false_eq_true] at * <;> omega), kp_of hn rfl rfl⟩
        · obtain rfl : a = 9 := q3e.trans (by decide +kernel)
          refine r_tabIn (off := 178) (tgt := 203) X dX11_look_25 (by decide +kernel) (by decide +kernel) (by decide +kernel) rfl ?_
          refine r_iconst (v := -1) X dX11_look_203 (by decide +kernel) ?_
          exact r_ret_i X hr hlk dX11_look_204 (Nat.le_of_ble_eq_true rfl) (Nat.le_of_ble_eq_true rfl) ⟨_, rfl, by unfold sp_look; (repeat' split) <;> first | rfl | (exfalso; have e0 : (-1 : Int32).toInt = -1 := (by decide); have e1 : (0 : Int32).toInt = 0 := (by decide); have e2 : (1 : Int32).toInt = 1 := (by decide); have e3 : (10 : Int32).toInt = 10 := (by decide); have e4 : (11 : Int32).toInt = 11 := (by decide); have e5 : (12 : Int32).toInt = 12 := (by decide); have e6 : (13 : Int32).toInt = 13 := (by decide); have e7 : (2 : Int32).toInt = 2 := (by decide); have e8 : (3 : Int32).toInt = 3 := (by decide); have e9 : (4 : Int32).toInt = 4 := (by decide); have e10 : (5 : Int32).toInt = 5 := (by decide); have e11 : (6 : Int32).toInt = 6 := (by decide); have e12 : (7 : Int32).toInt = 7 := (by decide); have e13 : (8 : Int32).toInt = 8 := (by decide); have e14 : (9 : Int32).toInt = 9 := (by decide); simp only [inR, Int32.lt_iff_toInt_lt, Int32.le_iff_toInt_le, ← Int32.toInt_inj, true_or, or_true, not_true_eq_false, and_true, true_and, false_or, or_false, false_and, and_false, not_false_eq_true] at * <;> omega), kp_of hn rfl rfl⟩
        · obtain rfl : a = 10 := q3e.trans (by decide +kernel)
          refine r_tabIn (off := 178) (tgt := 203) X dX11_look_25 (by decide +kernel) (by decide +kernel) (by decide +kernel) rfl ?_
          refine r_iconst (v := -1) X dX11_look_203 (by decide +kernel) ?_
          exact r_ret_i X hr hlk dX11_look_204 (Nat.le_of_ble_eq_true rfl) (Nat.le_of_ble_eq_true rfl) ⟨_, rfl, by unfold sp_look; (repeat' split) <;> first | rfl | (exfalso; have e0 : (-1 : Int32).toInt = -1 := (by decide); have e1 : (0 : Int32).toInt = 0 := (by decide); have e2 : (1 : Int32).toInt = 1 := (by decide); have e3 : (10 : Int32).toInt = 10 := (by decide); have e4 : (11 : Int32).toInt = 11 := (by decide); have e5 : (12 : Int32).toInt = 12 := (by decide); have e6 : (13 : Int32).toInt = 13 := (by decide); have e7 : (2 : Int32).toInt = 2 := (by decide); have e8 : (3 : Int32).toInt = 3 := (by decide); have e9 : (4 : Int32).toInt = 4 := (by decide); have e10 : (5 : Int32).toInt = 5 := (by decide); have e11 : (6 : Int32).toInt = 6 := (by decide); have e12 : (7 : Int32).toInt = 7 := (by decide); have e13 : (8 : Int32).toInt = 8 := (by decide); have e14 : (9 : Int32).toInt = 9 := (by decide); simp only [inR, Int32.lt_iff_toInt_lt, Int32.le_iff_toInt_le, ← Int32.toInt_inj, true_or, or_true, not_true_eq_false, and_true, true_and, false_or, or_false, false_and, and_false, not_false_eq_true] at * <;> omega), kp_of hn rfl rfl⟩
        · obtain rfl : a = 11 := q3e.trans (by decide +kernel)
          refine r_tabIn (off := 178) (tgt := 203) X dX11_look_25 (by decide +kernel) (by decide +kernel) (by decide +kernel) rfl ?_
          refine r_iconst (v := -1) X dX11_look_203 (by decide +kernel) ?_
          exact r_ret_i X hr hlk dX11_look_204 (Nat.le_of_ble_eq_true rfl) (Nat.le_of_ble_eq_true rfl) ⟨_, rfl, by unfold sp_look; (repeat' split) <;> first | rfl | (exfalso; have e0 : (-1 : Int32).toInt = -1 := (by decide); have e1 : (0 : Int32).toInt = 0 := (by decide); have e2 : (1 : Int32).toInt = 1 := (by decide); have e3 : (10 : Int32).toInt = 10 := (by decide); have e4 : (11 : Int32).toInt = 11 := (by decide); have e5 : (12 : Int32).toInt = 12 := (by decide); have e6 : (13 : Int32).toInt = 13 := (by decide); have e7 : (2 : Int32).toInt = 2 := (by decide); have e8 : (3 : Int32).toInt = 3 := (by decide); have e9 : (4 : Int32).toInt = 4 := (by decide); have e10 : (5 : Int32).toInt = 5 := (by decide); have e11 : (6 : Int32).toInt = 6 := (by decide); have e12 : (7 : Int32).toInt = 7 := (by decide); have e13 : (8 : Int32).toInt = 8 := (by decide); have e14 : (9 : Int32).toInt = 9 := (by decide); simp only [inR, Int32.lt_iff_toInt_lt, Int32.le_iff_toInt_le, ← Int32.toInt_inj, true_or, or_true, not_true_eq_false, and_true, true_and, false_or, or_false, false_and, and_false, not_false_eq_true] at * <;> omega), kp_of hn rfl rfl⟩
        · obtain rfl : a = 12 := q3e.trans (by decide +kernel)
          refine r_tabIn (off := 178) (tgt := 203) X dX11_look_25 (by decide +kernel) (by decide +kernel) (by decide +kernel) rfl ?_
          refine r_iconst (v := -1) X dX11_look_203 (by decide +kernel) ?_
          exact r_ret_i X hr hlk dX11_look_204 (Nat.le_of_ble_eq_true rfl) (Nat.le_of_ble_eq_true rfl) ⟨_, rfl, by unfold sp_look; (repeat' split) <;> first | rfl | (exfalso; have e0 : (-1 : Int32).toInt = -1 := (by decide); have e1 : (0 : Int32).toInt = 0 := (by decide); have e2 : (1 : Int32).toInt = 1 := (by decide); have e3 : (10 : Int32).toInt = 10 := (by decide); have e4 : (11 : Int32).toInt = 11 := (by decide); have e5 : (12 : Int32).toInt = 12 := (by decide); have e6 : (13 : Int32).toInt = 13 := (by decide); have e7 : (2 : Int32).toInt = 2 := (by decide); have e8 : (3 : Int32).toInt = 3 := (by decide); have e9 : (4 : Int32).toInt = 4 := (by decide); have e10 : (5 : Int32).toInt = 5 := (by decide); have e11 : (6 : Int32).toInt = 6 := (by decide); have e12 : (7 : Int32).toInt = 7 := (by decide); have e13 : (8 : Int32).toInt = 8 := (by decide); have e14 : (9 : Int32).toInt = 9 := (by decide); simp only [inR, Int32.lt_iff_toInt_lt, Int32.le_iff_toInt_le, ← Int32.toInt_inj, true_or, or_true, not_true_eq_false, and_true, true_and, false_or, or_false, false_and, and_false, not_false_eq_true] at * <;> omega), kp_of hn rfl rfl⟩
        · obtain rfl : a = 13 := q3e.trans (by decide +kernel)
          refine r_tabIn (off := 170) (tgt := 195) X dX11_look_25 (by decide +kernel) (by decide +kernel) (by decide +kernel) rfl ?_
          refine r_aload_n X dX11_look_195 rfl ?_
          refine a_get (a := 0) X hn fg_X11_26 dX11_look_196 rfl rfl ?_
          refine a_get (a := 59) X hn fg_X11_318 dX11_look_199 rfl rfl ?_
          exact r_ret_i X hr hlk dX11_look_202 (Nat.le_of_ble_eq_true rfl) (Nat.le_of_ble_eq_true rfl) ⟨_, rfl, by unfold sp_look; (repeat' split) <;> first | rfl | (exfalso; have e0 : (-1 : Int32).toInt = -1 := (by decide); have e1 : (0 : Int32).toInt = 0 := (by decide); have e2 : (1 : Int32).toInt = 1 := (by decide); have e3 : (10 : Int32).toInt = 10 := (by decide); have e4 : (11 : Int32).toInt = 11 := (by decide); have e5 : (12 : Int32).toInt = 12 := (by decide); have e6 : (13 : Int32).toInt = 13 := (by decide); have e7 : (2 : Int32).toInt = 2 := (by decide); have e8 : (3 : Int32).toInt = 3 := (by decide); have e9 : (4 : Int32).toInt = 4 := (by decide); have e10 : (5 : Int32).toInt = 5 := (by decide); have e11 : (6 : Int32).toInt = 6 := (by decide); have e12 : (7 : Int32).toInt = 7 := (by decide); have e13 : (8 : Int32).toInt = 8 := (by decide); have e14 : (9 : Int32).toInt = 9 := (by decide); simp only [inR, Int32.lt_iff_toInt_lt, Int32.le_iff_toInt_le, ← Int32.toInt_inj, true_or, or_true, not_true_eq_false, and_true, true_and, false_or, or_false, false_and, and_false, not_false_eq_true] at * <;> omega), kp_of hn rfl rfl⟩
    · refine r_iload_n X dX11_look_6 rfl ?_
      refine r_bipush (v := 12) X dX11_look_7 (by decide +kernel) ?_
      refine r_icmp_gt_t (tgt := 24) X dX11_look_9 rfl (by have e0 : (0 : Int32).toInt = 0 := (by decide); have e1 : (1 : Int32).toInt = 1 := (by decide); have e2 : (10 : Int32).toInt = 10 := (by decide); have e3 : (11 : Int32).toInt = 11 := (by decide); have e4 : (12 : Int32).toInt = 12 := (by decide); have e5 : (13 : Int32).toInt = 13 := (by decide); have e6 : (2 : Int32).toInt = 2 := (by decide); have e7 : (3 : Int32).toInt = 3 := (by decide); have e8 : (4 : Int32).toInt = 4 := (by decide); have e9 : (5 : Int32).toInt = 5 := (by decide); have e10 : (6 : Int32).toInt = 6 := (by decide); have e11 : (7 : Int32).toInt = 7 := (by decide); have e12 : (8 : Int32).toInt = 8 := (by decide); have e13 : (9 : Int32).toInt = 9 := (by decide); simp only [Int32.lt_iff_toInt_lt, Int32.le_iff_toInt_le, ← Int32.toInt_inj] at q1_0 q1_1 q1_2 q1_3 q1_4 q1_5 q1_6 q1_7 q1_8 q1_9 q1_10 q1_11 q1_12 q1_13 q2 ⊢; omega) ?_
      refine r_iload_n X dX11_look_24 rfl ?_
      rcases tabc a 0 13 (by decide) with q4 | ⟨q4j, q4l, q4e⟩
      · refine r_tabOut (tgt := 203) X dX11_look_25 q4 rfl ?_
        have q4_0 : ¬ a = 0 := by rintro rfl; revert q4; decide
        have q4_1 : ¬ a = 1 := by rintro rfl; revert q4; decide
        have q4_2 : ¬ a = 2 := by rintro rfl; revert q4; decide
        have q4_3 : ¬ a = 3 := by rintro rfl; revert q4; decide
        have q4_4 : ¬ a = 4 := by rintro rfl; revert q4; decide
        have q4_5 : ¬ a = 5 := by rintro rfl; revert q4; decide
        have q4_6 : ¬ a = 6 := by rintro rfl; revert q4; decide
        have q4_7 : ¬ a = 7 := by rintro rfl; revert q4; decide
        have q4_8 : ¬ a = 8 := by rintro rfl; revert q4; decide
        have q4_9 : ¬ a = 9 := by rintro rfl; revert q4; decide
        have q4_10 : ¬ a = 10 := by rintro rfl; revert q4; decide
        have q4_11 : ¬ a = 11 := by rintro rfl; revert q4; decide
        have q4_12 : ¬ a = 12 := by rintro rfl; revert q4; decide
        have q4_13 : ¬ a = 13 := by rintro rfl; revert q4; decide
        refine r_iconst (v := -1) X dX11_look_203 (by decide +kernel) ?_
        exact r_ret_i X hr hlk dX11_look_204 (Nat.le_of_ble_eq_true rfl) (Nat.le_of_ble_eq_true rfl) ⟨_, rfl, by unfold sp_look; (repeat' split) <;> first | rfl | (exfalso; have e0 : (-1 : Int32).toInt = -1 := (by decide); have e1 : (0 : Int32).toInt = 0 := (by decide); have e2 : (1 : Int32).toInt = 1 := (by decide); have e3 : (10 : Int32).toInt = 10 := (by decide); have e4 : (11 : Int32).toInt = 11 := (by decide); have e5 : (12 : Int32).toInt = 12 := (by decide); have e6 : (13 : Int32).toInt = 13 := (by decide); have e7 : (2 : Int32).toInt = 2 := (by decide); have e8 : (3 : Int32).toInt = 3 := (by decide); have e9 : (4 : Int32).toInt = 4 := (by decide); have e10 : (5 : Int32).toInt = 5 := (by decide); have e11 : (6 : Int32).toInt = 6 := (by decide); have e12 : (7 : Int32).toInt = 7 := (by decide); have e13 : (8 : Int32).toInt = 8 := (by decide); have e14 : (9 : Int32).toInt = 9 := (by decide); simp only [inR, Int32.lt_iff_toInt_lt, Int32.le_iff_toInt_le, ← Int32.toInt_inj, true_or, or_true, not_true_eq_false, and_true, true_and, false_or, or_false, false_and, and_false, not_false_eq_true] at * <;> omega), kp_of hn rfl rfl⟩
      · rcases (show q4j = 0 ∨ q4j = 1 ∨ q4j = 2 ∨ q4j = 3 ∨ q4j = 4 ∨ q4j = 5 ∨ q4j = 6 ∨ q4j = 7 ∨ q4j = 8 ∨ q4j = 9 ∨ q4j = 10 ∨ q4j = 11 ∨ q4j = 12 ∨ q4j = 13 by omega) with rfl | rfl | rfl | rfl | rfl | rfl | rfl | rfl | rfl | rfl | rfl | rfl | rfl | rfl
        · obtain rfl : a = 0 := q4e.trans (by decide +kernel)
          refine r_tabIn (off := 71) (tgt := 96) X dX11_look_25 (by decide +kernel) (by decide +kernel) (by decide +kernel) rfl ?_
          refine r_aload_n X dX11_look_96 rfl ?_
          refine a_get (a := 0) X hn fg_X11_12 dX11_look_97 rfl rfl ?_
          refine a_get (a := 1) X hn fg_X11_67 dX11_look_100 rfl rfl ?_
          refine a_get (a := 2) X hn fg_X11_99 dX11_look_103 rfl rfl ?_
          exact r_ret_i X hr hlk dX11_look_106 (Nat.le_of_ble_eq_true rfl) (Nat.le_of_ble_eq_true rfl) ⟨_, rfl, by unfold sp_look; (repeat' split) <;> first | rfl | (exfalso; have e0 : (-1 : Int32).toInt = -1 := (by decide); have e1 : (0 : Int32).toInt = 0 := (by decide); have e2 : (1 : Int32).toInt = 1 := (by decide); have e3 : (10 : Int32).toInt = 10 := (by decide); have e4 : (11 : Int32).toInt = 11 := (by decide); have e5 : (12 : Int32).toInt = 12 := (by decide); have e6 : (13 : Int32).toInt = 13 := (by decide); have e7 : (2 : Int32).toInt = 2 := (by decide); have e8 : (3 : Int32).toInt = 3 := (by decide); have e9 : (4 : Int32).toInt = 4 := (by decide); have e10 : (5 : Int32).toInt = 5 := (by decide); have e11 : (6 : Int32).toInt = 6 := (by decide); have e12 : (7 : Int32).toInt = 7 := (by decide); have e13 : (8 : Int32).toInt = 8 := (by decide); have e14 : (9 : Int32).toInt = 9 := (by decide); simp only [inR, Int32.lt_iff_toInt_lt, Int32.le_iff_toInt_le, ← Int32.toInt_inj, true_or, or_true, not_true_eq_false, and_true, true_and, false_or, or_false, false_and, and_false, not_false_eq_true] at * <;> omega), kp_of hn rfl rfl⟩
        · obtain rfl : a = 1 := q4e.trans (by decide +kernel)
          refine r_tabIn (off := 82) (tgt := 107) X dX11_look_25 (by decide +kernel) (by decide +kernel) (by decide +kernel) rfl ?_
          refine r_aload_n X dX11_look_107 rfl ?_
          refine a_get (a := 0) X hn fg_X11_12 dX11_look_108 rfl rfl ?_
          refine a_get (a := 1) X hn fg_X11_67 dX11_look_111 rfl rfl ?_
          refine r_V0i X kv_X11_204 dX11_look_114 (apG (k := 2) hn rfl) rfl (kx94_X0_countMarks l G _ _ hn _) rfl (fun x h' hΨ => ?_)
          obtain ⟨rfl, rfl⟩ := hΨ
          exact r_ret_i X hr hlk dX11_look_117 (Nat.le_of_ble_eq_true rfl) (Nat.le_of_ble_eq_true rfl) ⟨_, rfl, by unfold sp_look; (repeat' split) <;> first | rfl | (exfalso; have e0 : (-1 : Int32).toInt = -1 := (by decide); have e1 : (0 : Int32).toInt = 0 := (by decide); have e2 : (1 : Int32).toInt = 1 := (by decide); have e3 : (10 : Int32).toInt = 10 := (by decide); have e4 : (11 : Int32).toInt = 11 := (by decide); have e5 : (12 : Int32).toInt = 12 := (by decide); have e6 : (13 : Int32).toInt = 13 := (by decide); have e7 : (2 : Int32).toInt = 2 := (by decide); have e8 : (3 : Int32).toInt = 3 := (by decide); have e9 : (4 : Int32).toInt = 4 := (by decide); have e10 : (5 : Int32).toInt = 5 := (by decide); have e11 : (6 : Int32).toInt = 6 := (by decide); have e12 : (7 : Int32).toInt = 7 := (by decide); have e13 : (8 : Int32).toInt = 8 := (by decide); have e14 : (9 : Int32).toInt = 9 := (by decide); simp only [inR, Int32.lt_iff_toInt_lt, Int32.le_iff_toInt_le, ← Int32.toInt_inj, true_or, or_true, not_true_eq_false, and_true, true_and, false_or, or_false, false_and, and_false, not_false_eq_true] at * <;> omega), kp_of hn rfl rfl⟩
        · obtain rfl : a = 2 := q4e.trans (by decide +kernel)
          refine r_tabIn (off := 93) (tgt := 118) X dX11_look_25 (by decide +kernel) (by decide +kernel) (by decide +kernel) rfl ?_
          refine r_aload_n X dX11_look_118 rfl ?_
          refine a_get (a := 0) X hn fg_X11_12 dX11_look_119 rfl rfl ?_
          refine a_get (a := 1) X hn fg_X11_67 dX11_look_122 rfl rfl ?_
          refine a_get (a := 2) X hn fg_X11_106 dX11_look_125 rfl rfl ?_
          exact r_ret_i X hr hlk dX11_look_128 (Nat.le_of_ble_eq_true rfl) (Nat.le_of_ble_eq_true rfl) ⟨_, rfl, by unfold sp_look; (repeat' split) <;> first | rfl | (exfalso; have e0 : (-1 : Int32).toInt = -1 := (by decide); have e1 : (0 : Int32).toInt = 0 := (by decide); have e2 : (1 : Int32).toInt = 1 := (by decide); have e3 : (10 : Int32).toInt = 10 := (by decide); have e4 : (11 : Int32).toInt = 11 := (by decide); have e5 : (12 : Int32).toInt = 12 := (by decide); have e6 : (13 : Int32).toInt = 13 := (by decide); have e7 : (2 : Int32).toInt = 2 := (by decide); have e8 : (3 : Int32).toInt = 3 := (by decide); have e9 : (4 : Int32).toInt = 4 := (by decide); have e10 : (5 : Int32).toInt = 5 := (by decide); have e11 : (6 : Int32).toInt = 6 := (by decide); have e12 : (7 : Int32).toInt = 7 := (by decide); have e13 : (8 : Int32).toInt = 8 := (by decide); have e14 : (9 : Int32).toInt = 9 := (by decide); simp only [inR, Int32.lt_iff_toInt_lt, Int32.le_iff_toInt_le, ← Int32.toInt_inj, true_or, or_true, not_true_eq_false, and_true, true_and, false_or, or_false, false_and, and_false, not_false_eq_true] at * <;> omega), kp_of hn rfl rfl⟩
        · obtain rfl : a = 3 := q4e.trans (by decide +kernel)
          refine r_tabIn (off := 104) (tgt := 129) X dX11_look_25 (by decide +kernel) (by decide +kernel) (by decide +kernel) rfl ?_
          refine r_aload_n X dX11_look_129 rfl ?_
          refine a_get (a := 0) X hn fg_X11_12 dX11_look_130 rfl rfl ?_
          refine a_get (a := 1) X hn fg_X11_67 dX11_look_133 rfl rfl ?_
          refine a_get (a := 2) X hn fg_X11_140 dX11_look_136 rfl rfl ?_
          exact r_ret_i X hr hlk dX11_look_139 (Nat.le_of_ble_eq_true rfl) (Nat.le_of_ble_eq_true rfl) ⟨_, rfl, by unfold sp_look; (repeat' split) <;> first | rfl | (exfalso; have e0 : (-1 : Int32).toInt = -1 := (by decide); have e1 : (0 : Int32).toInt = 0 := (by decide); have e2 : (1 : Int32).toInt = 1 := (by decide); have e3 : (10 : Int32).toInt = 10 := (by decide); have e4 : (11 : Int32).toInt = 11 := (by decide); have e5 : (12 : Int32).toInt = 12 := (by decide); have e6 : (13 : Int32).toInt = 13 := (by decide); have e7 : (2 : Int32).toInt = 2 := (by decide); have e8 : (3 : Int32).toInt = 3 := (by decide); have e9 : (4 : Int32).toInt = 4 := (by decide); have e10 : (5 : Int32).toInt = 5 := (by decide); have e11 : (6 : Int32).toInt = 6 := (by decide); have e12 : (7 : Int32).toInt = 7 := (by decide); have e13 : (8 : Int32).toInt = 8 := (by decide); have e14 : (9 : Int32).toInt = 9 := (by decide); simp only [inR, Int32.lt_iff_toInt_lt, Int32.le_iff_toInt_le, ← Int32.toInt_inj, true_or, or_true, not_true_eq_false, and_true, true_and, false_or, or_false, false_and, and_false, not_false_eq_true] at * <;> omega), kp_of hn rfl rfl⟩
        · obtain rfl : a = 4 := q4e.trans (by decide +kernel)
          refine r_tabIn (off := 115) (tgt := 140) X dX11_look_25 (by decide +kernel) (by decide +kernel) (by decide +kernel) rfl ?_
          refine r_aload_n X dX11_look_140 rfl ?_
          refine a_get (a := 0) X hn fg_X11_12 dX11_look_141 rfl rfl ?_
          refine a_get (a := 1) X hn fg_X11_67 dX11_look_144 rfl rfl ?_
          refine a_get (a := 2) X hn fg_X11_137 dX11_look_147 rfl rfl ?_
          exact r_ret_i X hr hlk dX11_look_150 (Nat.le_of_ble_eq_true rfl) (Nat.le_of_ble_eq_true rfl) ⟨_, rfl, by unfold sp_look; (repeat' split) <;> first | rfl | (exfalso; have e0 : (-1 : Int32).toInt = -1 := (by decide); have e1 : (0 : Int32).toInt = 0 := (by decide); have e2 : (1 : Int32).toInt = 1 := (by decide); have e3 : (10 : Int32).toInt = 10 := (by decide); have e4 : (11 : Int32).toInt = 11 := (by decide); have e5 : (12 : Int32).toInt = 12 := (by decide); have e6 : (13 : Int32).toInt = 13 := (by decide); have e7 : (2 : Int32).toInt = 2 := (by decide); have e8 : (3 : Int32).toInt = 3 := (by decide); have e9 : (4 : Int32).toInt = 4 := (by decide); have e10 : (5 : Int32).toInt = 5 := (by decide); have e11 : (6 : Int32).toInt = 6 := (by decide); have e12 : (7 : Int32).toInt = 7 := (by decide); have e13 : (8 : Int32).toInt = 8 := (by decide); have e14 : (9 : Int32).toInt = 9 := (by decide); simp only [inR, Int32.lt_iff_toInt_lt, Int32.le_iff_toInt_le, ← Int32.toInt_inj, true_or, or_true, not_true_eq_false, and_true, true_and, false_or, or_false, false_and, and_false, not_false_eq_true] at * <;> omega), kp_of hn rfl rfl⟩
        · obtain rfl : a = 5 := q4e.trans (by decide +kernel)
          refine r_tabIn (off := 126) (tgt := 151) X dX11_look_25 (by decide +kernel) (by decide +kernel) (by decide +kernel) rfl ?_
          refine r_aload_n X dX11_look_151 rfl ?_
          refine a_get (a := 0) X hn fg_X11_12 dX11_look_152 rfl rfl ?_
          refine a_get (a := 1) X hn fg_X11_67 dX11_look_155 rfl rfl ?_
          refine a_get (a := 2) X hn fg_X11_201 dX11_look_158 rfl rfl ?_
          exact r_ret_i X hr hlk dX11_look_161 (Nat.le_of_ble_eq_true rfl) (Nat.le_of_ble_eq_true rfl) ⟨_, rfl, by unfold sp_look; (repeat' split) <;> first | rfl | (exfalso; have e0 : (-1 : Int32).toInt = -1 := (by decide); have e1 : (0 : Int32).toInt = 0 := (by decide); have e2 : (1 : Int32).toInt = 1 := (by decide); have e3 : (10 : Int32).toInt = 10 := (by decide); have e4 : (11 : Int32).toInt = 11 := (by decide); have e5 : (12 : Int32).toInt = 12 := (by decide); have e6 : (13 : Int32).toInt = 13 := (by decide); have e7 : (2 : Int32).toInt = 2 := (by decide); have e8 : (3 : Int32).toInt = 3 := (by decide); have e9 : (4 : Int32).toInt = 4 := (by decide); have e10 : (5 : Int32).toInt = 5 := (by decide); have e11 : (6 : Int32).toInt = 6 := (by decide); have e12 : (7 : Int32).toInt = 7 := (by decide); have e13 : (8 : Int32).toInt = 8 := (by decide); have e14 : (9 : Int32).toInt = 9 := (by decide); simp only [inR, Int32.lt_iff_toInt_lt, Int32.le_iff_toInt_le, ← Int32.toInt_inj, true_or, or_true, not_true_eq_false, and_true, true_and, false_or, or_false, false_and, and_false, not_false_eq_true] at * <;> omega), kp_of hn rfl rfl⟩
        · obtain rfl : a = 6 := q4e.trans (by decide +kernel)
          refine r_tabIn (off := 137) (tgt := 162) X dX11_look_25 (by decide +kernel) (by decide +kernel) (by decide +kernel) rfl ?_
          refine r_aload_n X dX11_look_162 rfl ?_
          refine a_get (a := 0) X hn fg_X11_12 dX11_look_163 rfl rfl ?_
          refine a_get (a := 1) X hn fg_X11_67 dX11_look_166 rfl rfl ?_
          refine a_get (a := 2) X hn fg_X11_315 dX11_look_169 rfl rfl ?_
          exact r_ret_i X hr hlk dX11_look_172 (Nat.le_of_ble_eq_true rfl) (Nat.le_of_ble_eq_true rfl) ⟨_, rfl, by unfold sp_look; (repeat' split) <;> first | rfl | (exfalso; have e0 : (-1 : Int32).toInt = -1 := (by decide); have e1 : (0 : Int32).toInt = 0 := (by decide); have e2 : (1 : Int32).toInt = 1 := (by decide); have e3 : (10 : Int32).toInt = 10 := (by decide); have e4 : (11 : Int32).toInt = 11 := (by decide); have e5 : (12 : Int32).toInt = 12 := (by decide); have e6 : (13 : Int32).toInt = 13 := (by decide); have e7 : (2 : Int32).toInt = 2 := (by decide); have e8 : (3 : Int32).toInt = 3 := (by decide); have e9 : (4 : Int32).toInt = 4 := (by decide); have e10 : (5 : Int32).toInt = 5 := (by decide); have e11 : (6 : Int32).toInt = 6 := (by decide); have e12 : (7 : Int32).toInt = 7 := (by decide); have e13 : (8 : Int32).toInt = 8 := (by decide); have e14 : (9 : Int32).toInt = 9 := (by decide); simp only [inR, Int32.lt_iff_toInt_lt, Int32.le_iff_toInt_le, ← Int32.toInt_inj, true_or, or_true, not_true_eq_false, and_true, true_and, false_or, or_false, false_and, and_false, not_false_eq_true] at * <;> omega), kp_of hn rfl rfl⟩
        · obtain rfl : a = 7 := q4e.trans (by decide +kernel)
          refine r_tabIn (off := 148) (tgt := 173) X dX11_look_25 (by decide +kernel) (by decide +kernel) (by decide +kernel) rfl ?_
          refine r_aload_n X dX11_look_173 rfl ?_
          refine a_get (a := 0) X hn fg_X11_12 dX11_look_174 rfl rfl ?_
          refine a_get (a := 1) X hn fg_X11_67 dX11_look_177 rfl rfl ?_
          refine a_get (a := 2) X hn fg_X11_191 dX11_look_180 rfl rfl ?_
          exact r_ret_i X hr hlk dX11_look_183 (Nat.le_of_ble_eq_true rfl) (Nat.le_of_ble_eq_true rfl) ⟨_, rfl, by unfold sp_look; (repeat' split) <;> first | rfl | (exfalso; have e0 : (-1 : Int32).toInt = -1 := (by decide); have e1 : (0 : Int32).toInt = 0 := (by decide); have e2 : (1 : Int32).toInt = 1 := (by decide); have e3 : (10 : Int32).toInt = 10 := (by decide); have e4 : (11 : Int32).toInt = 11 := (by decide); have e5 : (12 : Int32).toInt = 12 := (by decide); have e6 : (13 : Int32).toInt = 13 := (by decide); have e7 : (2 : Int32).toInt = 2 := (by decide); have e8 : (3 : Int32).toInt = 3 := (by decide); have e9 : (4 : Int32).toInt = 4 := (by decide); have e10 : (5 : Int32).toInt = 5 := (by decide); have e11 : (6 : Int32).toInt = 6 := (by decide); have e12 : (7 : Int32).toInt = 7 := (by decide); have e13 : (8 : Int32).toInt = 8 := (by decide); have e14 : (9 : Int32).toInt = 9 := (by decide); simp only [inR, Int32.lt_iff_toInt_lt, Int32.le_iff_toInt_le, ← Int32.toInt_inj, true_or, or_true, not_true_eq_false, and_true, true_and, false_or, or_false, false_and, and_false, not_false_eq_true] at * <;> omega), kp_of hn rfl rfl⟩
        · obtain rfl : a = 8 := q4e.trans (by decide +kernel)
          refine r_tabIn (off := 159) (tgt := 184) X dX11_look_25 (by decide +kernel) (by decide +kernel) (by decide +kernel) rfl ?_
          refine r_aload_n X dX11_look_184 rfl ?_
          refine a_get (a := 0) X hn fg_X11_12 dX11_look_185 rfl rfl ?_
          refine a_get (a := 1) X hn fg_X11_67 dX11_look_188 rfl rfl ?_
          refine a_get (a := 2) X hn fg_X11_88 dX11_look_191 rfl rfl ?_
          exact r_ret_i X hr hlk dX11_look_194 (Nat.le_of_ble_eq_true rfl) (Nat.le_of_ble_eq_true rfl) ⟨_, rfl, by unfold sp_look; (repeat' split) <;> first | rfl | (exfalso; have e0 : (-1 : Int32).toInt = -1 := (by decide); have e1 : (0 : Int32).toInt = 0 := (by decide); have e2 : (1 : Int32).toInt = 1 := (by decide); have e3 : (10 : Int32).toInt = 10 := (by decide); have e4 : (11 : Int32).toInt = 11 := (by decide); have e5 : (12 : Int32).toInt = 12 := (by decide); have e6 : (13 : Int32).toInt = 13 := (by decide); have e7 : (2 : Int32).toInt = 2 := (by decide); have e8 : (3 : Int32).toInt = 3 := (by decide); have e9 : (4 : Int32).toInt = 4 := (by decide); have e10 : (5 : Int32).toInt = 5 := (by decide); have e11 : (6 : Int32).toInt = 6 := (by decide); have e12 : (7 : Int32).toInt = 7 := (by decide); have e13 : (8 : Int32).toInt = 8 := (by decide); have e14 : (9 : Int32).toInt = 9 := (by decide); simp only [inR, Int32.lt_iff_toInt_lt, Int32.le_iff_toInt_le, ← Int32.toInt_inj, true_or, or_true, not_true_eq_false, and_true, true_and, false_or, or_false, false_and, and_false, not_false_eq_true] at * <;> omega), kp_of hn rfl rfl⟩
        · obtain rfl : a = 9 := q4e.trans (by decide +kernel)
          refine r_tabIn (off := 178) (tgt := 203) X dX11_look_25 (by decide +kernel) (by decide +kernel) (by decide +kernel) rfl ?_
          refine r_iconst (v := -1) X dX11_look_203 (by decide +kernel) ?_
          exact r_ret_i X hr hlk dX11_look_204 (Nat.le_of_ble_eq_true rfl) (Nat.le_of_ble_eq_true rfl) ⟨_, rfl, by unfold sp_look; (repeat' split) <;> first | rfl | (exfalso; have e0 : (-1 : Int32).toInt = -1 := (by decide); have e1 : (0 : Int32).toInt = 0 := (by decide); have e2 : (1 : Int32).toInt = 1 := (by decide); have e3 : (10 : Int32).toInt = 10 := (by decide); have e4 : (11 : Int32).toInt = 11 := (by decide); have e5 : (12 : Int32).toInt = 12 := (by decide); have e6 : (13 : Int32).toInt = 13 := (by decide); have e7 : (2 : Int32).toInt = 2 := (by decide); have e8 : (3 : Int32).toInt = 3 := (by decide); have e9 : (4 : Int32).toInt = 4 := (by decide); have e10 : (5 : Int32).toInt = 5 := (by decide); have e11 : (6 : Int32).toInt = 6 := (by decide); have e12 : (7 : Int32).toInt = 7 := (by decide); have e13 : (8 : Int32).toInt = 8 := (by decide); have e14 : (9 : Int32).toInt = 9 := (by decide); simp only [inR, Int32.lt_iff_toInt_lt, Int32.le_iff_toInt_le, ← Int32.toInt_inj, true_or, or_true, not_true_eq_false, and_true, true_and, false_or, or_false, false_and, and_false, not_false_eq_true] at * <;> omega), kp_of hn rfl rfl⟩
        · obtain rfl : a = 10 := q4e.trans (by decide +kernel)
          refine r_tabIn (off := 178) (tgt := 203) X dX11_look_25 (by decide +kernel) (by decide +kernel) (by decide +kernel) rfl ?_
          refine r_iconst (v := -1) X dX11_look_203 (by decide +kernel) ?_
          exact r_ret_i X hr hlk dX11_look_204 (Nat.le_of_ble_eq_true rfl) (Nat.le_of_ble_eq_true rfl) ⟨_, rfl, by unfold sp_look; (repeat' split) <;> first | rfl | (exfalso; have e0 : (-1 : Int32).toInt = -1 := (by decide); have e1 : (0 : Int32).toInt = 0 := (by decide); have e2 : (1 : Int32).toInt = 1 := (by decide); have e3 : (10 : Int32).toInt = 10 := (by decide); have e4 : (11 : Int32).toInt = 11 := (by decide); have e5 : (12 : Int32).toInt = 12 := (by decide); have e6 : (13 : Int32).toInt = 13 := (by decide); have e7 : (2 : Int32).toInt = 2 := (by decide); have e8 : (3 : Int32).toInt = 3 := (by decide); have e9 : (4 : Int32).toInt = 4 := (by decide); have e10 : (5 : Int32).toInt = 5 := (by decide); have e11 : (6 : Int32).toInt = 6 := (by decide); have e12 : (7 : Int32).toInt = 7 := (by decide); have e13 : (8 : Int32).toInt = 8 := (by decide); have e14 : (9 : Int32).toInt = 9 := (by decide); simp only [inR, Int32.lt_iff_toInt_lt, Int32.le_iff_toInt_le, ← Int32.toInt_inj, true_or, or_true, not_true_eq_false, and_true, true_and, false_or, or_false, false_and, and_false, not_false_eq_true] at * <;> omega), kp_of hn rfl rfl⟩
        · obtain rfl : a = 11 := q4e.trans (by decide +kernel)
          refine r_tabIn (off := 178) (tgt := 203) X dX11_look_25 (by decide +kernel) (by decide +kernel) (by decide +kernel) rfl ?_
          refine r_iconst (v := -1) X dX11_look_203 (by decide +kernel) ?_
          exact r_ret_i X hr hlk dX11_look_204 (Nat.le_of_ble_eq_true rfl) (Nat.le_of_ble_eq_true rfl) ⟨_, rfl, by unfold sp_look; (repeat' split) <;> first | rfl | (exfalso; have e0 : (-1 : Int32).toInt = -1 := (by decide); have e1 : (0 : Int32).toInt = 0 := (by decide); have e2 : (1 : Int32).toInt = 1 := (by decide); have e3 : (10 : Int32).toInt = 10 := (by decide); have e4 : (11 : Int32).toInt = 11 := (by decide); have e5 : (12 : Int32).toInt = 12 := (by decide); have e6 : (13 : Int32).toInt = 13 := (by decide); have e7 : (2 : Int32).toInt = 2 := (by decide); have e8 : (3 : Int32).toInt = 3 := (by decide); have e9 : (4 : Int32).toInt = 4 := (by decide); have e10 : (5 : Int32).toInt = 5 := (by decide); have e11 : (6 : Int32).toInt = 6 := (by decide); have e12 : (7 : Int32).toInt = 7 := (by decide); have e13 : (8 : Int32).toInt = 8 := (by decide); have e14 : (9 : Int32).toInt = 9 := (by decide); simp only [inR, Int32.lt_iff_toInt_lt, Int32.le_iff_toInt_le, ← Int32.toInt_inj, true_or, or_true, not_true_eq_false, and_true, true_and, false_or, or_false, false_and, and_false, not_false_eq_true] at * <;> omega), kp_of hn rfl rfl⟩
        · obtain rfl : a = 12 := q4e.trans (by decide +kernel)
          refine r_tabIn (off := 178) (tgt := 203) X dX11_look_25 (by decide +kernel) (by decide +kernel) (by decide +kernel) rfl ?_
          refine r_iconst (v := -1) X dX11_look_203 (by decide +kernel) ?_
          exact r_ret_i X hr hlk dX11_look_204 (Nat.le_of_ble_eq_true rfl) (Nat.le_of_ble_eq_true rfl) ⟨_, rfl, by unfold sp_look; (repeat' split) <;> first | rfl | (exfalso; have e0 : (-1 : Int32).toInt = -1 := (by decide); have e1 : (0 : Int32).toInt = 0 := (by decide); have e2 : (1 : Int32).toInt = 1 := (by decide); have e3 : (10 : Int32).toInt = 10 := (by decide); have e4 : (11 : Int32).toInt = 11 := (by decide); have e5 : (12 : Int32).toInt = 12 := (by decide); have e6 : (13 : Int32).toInt = 13 := (by decide); have e7 : (2 : Int32).toInt = 2 := (by decide); have e8 : (3 : Int32).toInt = 3 := (by decide); have e9 : (4 : Int32).toInt = 4 := (by decide); have e10 : (5 : Int32).toInt = 5 := (by decide); have e11 : (6 : Int32).toInt = 6 := (by decide); have e12 : (7 : Int32).toInt = 7 := (by decide); have e13 : (8 : Int32).toInt = 8 := (by decide); have e14 : (9 : Int32).toInt = 9 := (by decide); simp only [inR, Int32.lt_iff_toInt_lt, Int32.le_iff_toInt_le, ← Int32.toInt_inj, true_or, or_true, not_true_eq_false, and_true, true_and, false_or, or_false, false_and, and_false, not_false_eq_true] at * <;> omega), kp_of hn rfl rfl⟩
        · obtain rfl : a = 13 := q4e.trans (by decide +kernel)
          refine r_tabIn (off := 170) (tgt := 195) X dX11_look_25 (by decide +kernel) (by decide +kernel) (by decide +kernel) rfl ?_
          refine r_aload_n X dX11_look_195 rfl ?_
          refine a_get (a := 0) X hn fg_X11_26 dX11_look_196 rfl rfl ?_
          refine a_get (a := 59) X hn fg_X11_318 dX11_look_199 rfl rfl ?_
          exact r_ret_i X hr hlk dX11_look_202 (Nat.le_of_ble_eq_true rfl) (Nat.le_of_ble_eq_true rfl) ⟨_, rfl, by unfold sp_look; (repeat' split) <;> first | rfl | (exfalso; have e0 : (-1 : Int32).toInt = -1 := (by decide); have e1 : (0 : Int32).toInt = 0 := (by decide); have e2 : (1 : Int32).toInt = 1 := (by decide); have e3 : (10 : Int32).toInt = 10 := (by decide); have e4 : (11 : Int32).toInt = 11 := (by decide); have e5 : (12 : Int32).toInt = 12 := (by decide); have e6 : (13 : Int32).toInt = 13 := (by decide); have e7 : (2 : Int32).toInt = 2 := (by decide); have e8 : (3 : Int32).toInt = 3 := (by decide); have e9 : (4 : Int32).toInt = 4 := (by decide); have e10 : (5 : Int32).toInt = 5 := (by decide); have e11 : (6 : Int32).toInt = 6 := (by decide); have e12 : (7 : Int32).toInt = 7 := (by decide); have e13 : (8 : Int32).toInt = 8 := (by decide); have e14 : (9 : Int32).toInt = 9 := (by decide); simp only [inR, Int32.lt_iff_toInt_lt, Int32.le_iff_toInt_le, ← Int32.toInt_inj, true_or, or_true, not_true_eq_false, and_true, true_and, false_or, or_false, false_and, and_false, not_false_eq_true] at * <;> omega), kp_of hn rfl rfl⟩
  · rcases (show q1j = 0 ∨ q1j = 1 ∨ q1j = 2 ∨ q1j = 3 ∨ q1j = 4 ∨ q1j = 5 ∨ q1j = 6 ∨ q1j = 7 ∨ q1j = 8 ∨ q1j = 9 ∨ q1j = 10 ∨ q1j = 11 ∨ q1j = 12 ∨ q1j = 13 by omega) with rfl | rfl | rfl | rfl | rfl | rfl | rfl | rfl | rfl | rfl | rfl | rfl | rfl | rfl
    · obtain rfl : a = 0 := q1e.trans (by decide +kernel)
      refine r_iload_n X dX11_look_0 rfl ?_
      refine r_bipush (v := 9) X dX11_look_1 (by decide +kernel) ?_
      refine r_icmp_lt_t (tgt := 24) X dX11_look_3 rfl (by decide +kernel) ?_
      refine r_iload_n X dX11_look_24 rfl ?_
      refine r_tabIn (off := 71) (tgt := 96) X dX11_look_25 (by decide +kernel) (by decide +kernel) (by decide +kernel) rfl ?_
      refine r_aload_n X dX11_look_96 rfl ?_
      refine a_get (a := 0) X hn fg_X11_12 dX11_look_97 rfl rfl ?_
      refine a_get (a := 1) X hn fg_X11_67 dX11_look_100 rfl rfl ?_
      refine a_get (a := 2) X hn fg_X11_99 dX11_look_103 rfl rfl ?_
      exact r_ret_i X hr hlk dX11_look_106 (Nat.le_of_ble_eq_true rfl) (Nat.le_of_ble_eq_true rfl) ⟨_, rfl, by unfold sp_look; (repeat' split) <;> first | rfl | (exfalso; have e0 : (-1 : Int32).toInt = -1 := (by decide); have e1 : (0 : Int32).toInt = 0 := (by decide); have e2 : (13 : Int32).toInt = 13 := (by decide); simp only [inR, Int32.lt_iff_toInt_lt, Int32.le_iff_toInt_le, ← Int32.toInt_inj, true_or, or_true, not_true_eq_false, and_true, true_and, false_or, or_false, false_and, and_false, not_false_eq_true] at * <;> omega), kp_of hn rfl rfl⟩
    · obtain rfl : a = 1 := q1e.trans (by decide +kernel)
      refine r_iload_n X dX11_look_0 rfl ?_
      refine r_bipush (v := 9) X dX11_look_1 (by decide +kernel) ?_
      refine r_icmp_lt_t (tgt := 24) X dX11_look_3 rfl (by decide +kernel) ?_
      refine r_iload_n X dX11_look_24 rfl ?_
      refine r_tabIn (off := 82) (tgt := 107) X dX11_look_25 (by decide +kernel) (by decide +kernel) (by decide +kernel) rfl ?_
      refine r_aload_n X dX11_look_107 rfl ?_
      refine a_get (a := 0) X hn fg_X11_12 dX11_look_108 rfl rfl ?_
      refine a_get (a := 1) X hn fg_X11_67 dX11_look_111 rfl rfl ?_
      refine r_V0i X kv_X11_204 dX11_look_114 (apG (k := 2) hn rfl) rfl (kx94_X0_countMarks l G _ _ hn _) rfl (fun x h' hΨ => ?_)
      obtain ⟨rfl, rfl⟩ := hΨ
      exact r_ret_i X hr hlk dX11_look_117 (Nat.le_of_ble_eq_true rfl) (Nat.le_of_ble_eq_true rfl) ⟨_, rfl, by unfold sp_look; (repeat' split) <;> first | rfl | (exfalso; have e0 : (-1 : Int32).toInt = -1 := (by decide); have e1 : (0 : Int32).toInt = 0 := (by decide); have e2 : (1 : Int32).toInt = 1 := (by decide); have e3 : (13 : Int32).toInt = 13 := (by decide); simp only [inR, Int32.lt_iff_toInt_lt, Int32.le_iff_toInt_le, ← Int32.toInt_inj, true_or, or_true, not_true_eq_false, and_true, true_and, false_or, or_false, false_and, and_false, not_false_eq_true] at * <;> omega), kp_of hn rfl rfl⟩
    · obtain rfl : a = 2 := q1e.trans (by decide +kernel)
      refine r_iload_n X dX11_look_0 rfl ?_
      refine r_bipush (v := 9) X dX11_look_1 (by decide +kernel) ?_
      refine r_icmp_lt_t (tgt := 24) X dX11_look_3 rfl (by decide +kernel) ?_
      refine r_iload_n X dX11_look_24 rfl ?_
      refine r_tabIn (off := 93) (tgt := 118) X dX11_look_25 (by decide +kernel) (by decide +kernel) (by decide +kernel) rfl ?_
      refine r_aload_n X dX11_look_118 rfl ?_
      refine a_get (a := 0) X hn fg_X11_12 dX11_look_119 rfl rfl ?_
      refine a_get (a := 1) X hn fg_X11_67 dX11_look_122 rfl rfl ?_
      refine a_get (a := 2) X hn fg_X11_106 dX11_look_125 rfl rfl ?_
      exact r_ret_i X hr hlk dX11_look_128 (Nat.le_of_ble_eq_true rfl) (Nat.le_of_ble_eq_true rfl) ⟨_, rfl, by unfold sp_look; (repeat' split) <;> first | rfl | (exfalso; have e0 : (-1 : Int32).toInt = -1 := (by decide); have e1 : (0 : Int32).toInt = 0 := (by decide); have e2 : (13 : Int32).toInt = 13 := (by decide); have e3 : (2 : Int32).toInt = 2 := (by decide); simp only [inR, Int32.lt_iff_toInt_lt, Int32.le_iff_toInt_le, ← Int32.toInt_inj, true_or, or_true, not_true_eq_false, and_true, true_and, false_or, or_false, false_and, and_false, not_false_eq_true] at * <;> omega), kp_of hn rfl rfl⟩
    · obtain rfl : a = 3 := q1e.trans (by decide +kernel)
      refine r_iload_n X dX11_look_0 rfl ?_
      refine r_bipush (v := 9) X dX11_look_1 (by decide +kernel) ?_
      refine r_icmp_lt_t (tgt := 24) X dX11_look_3 rfl (by decide +kernel) ?_
      refine r_iload_n X dX11_look_24 rfl ?_
      refine r_tabIn (off := 104) (tgt := 129) X dX11_look_25 (by decide +kernel) (by decide +kernel) (by decide +kernel) rfl ?_
      refine r_aload_n X dX11_look_129 rfl ?_
      refine a_get (a := 0) X hn fg_X11_12 dX11_look_130 rfl rfl ?_
      refine a_get (a := 1) X hn fg_X11_67 dX11_look_133 rfl rfl ?_
      refine a_get (a := 2) X hn fg_X11_140 dX11_look_136 rfl rfl ?_
      exact r_ret_i X hr hlk dX11_look_139 (Nat.le_of_ble_eq_true rfl) (Nat.le_of_ble_eq_true rfl) ⟨_, rfl, by unfold sp_look; (repeat' split) <;> first | rfl | (exfalso; have e0 : (-1 : Int32).toInt = -1 := (by decide); have e1 : (0 : Int32).toInt = 0 := (by decide); have e2 : (13 : Int32).toInt = 13 := (by decide); have e3 : (3 : Int32).toInt = 3 := (by decide); simp only [inR, Int32.lt_iff_toInt_lt, Int32.le_iff_toInt_le, ← Int32.toInt_inj, true_or, or_true, not_true_eq_false, and_true, true_and, false_or, or_false, false_and, and_false, not_false_eq_true] at * <;> omega), kp_of hn rfl rfl⟩
    · obtain rfl : a = 4 := q1e.trans (by decide +kernel)
      refine r_iload_n X dX11_look_0 rfl ?_
      refine r_bipush (v := 9) X dX11_look_1 (by decide +kernel) ?_
      refine r_icmp_lt_t (tgt := 24) X dX11_look_3 rfl (by decide +kernel) ?_
      refine r_iload_n X dX11_look_24 rfl ?_
      refine r_tabIn (off := 115) (tgt := 140) X dX11_look_25 (by decide +kernel) (by decide +kernel) (by decide +kernel) rfl ?_
      refine r_aload_n X dX11_look_140 rfl ?_
      refine a_get (a := 0) X hn fg_X11_12 dX11_look_141 rfl rfl ?_
      refine a_get (a := 1) X hn fg_X11_67 dX11_look_144 rfl rfl ?_
      refine a_get (a := 2) X hn fg_X11_137 dX11_look_147 rfl rfl ?_
      exact r_ret_i X hr hlk dX11_look_150 (Nat.le_of_ble_eq_true rfl) (Nat.le_of_ble_eq_true rfl) ⟨_, rfl, by unfold sp_look; (repeat' split) <;> first | rfl | (exfalso; have e0 : (-1 : Int32).toInt = -1 := (by decide); have e1 : (0 : Int32).toInt = 0 := (by decide); have e2 : (13 : Int32).toInt = 13 := (by decide); have e3 : (4 : Int32).toInt = 4 := (by decide); simp only [inR, Int32.lt_iff_toInt_lt, Int32.le_iff_toInt_le, ← Int32.toInt_inj, true_or, or_true, not_true_eq_false, and_true, true_and, false_or, or_false, false_and, and_false, not_false_eq_true] at * <;> omega), kp_of hn rfl rfl⟩
    · obtain rfl : a = 5 := q1e.trans (by decide +kernel)
      refine r_iload_n X dX11_look_0 rfl ?_
      refine r_bipush (v := 9) X dX11_look_1 (by decide +kernel) ?_
      refine r_icmp_lt_t (tgt := 24) X dX11_look_3 rfl (by decide +kernel) ?_
      refine r_iload_n X dX11_look_24 rfl ?_
      refine r_tabIn (off := 126) (tgt := 151) X dX11_look_25 (by decide +kernel) (by decide +kernel) (by decide +kernel) rfl ?_
      refine r_aload_n X dX11_look_151 rfl ?_
      refine a_get (a := 0) X hn fg_X11_12 dX11_look_152 rfl rfl ?_
      refine a_get (a := 1) X hn fg_X11_67 dX11_look_155 rfl rfl ?_
      refine a_get (a := 2) X hn fg_X11_201 dX11_look_158 rfl rfl ?_
      exact r_ret_i X hr hlk dX11_look_161 (Nat.le_of_ble_eq_true rfl) (Nat.le_of_ble_eq_true rfl) ⟨_, rfl, by unfold sp_look; (repeat' split) <;> first | rfl | (exfalso; have e0 : (-1 : Int32).toInt = -1 := (by decide); have e1 : (0 : Int32).toInt = 0 := (by decide); have e2 : (13 : Int32).toInt = 13 := (by decide); have e3 : (5 : Int32).toInt = 5 := (by decide); simp only [inR, Int32.lt_iff_toInt_lt, Int32.le_iff_toInt_le, ← Int32.toInt_inj, true_or, or_true, not_true_eq_false, and_true, true_and, false_or, or_false, false_and, and_false, not_false_eq_true] at * <;> omega), kp_of hn rfl rfl⟩
    · obtain rfl : a = 6 := q1e.trans (by decide +kernel)
      refine r_iload_n X dX11_look_0 rfl ?_
      refine r_bipush (v := 9) X dX11_look_1 (by decide +kernel) ?_
      refine r_icmp_lt_t (tgt := 24) X dX11_look_3 rfl (by decide +kernel) ?_
      refine r_iload_n X dX11_look_24 rfl ?_
      refine r_tabIn (off := 137) (tgt := 162) X dX11_look_25 (by decide +kernel) (by decide +kernel) (by decide +kernel) rfl ?_
      refine r_aload_n X dX11_look_162 rfl ?_
      refine a_get (a := 0) X hn fg_X11_12 dX11_look_163 rfl rfl ?_
      refine a_get (a := 1) X hn fg_X11_67 dX11_look_166 rfl rfl ?_
      refine a_get (a := 2) X hn fg_X11_315 dX11_look_169 rfl rfl ?_
      exact r_ret_i X hr hlk dX11_look_172 (Nat.le_of_ble_eq_true rfl) (Nat.le_of_ble_eq_true rfl) ⟨_, rfl, by unfold sp_look; (repeat' split) <;> first | rfl | (exfalso; have e0 : (-1 : Int32).toInt = -1 := (by decide); have e1 : (0 : Int32).toInt = 0 := (by decide); have e2 : (13 : Int32).toInt = 13 := (by decide); have e3 : (6 : Int32).toInt = 6 := (by decide); simp only [inR, Int32.lt_iff_toInt_lt, Int32.le_iff_toInt_le, ← Int32.toInt_inj, true_or, or_true, not_true_eq_false, and_true, true_and, false_or, or_false, false_and, and_false, not_false_eq_true] at * <;> omega), kp_of hn rfl rfl⟩
    · obtain rfl : a = 7 := q1e.trans (by decide +kernel)
      refine r_iload_n X dX11_look_0 rfl ?_
      refine r_bipush (v := 9) X dX11_look_1 (by decide +kernel) ?_
      refine r_icmp_lt_t (tgt := 24) X dX11_look_3 rfl (by decide +kernel) ?_
      refine r_iload_n X dX11_look_24 rfl ?_
      refine r_tabIn (off := 148) (tgt := 173) X dX11_look_25 (by decide +kernel) (by decide +kernel) (by decide +kernel) rfl ?_
      refine r_aload_n X dX11_look_173 rfl ?_
      refine a_get (a := 0) X hn fg_X11_12 dX11_look_174 rfl rfl ?_
      refine a_get (a := 1) X hn fg_X11_67 dX11_look_177 rfl rfl ?_
      refine a_get (a := 2) X hn fg_X11_191 dX11_look_180 rfl rfl ?_
      exact r_ret_i X hr hlk dX11_look_183 (Nat.le_of_ble_eq_true rfl) (Nat.le_of_ble_eq_true rfl) ⟨_, rfl, by unfold sp_look; (repeat' split) <;> first | rfl | (exfalso; have e0 : (-1 : Int32).toInt = -1 := (by decide); have e1 : (0 : Int32).toInt = 0 := (by decide); have e2 : (13 : Int32).toInt = 13 := (by decide); have e3 : (7 : Int32).toInt = 7 := (by decide); simp only [inR, Int32.lt_iff_toInt_lt, Int32.le_iff_toInt_le, ← Int32.toInt_inj, true_or, or_true, not_true_eq_false, and_true, true_and, false_or, or_false, false_and, and_false, not_false_eq_true] at * <;> omega), kp_of hn rfl rfl⟩
    · obtain rfl : a = 8 := q1e.trans (by decide +kernel)
      refine r_iload_n X dX11_look_0 rfl ?_
      refine r_bipush (v := 9) X dX11_look_1 (by decide +kernel) ?_
      refine r_icmp_lt_t (tgt := 24) X dX11_look_3 rfl (by decide +kernel) ?_
      refine r_iload_n X dX11_look_24 rfl ?_
      refine r_tabIn (off := 159) (tgt := 184) X dX11_look_25 (by decide +kernel) (by decide +kernel) (by decide +kernel) rfl ?_
      refine r_aload_n X dX11_look_184 rfl ?_
      refine a_get (a := 0) X hn fg_X11_12 dX11_look_185 rfl rfl ?_
      refine a_get (a := 1) X hn fg_X11_67 dX11_look_188 rfl rfl ?_
      refine a_get (a := 2) X hn fg_X11_88 dX11_look_191 rfl rfl ?_
      exact r_ret_i X hr hlk dX11_look_194 (Nat.le_of_ble_eq_true rfl) (Nat.le_of_ble_eq_true rfl) ⟨_, rfl, by unfold sp_look; (repeat' split) <;> first | rfl | (exfalso; have e0 : (-1 : Int32).toInt = -1 := (by decide); have e1 : (0 : Int32).toInt = 0 := (by decide); have e2 : (13 : Int32).toInt = 13 := (by decide); have e3 : (8 : Int32).toInt = 8 := (by decide); simp only [inR, Int32.lt_iff_toInt_lt, Int32.le_iff_toInt_le, ← Int32.toInt_inj, true_or, or_true, not_true_eq_false, and_true, true_and, false_or, or_false, false_and, and_false, not_false_eq_true] at * <;> omega), kp_of hn rfl rfl⟩
    · obtain rfl : a = 9 := q1e.trans (by decide +kernel)
      refine r_iload_n X dX11_look_0 rfl ?_
      refine r_bipush (v := 9) X dX11_look_1 (by decide +kernel) ?_
      refine r_icmp_lt_f (tgt := 24) X dX11_look_3 rfl (by decide +kernel) ?_
      refine r_iload_n X dX11_look_6 rfl ?_
      refine r_bipush (v := 12) X dX11_look_7 (by decide +kernel) ?_
      refine r_icmp_gt_f (tgt := 24) X dX11_look_9 rfl (by decide +kernel) ?_
      refine r_aload_n X dX11_look_12 rfl ?_
      refine a_get (a := 0) X hn fg_X11_12 dX11_look_13 rfl rfl ?_
      refine r_iload_n X dX11_look_16 rfl ?_
      refine r_bipush (v := 9) X dX11_look_17 (by decide +kernel) ?_
      refine r_isubE (v := 0) X dX11_look_19 (by decide +kernel) ?_
      refine r_V1i X kv_X11_312 dX11_look_20 (apG (k := 1) hn rfl) rfl (kx95_X10_linesOf l G _ _ hn _) rfl (fun x h' hΨ => ?_)
      obtain ⟨rfl, rfl⟩ := hΨ
      exact r_ret_i X hr hlk dX11_look_23 (Nat.le_of_ble_eq_true rfl) (Nat.le_of_ble_eq_true rfl) ⟨_, rfl, by unfold sp_look; (repeat' split) <;> first | rfl | (exfalso; have e0 : (-1 : Int32).toInt = -1 := (by decide); have e1 : (0 : Int32).toInt = 0 := (by decide); have e2 : (13 : Int32).toInt = 13 := (by decide); have e3 : (9 : Int32).toInt = 9 := (by decide); simp only [inR, Int32.lt_iff_toInt_lt, Int32.le_iff_toInt_le, ← Int32.toInt_inj, true_or, or_true, not_true_eq_false, and_true, true_and, false_or, or_false, false_and, and_false, not_false_eq_true] at * <;> omega), kp_of hn rfl rfl⟩
    · obtain rfl : a = 10 := q1e.trans (by decide +kernel)
      refine r_iload_n X dX11_look_0 rfl ?_
      refine r_bipush (v := 9) X dX11_look_1 (by decide +kernel) ?_
      refine r_icmp_lt_f (tgt := 24) X dX11_look_3 rfl (by decide +kernel) ?_
      refine r_iload_n X dX11_look_6 rfl ?_
      refine r_bipush (v := 12) X dX11_look_7 (by decide +kernel) ?_
      refine r_icmp_gt_f (tgt := 24) X dX11_look_9 rfl (by decide +kernel) ?_
      refine r_aload_n X dX11_look_12 rfl ?_
      refine a_get (a := 0) X hn fg_X11_12 dX11_look_13 rfl rfl ?_
      refine r_iload_n X dX11_look_16 rfl ?_
      refine r_bipush (v := 9) X dX11_look_17 (by decide +kernel) ?_
      refine r_isubE (v := 1) X dX11_look_19 (by decide +kernel) ?_
      refine r_V1i X kv_X11_312 dX11_look_20 (apG (k := 1) hn rfl) rfl (kx96_X10_linesOf l G _ _ hn _) rfl (fun x h' hΨ => ?_)
      obtain ⟨rfl, rfl⟩ := hΨ
      exact r_ret_i X hr hlk dX11_look_23 (Nat.le_of_ble_eq_true rfl) (Nat.le_of_ble_eq_true rfl) ⟨_, rfl, by unfold sp_look; (repeat' split) <;> first | rfl | (exfalso; have e0 : (-1 : Int32).toInt = -1 := (by decide); have e1 : (0 : Int32).toInt = 0 := (by decide); have e2 : (10 : Int32).toInt = 10 := (by decide); have e3 : (13 : Int32).toInt = 13 := (by decide); simp only [inR, Int32.lt_iff_toInt_lt, Int32.le_iff_toInt_le, ← Int32.toInt_inj, true_or, or_true, not_true_eq_false, and_true, true_and, false_or, or_false, false_and, and_false, not_false_eq_true] at * <;> omega), kp_of hn rfl rfl⟩
    · obtain rfl : a = 11 := q1e.trans (by decide +kernel)
      refine r_iload_n X dX11_look_0 rfl ?_
      refine r_bipush (v := 9) X dX11_look_1 (by decide +kernel) ?_
      refine r_icmp_lt_f (tgt := 24) X dX11_look_3 rfl (by decide +kernel) ?_
      refine r_iload_n X dX11_look_6 rfl ?_
      refine r_bipush (v := 12) X dX11_look_7 (by decide +kernel) ?_
      refine r_icmp_gt_f (tgt := 24) X dX11_look_9 rfl (by decide +kernel) ?_
      refine r_aload_n X dX11_look_12 rfl ?_
      refine a_get (a := 0) X hn fg_X11_12 dX11_look_13 rfl rfl ?_
      refine r_iload_n X dX11_look_16 rfl ?_
      refine r_bipush (v := 9) X dX11_look_17 (by decide +kernel) ?_
      refine r_isubE (v := 2) X dX11_look_19 (by decide +kernel) ?_
      refine r_V1i X kv_X11_312 dX11_look_20 (apG (k := 1) hn rfl) rfl (kx97_X10_linesOf l G _ _ hn _) rfl (fun x h' hΨ => ?_)
      obtain ⟨rfl, rfl⟩ := hΨ
      exact r_ret_i X hr hlk dX11_look_23 (Nat.le_of_ble_eq_true rfl) (Nat.le_of_ble_eq_true rfl) ⟨_, rfl, by unfold sp_look; (repeat' split) <;> first | rfl | (exfalso; have e0 : (-1 : Int32).toInt = -1 := (by decide); have e1 : (0 : Int32).toInt = 0 := (by decide); have e2 : (11 : Int32).toInt = 11 := (by decide); have e3 : (13 : Int32).toInt = 13 := (by decide); simp only [inR, Int32.lt_iff_toInt_lt, Int32.le_iff_toInt_le, ← Int32.toInt_inj, true_or, or_true, not_true_eq_false, and_true, true_and, false_or, or_false, false_and, and_false, not_false_eq_true] at * <;> omega), kp_of hn rfl rfl⟩
    · obtain rfl : a = 12 := q1e.trans (by decide +kernel)
      refine r_iload_n X dX11_look_0 rfl ?_
      refine r_bipush (v := 9) X dX11_look_1 (by decide +kernel) ?_
      refine r_icmp_lt_f (tgt := 24) X dX11_look_3 rfl (by decide +kernel) ?_
      refine r_iload_n X dX11_look_6 rfl ?_
      refine r_bipush (v := 12) X dX11_look_7 (by decide +kernel) ?_
      refine r_icmp_gt_f (tgt := 24) X dX11_look_9 rfl (by decide +kernel) ?_
      refine r_aload_n X dX11_look_12 rfl ?_
      refine a_get (a := 0) X hn fg_X11_12 dX11_look_13 rfl rfl ?_
      refine r_iload_n X dX11_look_16 rfl ?_
      refine r_bipush (v := 9) X dX11_look_17 (by decide +kernel) ?_
      refine r_isubE (v := 3) X dX11_look_19 (by decide +kernel) ?_
      refine r_V1i X kv_X11_312 dX11_look_20 (apG (k := 1) hn rfl) rfl (kx98_X10_linesOf l G _ _ hn _) rfl (fun x h' hΨ => ?_)
      obtain ⟨rfl, rfl⟩ := hΨ
      exact r_ret_i X hr hlk dX11_look_23 (Nat.le_of_ble_eq_true rfl) (Nat.le_of_ble_eq_true rfl) ⟨_, rfl, by unfold sp_look; (repeat' split) <;> first | rfl | (exfalso; have e0 : (-1 : Int32).toInt = -1 := (by decide); have e1 : (0 : Int32).toInt = 0 := (by decide); have e2 : (12 : Int32).toInt = 12 := (by decide); have e3 : (13 : Int32).toInt = 13 := (by decide); simp only [inR, Int32.lt_iff_toInt_lt, Int32.le_iff_toInt_le, ← Int32.toInt_inj, true_or, or_true, not_true_eq_false, and_true, true_and, false_or, or_false, false_and, and_false, not_false_eq_true] at * <;> omega), kp_of hn rfl rfl⟩
    · obtain rfl : a = 13 := q1e.trans (by decide +kernel)
      refine r_iload_n X dX11_look_0 rfl ?_
      refine r_bipush (v := 9) X dX11_look_1 (by decide +kernel) ?_
      refine r_icmp_lt_f (tgt := 24) X dX11_look_3 rfl (by decide +kernel) ?_
      refine r_iload_n X dX11_look_6 rfl ?_
      refine r_bipush (v := 12) X dX11_look_7 (by decide +kernel) ?_
      refine r_icmp_gt_t (tgt := 24) X dX11_look_9 rfl (by decide +kernel) ?_
      refine r_iload_n X dX11_look_24 rfl ?_
      refine r_tabIn (off := 170) (tgt := 195) X dX11_look_25 (by decide +kernel) (by decide +kernel) (by decide +kernel) rfl ?_
      refine r_aload_n X dX11_look_195 rfl ?_
      refine a_get (a := 0) X hn fg_X11_26 dX11_look_196 rfl rfl ?_
      refine a_get (a := 59) X hn fg_X11_318 dX11_look_199 rfl rfl ?_
      exact r_ret_i X hr hlk dX11_look_202 (Nat.le_of_ble_eq_true rfl) (Nat.le_of_ble_eq_true rfl) ⟨_, rfl, by unfold sp_look; (repeat' split) <;> first | rfl | (exfalso; have e0 : (-1 : Int32).toInt = -1 := (by decide); have e1 : (0 : Int32).toInt = 0 := (by decide); have e2 : (13 : Int32).toInt = 13 := (by decide); simp only [inR, Int32.lt_iff_toInt_lt, Int32.le_iff_toInt_le, ← Int32.toInt_inj, true_or, or_true, not_true_eq_false, and_true, true_and, false_or, or_false, false_and, and_false, not_false_eq_true] at * <;> omega), kp_of hn rfl rfl⟩
