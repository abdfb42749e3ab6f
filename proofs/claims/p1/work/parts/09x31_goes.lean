set_option maxRecDepth 100000 in
set_option maxHeartbeats 4000000 in
theorem kx267_X0_takeOver (l : Launch) (G : PG) (h0 : PH) (n : Nat) (hn : h0.length = n) (T : PH) : PMet l G yX0_takeOver cX0_takeOver 2 none 1 0 0 [vR (n + 83), vR (n + 2)] (h0 ++ (frC n ++ T)) (qV (fun h' => h' = h0 ++ (frC n ++ T))) := by
  refine PMet.intro (by decide) (Nat.le_of_ble_eq_true rfl) ?_
  intro p e s m args below meth c X hr hlk hnm
  refine r_aload_n X dX0_takeOver_0 rfl ?_
  refine a_get (a := 2) X hn fg_X0_9 dX0_takeOver_1 rfl rfl ?_
  refine r_iconst (v := 0) X dX0_takeOver_4 (by decide +kernel) ?_
  refine r_aload_n X dX0_takeOver_5 rfl ?_
  refine a_get (a := 83) X hn fg_X0_9 dX0_takeOver_6 rfl rfl ?_
  refine r_iconst (v := 0) X dX0_takeOver_9 (by decide +kernel) ?_
  refine r_bipush (v := 120) X dX0_takeOver_10 (by decide +kernel) ?_
  refine a_copy (a0 := 3) (a := 84) (f' := fun _ => 0) X hn lc_X0_43 dX0_takeOver_12 rfl rfl (by decide +kernel) (by decide +kernel) (by decide +kernel) (by decide +kernel) (by decide +kernel) rfl rfl (cpy_c _ _ _ _) ?_
  refine r_eq (h' := h0 ++ (frC n ++ T)) rfl rfl rfl ?_
  refine r_aload_n X dX0_takeOver_15 rfl ?_
  refine a_get (a := 2) X hn fg_X0_15 dX0_takeOver_16 rfl rfl ?_
  refine r_iconst (v := 0) X dX0_takeOver_19 (by decide +kernel) ?_
  refine r_aload_n X dX0_takeOver_20 rfl ?_
  refine a_get (a := 83) X hn fg_X0_15 dX0_takeOver_21 rfl rfl ?_
  refine r_iconst (v := 0) X dX0_takeOver_24 (by decide +kernel) ?_
  refine r_sipush (v := 144) X dX0_takeOver_25 (by decide +kernel) ?_
  refine a_copy (a0 := 4) (a := 85) (f' := fun _ => 0) X hn lc_X0_43 dX0_takeOver_28 rfl rfl (by decide +kernel) (by decide +kernel) (by decide +kernel) (by decide +kernel) (by decide +kernel) rfl rfl (cpy_c _ _ _ _) ?_
  refine r_eq (h' := h0 ++ (frC n ++ T)) rfl rfl rfl ?_
  refine r_aload_n X dX0_takeOver_31 rfl ?_
  refine r_aload_n X dX0_takeOver_32 rfl ?_
  refine a_get (a := 2) X hn fg_X0_18 dX0_takeOver_33 rfl rfl ?_
  refine a_put (a := 83) X hn fp_X0_18 dX0_takeOver_36 rfl rfl rfl rfl ?_
  refine r_eq (h' := h0 ++ (frC n ++ T)) rfl rfl rfl ?_
  refine r_aload_n X dX0_takeOver_39 rfl ?_
  refine r_aload_n X dX0_takeOver_40 rfl ?_
  refine a_get (a := 2) X hn fg_X0_22 dX0_takeOver_41 rfl rfl ?_
  refine a_put (a := 83) X hn fp_X0_22 dX0_takeOver_44 rfl rfl rfl rfl ?_
  refine r_eq (h' := h0 ++ (frC n ++ T)) rfl rfl rfl ?_
  refine r_aload_n X dX0_takeOver_47 rfl ?_
  refine r_aload_n X dX0_takeOver_48 rfl ?_
  refine a_get (a := 2) X hn fg_X0_25 dX0_takeOver_49 rfl rfl ?_
  refine a_put (a := 83) X hn fp_X0_25 dX0_takeOver_52 rfl rfl rfl rfl ?_
  refine r_eq (h' := h0 ++ (frC n ++ T)) rfl rfl rfl ?_
  refine r_aload_n X dX0_takeOver_55 rfl ?_
  refine r_aload_n X dX0_takeOver_56 rfl ?_
  refine a_get (a := 2) X hn fg_X0_28 dX0_takeOver_57 rfl rfl ?_
  refine a_put (a := 83) X hn fp_X0_28 dX0_takeOver_60 rfl rfl rfl rfl ?_
  refine r_eq (h' := h0 ++ (frC n ++ T)) rfl rfl rfl ?_
  refine r_aload_n X dX0_takeOver_63 rfl ?_
  refine r_aload_n X dX0_takeOver_64 rfl ?_
  refine a_get (a := 2) X hn fg_X0_31 dX0_takeOver_65 rfl rfl ?_
  refine a_put (a := 83) X hn fp_X0_31 dX0_takeOver_68 rfl rfl rfl rfl ?_
  refine r_eq (h' := h0 ++ (frC n ++ T)) rfl rfl rfl ?_
  refine r_aload_n X dX0_takeOver_71 rfl ?_
  refine r_aload_n X dX0_takeOver_72 rfl ?_
  refine a_get (a := 2) X hn fg_X0_34 dX0_takeOver_73 rfl rfl ?_
  refine a_put (a := 83) X hn fp_X0_34 dX0_takeOver_76 rfl rfl rfl rfl ?_
  refine r_eq (h' := h0 ++ (frC n ++ T)) rfl rfl rfl ?_
  refine r_aload_n X dX0_takeOver_79 rfl ?_
  refine r_aload_n X dX0_takeOver_80 rfl ?_
  refine a_get (a := 2) X hn fg_X0_37 dX0_takeOver_81 rfl rfl ?_
  refine a_put (a := 83) X hn fp_X0_37 dX0_takeOver_84 rfl rfl rfl rfl ?_
  refine r_eq (h' := h0 ++ (frC n ++ T)) rfl rfl rfl ?_
  refine r_aload_n X dX0_takeOver_87 rfl ?_
  refine r_aload_n X dX0_takeOver_88 rfl ?_
  refine a_get (a := 2) X hn fg_X0_40 dX0_takeOver_89 rfl rfl ?_
  refine a_put (a := 83) X hn fp_X0_40 dX0_takeOver_92 rfl rfl rfl rfl ?_
  refine r_eq (h' := h0 ++ (frC n ++ T)) rfl rfl rfl ?_
  exact r_ret_v X hr hlk dX0_takeOver_95 (Nat.le_of_ble_eq_true rfl) (Nat.le_of_ble_eq_true rfl) ⟨rfl, rfl⟩
set_option maxRecDepth 100000 in
set_option maxHeartbeats 4000000 in
theorem kx268_X0_cameOfAll (l : Launch) (G : PG) (h0 : PH) (n : Nat) (hn : h0.length = n) (T : PH) (va83_4 va83_5 va83_7 : Int32) : PMet l G yX0_cameOfAll cX0_cameOfAll 3 (some .int) 0 0 0 [vR (n + 83)] (h0 ++ ((frC n ++ T).set 83 (eO 0 [vR (n + 84), vR (n + 85), vI 0, vI 0, vI va83_4, vI va83_5, vI 0, vI va83_7, vI 0, vI 0]))) (qI (fun x h' => x = 0 ∧ h' = h0 ++ ((frC n ++ T).set 83 (eO 0 [vR (n + 84), vR (n + 85), vI 0, vI 0, vI va83_4, vI va83_5, vI 0, vI va83_7, vI 0, vI 0])))) := by
  refine PMet.intro (by decide) (Nat.le_of_ble_eq_true rfl) ?_
  intro p e s m args below meth c X hr hlk hnm
  refine r_iconst (v := 0) X dX0_cameOfAll_0 (by decide +kernel) ?_
  refine r_istore_n X dX0_cameOfAll_1 (by decide) ?_
  refine r_iconst (v := 0) X dX0_cameOfAll_2 (by decide +kernel) ?_
  refine r_istore_n X dX0_cameOfAll_3 (by decide) ?_
  refine r_iload_n X dX0_cameOfAll_4 rfl ?_
  refine r_aload_n X dX0_cameOfAll_5 rfl ?_
  refine a_get (a := 83) X hn fg_X0_18 dX0_cameOfAll_6 rfl rfl ?_
  refine r_icmp_ge_t (tgt := 27) X dX0_cameOfAll_9 rfl (by decide +kernel) ?_
  refine r_iload_n X dX0_cameOfAll_27 rfl ?_
  exact r_ret_i X hr hlk dX0_cameOfAll_28 (Nat.le_of_ble_eq_true rfl) (Nat.le_of_ble_eq_true rfl) ⟨_, rfl, ⟨rfl, rfl⟩⟩
set_option maxRecDepth 100000 in
set_option maxHeartbeats 4000000 in
theorem kx269_X0_countMarks (l : Launch) (G : PG) (h0 : PH) (n : Nat) (hn : h0.length = n) (T : PH) (va83_4 va83_5 va83_7 : Int32) : PMet l G yX0_countMarks cX0_countMarks 3 (some .int) 0 0 0 [vR (n + 83)] (h0 ++ ((frC n ++ T).set 83 (eO 0 [vR (n + 84), vR (n + 85), vI 0, vI 0, vI va83_4, vI va83_5, vI 0, vI va83_7, vI 0, vI 0]))) (qI (fun x h' => x = 0 ∧ h' = h0 ++ ((frC n ++ T).set 83 (eO 0 [vR (n + 84), vR (n + 85), vI 0, vI 0, vI va83_4, vI va83_5, vI 0, vI va83_7, vI 0, vI 0])))) := by
  refine PMet.intro (by decide) (Nat.le_of_ble_eq_true rfl) ?_
  intro p e s m args below meth c X hr hlk hnm
  refine r_iconst (v := 0) X dX0_countMarks_0 (by decide +kernel) ?_
  refine r_istore_n X dX0_countMarks_1 (by decide) ?_
  refine r_iconst (v := 0) X dX0_countMarks_2 (by decide +kernel) ?_
  refine r_istore_n X dX0_countMarks_3 (by decide) ?_
  refine r_eq (h' := h0 ++ ((frC n ++ T).set 83 (eO 0 [vR (n + 84), vR (n + 85), vI 0, vI 0, vI va83_4, vI va83_5, vI 0, vI va83_7, vI 0, vI 0]))) (ls' := [some (vR (n + 83)), some (vI 0), some (vI (nI 0))]) rfl rfl rfl ?_
  refine pw_loop1 144 (fun i0 => h0 ++ ((frC n ++ T).set 83 (eO 0 [vR (n + 84), vR (n + 85), vI 0, vI 0, vI va83_4, vI va83_5, vI 0, vI va83_7, vI 0, vI 0]))) (fun i0 => [some (vR (n + 83)), some (vI 0), some (vI (nI i0))]) ?_ ?_ 0 (by omega)
  · refine r_eq (h' := h0 ++ ((frC n ++ T).set 83 (eO 0 [vR (n + 84), vR (n + 85), vI 0, vI 0, vI va83_4, vI va83_5, vI 0, vI va83_7, vI 0, vI 0]))) (ls' := [some (vR (n + 83)), some (vI 0), some (vI (nI 144))]) rfl rfl rfl ?_
    refine r_iload_n X dX0_countMarks_4 rfl ?_
    refine r_sipush (v := 144) X dX0_countMarks_5 (by decide +kernel) ?_
    refine r_icmp_ge_t (tgt := 34) X dX0_countMarks_8 rfl (by decide +kernel) ?_
    refine r_iload_n X dX0_countMarks_34 rfl ?_
    exact r_ret_i X hr hlk dX0_countMarks_35 (Nat.le_of_ble_eq_true rfl) (Nat.le_of_ble_eq_true rfl) ⟨_, rfl, ⟨rfl, rfl⟩⟩
  · rintro i0 hi0 ih0 
    refine r_eq (h' := h0 ++ ((frC n ++ T).set 83 (eO 0 [vR (n + 84), vR (n + 85), vI 0, vI 0, vI va83_4, vI va83_5, vI 0, vI va83_7, vI 0, vI 0]))) (ls' := [some (vR (n + 83)), some (vI 0), some (vI (nI i0))]) rfl rfl rfl ?_
    refine r_iload_n X dX0_countMarks_4 rfl ?_
    refine r_sipush (v := 144) X dX0_countMarks_5 (by decide +kernel) ?_
    refine r_icmp_ge_f (tgt := 34) X dX0_countMarks_8 rfl (by have e0 : (144 : Int32).toInt = 144 := (by decide); have e1 : (nI i0).toInt = ((i0 : Nat) : Int) := toN (rfl) (by omega); simp only [Int32.lt_iff_toInt_lt, Int32.le_iff_toInt_le, ← Int32.toInt_inj] at  ⊢; omega) ?_
    refine r_iload_n X dX0_countMarks_11 rfl ?_
    refine r_aload_n X dX0_countMarks_12 rfl ?_
    refine a_get (a := 83) X hn fg_X0_15 dX0_countMarks_13 rfl rfl ?_
    refine r_iload_n X dX0_countMarks_16 rfl ?_
    refine a_iald (a := 85) (v := 0) X hn dX0_countMarks_17 rfl (vin (k := i0) (rfl) (by omega) (by decide)) rfl ?_
    refine r_if_ne_f (tgt := 25) X dX0_countMarks_18 rfl (by decide +kernel) ?_
    refine r_iconst (v := 0) X dX0_countMarks_21 (by decide +kernel) ?_
    refine r_goto (tgt := 26) X dX0_countMarks_22 rfl ?_
    refine r_iaddE (v := 0) X dX0_countMarks_26 (by decide +kernel) ?_
    refine r_istore_n X dX0_countMarks_27 (by decide) ?_
    refine r_iinc (v := nI (i0 + 1)) X dX0_countMarks_28 rfl (nadd (rfl) rfl) (by decide) ?_
    refine r_goto (tgt := 4) X dX0_countMarks_31 rfl ?_
    exact r_eq (h' := h0 ++ ((frC n ++ T).set 83 (eO 0 [vR (n + 84), vR (n + 85), vI 0, vI 0, vI va83_4, vI va83_5, vI 0, vI va83_7, vI 0, vI 0]))) (ls' := [some (vR (n + 83)), some (vI 0), some (vI (nI (i0 + 1)))]) (st' := []) rfl rfl rfl (ih0)
set_option maxRecDepth 100000 in
set_option maxHeartbeats 4000000 in
theorem kx270_X0_marked (l : Launch) (G : PG) (h0 : PH) (n : Nat) (hn : h0.length = n) (T : PH) (va83_4 va83_5 va83_7 : Int32) (z0 : Nat) (hz0 : z0 ≤ 143) : PMet l G yX0_marked cX0_marked 2 (some .boolean) 0 0 0 [vR (n + 83), vI (nI z0)] (h0 ++ ((frC n ++ T).set 83 (eO 0 [vR (n + 84), vR (n + 85), vI 0, vI 0, vI va83_4, vI va83_5, vI 0, vI va83_7, vI 0, vI 0]))) (qI (fun x h' => x = 0 ∧ h' = h0 ++ ((frC n ++ T).set 83 (eO 0 [vR (n + 84), vR (n + 85), vI 0, vI 0, vI va83_4, vI va83_5, vI 0, vI va83_7, vI 0, vI 0])))) := by
  refine PMet.intro (by decide) (Nat.le_of_ble_eq_true rfl) ?_
  intro p e s m args below meth c X hr hlk hnm
  refine r_iload_n X dX0_marked_0 rfl ?_
  refine r_if_lt_f (tgt := 24) X dX0_marked_1 rfl (by have e0 : (0 : Int32).toInt = 0 := (by decide); have e1 : (nI z0).toInt = ((z0 : Nat) : Int) := toN (rfl) (by omega); simp only [Int32.lt_iff_toInt_lt, Int32.le_iff_toInt_le, ← Int32.toInt_inj] at  ⊢; omega) ?_
  refine r_iload_n X dX0_marked_4 rfl ?_
  refine r_sipush (v := 144) X dX0_marked_5 (by decide +kernel) ?_
  refine r_icmp_ge_f (tgt := 24) X dX0_marked_8 rfl (by have e0 : (144 : Int32).toInt = 144 := (by decide); have e1 : (nI z0).toInt = ((z0 : Nat) : Int) := toN (rfl) (by omega); simp only [Int32.lt_iff_toInt_lt, Int32.le_iff_toInt_le, ← Int32.toInt_inj] at  ⊢; omega) ?_
  refine r_aload_n X dX0_marked_11 rfl ?_
  refine a_get (a := 83) X hn fg_X0_15 dX0_marked_12 rfl rfl ?_
  refine r_iload_n X dX0_marked_15 rfl ?_
  refine a_iald (a := 85) (v := 0) X hn dX0_marked_16 rfl (vin (k := z0) (rfl) (by omega) (by decide)) rfl ?_
  refine r_if_eq_t (tgt := 24) X dX0_marked_17 rfl (by decide +kernel) ?_
  refine r_iconst (v := 0) X dX0_marked_24 (by decide +kernel) ?_
  exact r_ret_z X hr hlk (Or.inl rfl) dX0_marked_25 (Nat.le_of_ble_eq_true rfl) (Nat.le_of_ble_eq_true rfl) ⟨_, rfl, ⟨rfl, rfl⟩⟩
set_option maxRecDepth 100000 in
set_option maxHeartbeats 4000000 in
theorem kx271_X1_sum (l : Launch) (G : PG) (h0 : PH) (n : Nat) (hn : h0.length = n) (T : PH) (va83_4 va83_5 va83_7 : Int32) : PMet l G yX1_sum cX1_sum 3 (some .int) 1 0 0 [vR (n + 99)] (h0 ++ ((frC n ++ T).set 83 (eO 0 [vR (n + 84), vR (n + 85), vI 0, vI 0, vI va83_4, vI va83_5, vI 0, vI va83_7, vI 0, vI 0]))) (qI (fun x h' => x = 0 ∧ h' = h0 ++ ((frC n ++ T).set 83 (eO 0 [vR (n + 84), vR (n + 85), vI 0, vI 0, vI va83_4, vI va83_5, vI 0, vI va83_7, vI 0, vI 0])))) := by
  refine PMet.intro (by decide) (Nat.le_of_ble_eq_true rfl) ?_
  intro p e s m args below meth c X hr hlk hnm
  refine r_iconst (v := 0) X dX1_sum_0 (by decide +kernel) ?_
  refine r_istore_n X dX1_sum_1 (by decide) ?_
  refine r_iconst (v := 0) X dX1_sum_2 (by decide +kernel) ?_
  refine r_istore_n X dX1_sum_3 (by decide) ?_
  refine r_eq (h' := h0 ++ ((frC n ++ T).set 83 (eO 0 [vR (n + 84), vR (n + 85), vI 0, vI 0, vI va83_4, vI va83_5, vI 0, vI va83_7, vI 0, vI 0]))) (ls' := [some (vR (n + 99)), some (vI 0), some (vI (nI 0))]) rfl rfl rfl ?_
  refine pw_loop1 144 (fun i0 => h0 ++ ((frC n ++ T).set 83 (eO 0 [vR (n + 84), vR (n + 85), vI 0, vI 0, vI va83_4, vI va83_5, vI 0, vI va83_7, vI 0, vI 0]))) (fun i0 => [some (vR (n + 99)), some (vI 0), some (vI (nI i0))]) ?_ ?_ 0 (by omega)
  · refine r_eq (h' := h0 ++ ((frC n ++ T).set 83 (eO 0 [vR (n + 84), vR (n + 85), vI 0, vI 0, vI va83_4, vI va83_5, vI 0, vI va83_7, vI 0, vI 0]))) (ls' := [some (vR (n + 99)), some (vI 0), some (vI (nI 144))]) rfl rfl rfl ?_
    refine r_iload_n X dX1_sum_4 rfl ?_
    refine r_sipush (v := 144) X dX1_sum_5 (by decide +kernel) ?_
    refine r_icmp_ge_t (tgt := 45) X dX1_sum_8 rfl (by decide +kernel) ?_
    refine r_iload_n X dX1_sum_45 rfl ?_
    exact r_ret_i X hr hlk dX1_sum_46 (Nat.le_of_ble_eq_true rfl) (Nat.le_of_ble_eq_true rfl) ⟨_, rfl, ⟨rfl, rfl⟩⟩
  · rintro i0 hi0 ih0 
    refine r_eq (h' := h0 ++ ((frC n ++ T).set 83 (eO 0 [vR (n + 84), vR (n + 85), vI 0, vI 0, vI va83_4, vI va83_5, vI 0, vI va83_7, vI 0, vI 0]))) (ls' := [some (vR (n + 99)), some (vI 0), some (vI (nI i0))]) rfl rfl rfl ?_
    refine r_iload_n X dX1_sum_4 rfl ?_
    refine r_sipush (v := 144) X dX1_sum_5 (by decide +kernel) ?_
    refine r_icmp_ge_f (tgt := 45) X dX1_sum_8 rfl (by have e0 : (144 : Int32).toInt = 144 := (by decide); have e1 : (nI i0).toInt = ((i0 : Nat) : Int) := toN (rfl) (by omega); simp only [Int32.lt_iff_toInt_lt, Int32.le_iff_toInt_le, ← Int32.toInt_inj] at  ⊢; omega) ?_
    refine r_aload_n X dX1_sum_11 rfl ?_
    refine a_get (a := 99) X hn fg_X1_21 dX1_sum_12 rfl rfl ?_
    refine r_iload_n X dX1_sum_15 rfl ?_
    refine r_V1i X kv_X1_83 dX1_sum_16 (apG (k := 83) hn rfl) rfl (kx270_X0_marked l G _ _ hn _ _ _ _ _ (by omega)) rfl (fun x h' hΨ => ?_)
    obtain ⟨rfl, rfl⟩ := hΨ
    refine r_if_eq_t (tgt := 39) X dX1_sum_19 rfl (by decide +kernel) ?_
    refine r_iinc (v := nI (i0 + 1)) X dX1_sum_39 rfl (nadd (rfl) rfl) (by decide) ?_
    refine r_goto (tgt := 4) X dX1_sum_42 rfl ?_
    exact r_eq (h' := h0 ++ ((frC n ++ T).set 83 (eO 0 [vR (n + 84), vR (n + 85), vI 0, vI 0, vI va83_4, vI va83_5, vI 0, vI va83_7, vI 0, vI 0]))) (ls' := [some (vR (n + 99)), some (vI 0), some (vI (nI (i0 + 1)))]) (st' := []) rfl rfl rfl (ih0)
set_option maxRecDepth 100000 in
set_option maxHeartbeats 4000000 in
theorem kx272_X1_skyOfHour (l : Launch) (G : PG) (h0 : PH) (n : Nat) (hn : h0.length = n) (T : PH) (va83_4 va83_5 va83_7 : Int32) : PMet l G yX1_skyOfHour cX1_skyOfHour 4 none 0 0 0 [vR (n + 99)] (h0 ++ ((frC n ++ T).set 83 (eO 0 [vR (n + 84), vR (n + 85), vI 0, vI 0, vI va83_4, vI va83_5, vI 0, vI va83_7, vI 0, vI 0]))) (qV (fun h' => h' = h0 ++ ((frC n ++ T).set 83 (eO 0 [vR (n + 84), vR (n + 85), vI 0, vI 0, vI va83_4, vI va83_5, vI 0, vI va83_7, vI 0, vI 0])))) := by
  refine PMet.intro (by decide) (Nat.le_of_ble_eq_true rfl) ?_
  intro p e s m args below meth c X hr hlk hnm
  refine r_aload_n X dX1_skyOfHour_0 rfl ?_
  refine a_get (a := 99) X hn fg_X1_25 dX1_skyOfHour_1 rfl rfl ?_
  refine r_iconst (v := 2) X dX1_skyOfHour_4 (by decide +kernel) ?_
  refine a_aald (a := 7) (v := vR (n + 9)) (C := RX8) X hn rfl dX1_skyOfHour_5 rfl (inK (by decide +kernel)) rfl ?_
  refine r_astore_n X dX1_skyOfHour_6 (by decide) ?_
  refine r_iconst (v := 0) X dX1_skyOfHour_7 (by decide +kernel) ?_
  refine r_istore_n X dX1_skyOfHour_8 (by decide) ?_
  refine r_iload_n X dX1_skyOfHour_9 rfl ?_
  refine r_aload_n X dX1_skyOfHour_10 rfl ?_
  refine a_get (a := 9) X hn fg_X1_109 dX1_skyOfHour_11 rfl rfl ?_
  refine r_icmp_ge_t (tgt := 136) X dX1_skyOfHour_14 rfl (by decide +kernel) ?_
  exact r_ret_v X hr hlk dX1_skyOfHour_136 (Nat.le_of_ble_eq_true rfl) (Nat.le_of_ble_eq_true rfl) ⟨rfl, rfl⟩
set_option maxRecDepth 100000 in
set_option maxHeartbeats 4000000 in
theorem kx273_X1_thumbsOfHour (l : Launch) (G : PG) (h0 : PH) (n : Nat) (hn : h0.length = n) (T : PH) (va83_4 va83_5 va83_7 : Int32) : PMet l G yX1_thumbsOfHour cX1_thumbsOfHour 5 (some .int) 0 0 0 [vR (n + 99)] (h0 ++ ((frC n ++ T).set 83 (eO 0 [vR (n + 84), vR (n + 85), vI 0, vI 0, vI va83_4, vI va83_5, vI 0, vI va83_7, vI 0, vI 0]))) (qI (fun x h' => x = 0 ∧ h' = h0 ++ ((frC n ++ T).set 83 (eO 0 [vR (n + 84), vR (n + 85), vI 0, vI 0, vI va83_4, vI va83_5, vI 0, vI va83_7, vI 0, vI 0])))) := by
  refine PMet.intro (by decide) (Nat.le_of_ble_eq_true rfl) ?_
  intro p e s m args below meth c X hr hlk hnm
  refine r_aload_n X dX1_thumbsOfHour_0 rfl ?_
  refine a_get (a := 99) X hn fg_X1_25 dX1_thumbsOfHour_1 rfl rfl ?_
  refine r_iconst (v := 1) X dX1_thumbsOfHour_4 (by decide +kernel) ?_
  refine a_aald (a := 7) (v := vR (n + 9)) (C := RX8) X hn rfl dX1_thumbsOfHour_5 rfl (inK (by decide +kernel)) rfl ?_
  refine r_astore_n X dX1_thumbsOfHour_6 (by decide) ?_
  refine r_iconst (v := 0) X dX1_thumbsOfHour_7 (by decide +kernel) ?_
  refine r_istore_n X dX1_thumbsOfHour_8 (by decide) ?_
  refine r_iconst (v := 0) X dX1_thumbsOfHour_9 (by decide +kernel) ?_
  refine r_istore_n X dX1_thumbsOfHour_10 (by decide) ?_
  refine r_iload_n X dX1_thumbsOfHour_11 rfl ?_
  refine r_aload_n X dX1_thumbsOfHour_12 rfl ?_
  refine a_get (a := 9) X hn fg_X1_109 dX1_thumbsOfHour_13 rfl rfl ?_
  refine r_icmp_ge_t (tgt := 90) X dX1_thumbsOfHour_16 rfl (by decide +kernel) ?_
  refine r_iload_n X dX1_thumbsOfHour_90 rfl ?_
  exact r_ret_i X hr hlk dX1_thumbsOfHour_91 (Nat.le_of_ble_eq_true rfl) (Nat.le_of_ble_eq_true rfl) ⟨_, rfl, ⟨rfl, rfl⟩⟩
set_option maxRecDepth 100000 in
set_option maxHeartbeats 4000000 in
theorem kx274_X1_meltAll (l : Launch) (G : PG) (h0 : PH) (n : Nat) (hn : h0.length = n) (T : PH) (va83_4 va83_5 va83_7 : Int32) : PMet l G yX1_meltAll cX1_meltAll 2 none 1 0 0 [vR (n + 99)] (h0 ++ ((frC n ++ T).set 83 (eO 0 [vR (n + 84), vR (n + 85), vI 0, vI 0, vI va83_4, vI va83_5, vI 0, vI va83_7, vI 0, vI 0]))) (qV (fun h' => h' = h0 ++ ((frC n ++ T).set 83 (eO 0 [vR (n + 84), vR (n + 85), vI 0, vI 0, vI va83_4, vI va83_5, vI 0, vI va83_7, vI 0, vI 0])))) := by
  refine PMet.intro (by decide) (Nat.le_of_ble_eq_true rfl) ?_
  intro p e s m args below meth c X hr hlk hnm
  refine r_iconst (v := 0) X dX1_meltAll_0 (by decide +kernel) ?_
  refine r_istore_n X dX1_meltAll_1 (by decide) ?_
  refine r_eq (h' := h0 ++ ((frC n ++ T).set 83 (eO 0 [vR (n + 84), vR (n + 85), vI 0, vI 0, vI va83_4, vI va83_5, vI 0, vI va83_7, vI 0, vI 0]))) (ls' := [some (vR (n + 99)), some (vI (nI 0))]) rfl rfl rfl ?_
  refine pw_loop1 144 (fun i0 => h0 ++ ((frC n ++ T).set 83 (eO 0 [vR (n + 84), vR (n + 85), vI 0, vI 0, vI va83_4, vI va83_5, vI 0, vI va83_7, vI 0, vI 0]))) (fun i0 => [some (vR (n + 99)), some (vI (nI i0))]) ?_ ?_ 0 (by omega)
  · refine r_eq (h' := h0 ++ ((frC n ++ T).set 83 (eO 0 [vR (n + 84), vR (n + 85), vI 0, vI 0, vI va83_4, vI va83_5, vI 0, vI va83_7, vI 0, vI 0]))) (ls' := [some (vR (n + 99)), some (vI (nI 144))]) rfl rfl rfl ?_
    refine r_iload_n X dX1_meltAll_2 rfl ?_
    refine r_sipush (v := 144) X dX1_meltAll_3 (by decide +kernel) ?_
    refine r_icmp_ge_t (tgt := 67) X dX1_meltAll_6 rfl (by decide +kernel) ?_
    exact r_ret_v X hr hlk dX1_meltAll_67 (Nat.le_of_ble_eq_true rfl) (Nat.le_of_ble_eq_true rfl) ⟨rfl, rfl⟩
  · rintro i0 hi0 ih0 
    refine r_eq (h' := h0 ++ ((frC n ++ T).set 83 (eO 0 [vR (n + 84), vR (n + 85), vI 0, vI 0, vI va83_4, vI va83_5, vI 0, vI va83_7, vI 0, vI 0]))) (ls' := [some (vR (n + 99)), some (vI (nI i0))]) rfl rfl rfl ?_
    refine r_iload_n X dX1_meltAll_2 rfl ?_
    refine r_sipush (v := 144) X dX1_meltAll_3 (by decide +kernel) ?_
    refine r_icmp_ge_f (tgt := 67) X dX1_meltAll_6 rfl (by have e0 : (144 : Int32).toInt = 144 := (by decide); have e1 : (nI i0).toInt = ((i0 : Nat) : Int) := toN (rfl) (by omega); simp only [Int32.lt_iff_toInt_lt, Int32.le_iff_toInt_le, ← Int32.toInt_inj] at  ⊢; omega) ?_
    refine r_aload_n X dX1_meltAll_9 rfl ?_
    refine a_get (a := 99) X hn fg_X1_21 dX1_meltAll_10 rfl rfl ?_
    refine r_iload_n X dX1_meltAll_13 rfl ?_
    refine r_V1i X kv_X1_83 dX1_meltAll_14 (apG (k := 83) hn rfl) rfl (kx270_X0_marked l G _ _ hn _ _ _ _ _ (by omega)) rfl (fun x h' hΨ => ?_)
    obtain ⟨rfl, rfl⟩ := hΨ
    refine r_if_eq_t (tgt := 61) X dX1_meltAll_17 rfl (by decide +kernel) ?_
    refine r_iinc (v := nI (i0 + 1)) X dX1_meltAll_61 rfl (nadd (rfl) rfl) (by decide) ?_
    refine r_goto (tgt := 2) X dX1_meltAll_64 rfl ?_
    exact r_eq (h' := h0 ++ ((frC n ++ T).set 83 (eO 0 [vR (n + 84), vR (n + 85), vI 0, vI 0, vI va83_4, vI va83_5, vI 0, vI va83_7, vI 0, vI 0]))) (ls' := [some (vR (n + 99)), some (vI (nI (i0 + 1)))]) (st' := []) rfl rfl rfl (ih0)
set_option maxRecDepth 100000 in
set_option maxHeartbeats 4000000 in
theorem kx275_X1_note (l : Launch) (G : PG) (h0 : PH) (n : Nat) (hn : h0.length = n) (T : PH) (va83_4 va83_5 va83_7 : Int32) : PMet l G yX1_note cX1_note 4 none 0 0 0 [vR (n + 99), vI 4, vI ((-1)), vI 0] (h0 ++ ((frC n ++ T).set 83 (eO 0 [vR (n + 84), vR (n + 85), vI 0, vI 0, vI va83_4, vI va83_5, vI 0, vI (va83_7 + 1), vI 0, vI 0]))) (qV (fun h' => h' = h0 ++ ((frC n ++ T).set 83 (eO 0 [vR (n + 84), vR (n + 85), vI 0, vI 0, vI va83_4, vI va83_5, vI 0, vI (va83_7 + 1), vI 0, vI 0])))) := by
  refine PMet.intro (by decide) (Nat.le_of_ble_eq_true rfl) ?_
  intro p e s m args below meth c X hr hlk hnm
  refine r_aload_n X dX1_note_0 rfl ?_
  refine a_get (a := 99) X hn fg_X1_29 dX1_note_1 rfl rfl ?_
  refine r_ifnull_n (tgt := 35) X dX1_note_4 rfl ?_
  exact r_ret_v X hr hlk dX1_note_35 (Nat.le_of_ble_eq_true rfl) (Nat.le_of_ble_eq_true rfl) ⟨rfl, rfl⟩
set_option maxRecDepth 100000 in
set_option maxHeartbeats 4000000 in
theorem kx276_J7_fill_53178 (l : Launch) (G : PG) (h0 : PH) (n : Nat) (hn : h0.length = n) (T : PH) (va83_4 va83_5 va83_7 : Int32) : PMet l G yJ7_fill_53178 cJ7_fill_53178 4 none 0 0 0 [vR (n + 85), vI 0] (h0 ++ ((frC n ++ T).set 83 (eO 0 [vR (n + 84), vR (n + 85), vI 0, vI 0, vI va83_4, vI va83_5, vI 0, vI (va83_7 + 1), vI 0, vI 0]))) (qV (fun h' => h' = h0 ++ ((frC n ++ T).set 83 (eO 0 [vR (n + 84), vR (n + 85), vI 0, vI 0, vI va83_4, vI va83_5, vI 0, vI (va83_7 + 1), vI 0, vI 0])))) := by
  refine PMet.intro (by decide) (Nat.le_of_ble_eq_true rfl) ?_
  intro p e s m args below meth c X hr hlk hnm
  refine r_iconst (v := 0) X dJ7_fill_53178_0 (by decide +kernel) ?_
  refine r_istore_n X dJ7_fill_53178_1 (by decide) ?_
  refine r_aload_n X dJ7_fill_53178_2 rfl ?_
  refine a_alen (a := 85) (v := 144) X hn dJ7_fill_53178_3 rfl (by decide +kernel) ?_
  refine r_istore_n X dJ7_fill_53178_4 (by decide) ?_
  refine r_eq (h' := h0 ++ ((frC n ++ T).set 83 (eO 0 [vR (n + 84), vR (n + 85), vI 0, vI 0, vI va83_4, vI va83_5, vI 0, vI (va83_7 + 1), vI 0, vI 0]))) (ls' := [some (vR (n + 85)), some (vI 0), some (vI (nI 0)), some (vI 144)]) rfl rfl rfl ?_
  refine pw_loop1 144 (fun i0 => h0 ++ ((frC n ++ T).set 83 (eO 0 [vR (n + 84), vR (n + 85), vI 0, vI 0, vI va83_4, vI va83_5, vI 0, vI (va83_7 + 1), vI 0, vI 0]))) (fun i0 => [some (vR (n + 85)), some (vI 0), some (vI (nI i0)), some (vI 144)]) ?_ ?_ 0 (by omega)
  · refine r_eq (h' := h0 ++ ((frC n ++ T).set 83 (eO 0 [vR (n + 84), vR (n + 85), vI 0, vI 0, vI va83_4, vI va83_5, vI 0, vI (va83_7 + 1), vI 0, vI 0]))) (ls' := [some (vR (n + 85)), some (vI 0), some (vI (nI 144)), some (vI 144)]) rfl rfl rfl ?_
    refine r_iload_n X dJ7_fill_53178_5 rfl ?_
    refine r_iload_n X dJ7_fill_53178_6 rfl ?_
    refine r_icmp_ge_t (tgt := 20) X dJ7_fill_53178_7 rfl (by decide +kernel) ?_
    exact r_ret_v X hr hlk dJ7_fill_53178_20 (Nat.le_of_ble_eq_true rfl) (Nat.le_of_ble_eq_true rfl) ⟨rfl, rfl⟩
  · rintro i0 hi0 ih0 
    refine r_eq (h' := h0 ++ ((frC n ++ T).set 83 (eO 0 [vR (n + 84), vR (n + 85), vI 0, vI 0, vI va83_4, vI va83_5, vI 0, vI (va83_7 + 1), vI 0, vI 0]))) (ls' := [some (vR (n + 85)), some (vI 0), some (vI (nI i0)), some (vI 144)]) rfl rfl rfl ?_
    refine r_iload_n X dJ7_fill_53178_5 rfl ?_
    refine r_iload_n X dJ7_fill_53178_6 rfl ?_
    refine r_icmp_ge_f (tgt := 20) X dJ7_fill_53178_7 rfl (by have e0 : (144 : Int32).toInt = 144 := (by decide); have e1 : (nI i0).toInt = ((i0 : Nat) : Int) := toN (rfl) (by omega); simp only [Int32.lt_iff_toInt_lt, Int32.le_iff_toInt_le, ← Int32.toInt_inj] at  ⊢; omega) ?_
    refine r_aload_n X dJ7_fill_53178_10 rfl ?_
    refine r_iload_n X dJ7_fill_53178_11 rfl ?_
    refine r_iload_n X dJ7_fill_53178_12 rfl ?_
    refine a_iastE (a := 85) (f' := fun _ => 0) X hn dJ7_fill_53178_13 rfl (vin (k := i0) (rfl) (by omega) (by decide)) (upd_c _ _) ?_
    refine r_eq (h' := h0 ++ ((frC n ++ T).set 83 (eO 0 [vR (n + 84), vR (n + 85), vI 0, vI 0, vI va83_4, vI va83_5, vI 0, vI (va83_7 + 1), vI 0, vI 0]))) rfl rfl rfl ?_
    refine r_iinc (v := nI (i0 + 1)) X dJ7_fill_53178_14 rfl (nadd (rfl) rfl) (by decide) ?_
    refine r_goto (tgt := 5) X dJ7_fill_53178_17 rfl ?_
    exact r_eq (h' := h0 ++ ((frC n ++ T).set 83 (eO 0 [vR (n + 84), vR (n + 85), vI 0, vI 0, vI va83_4, vI va83_5, vI 0, vI (va83_7 + 1), vI 0, vI 0]))) (ls' := [some (vR (n + 85)), some (vI 0), some (vI (nI (i0 + 1))), some (vI 144)]) (st' := []) rfl rfl rfl (ih0)
set_option maxRecDepth 100000 in
set_option maxHeartbeats 4000000 in
theorem kx277_X0_takeAllMarks (l : Launch) (G : PG) (h0 : PH) (n : Nat) (hn : h0.length = n) (T : PH) (va83_4 va83_5 va83_7 : Int32) : PMet l G yX0_takeAllMarks cX0_takeAllMarks 1 none 1 0 0 [vR (n + 83)] (h0 ++ ((frC n ++ T).set 83 (eO 0 [vR (n + 84), vR (n + 85), vI 0, vI 0, vI va83_4, vI va83_5, vI 0, vI (va83_7 + 1), vI 0, vI 0]))) (qV (fun h' => h' = h0 ++ ((frC n ++ T).set 83 (eO 0 [vR (n + 84), vR (n + 85), vI 0, vI 0, vI va83_4, vI va83_5, vI 0, vI (va83_7 + 1), vI 0, vI 0])))) := by
  refine PMet.intro (by decide) (Nat.le_of_ble_eq_true rfl) ?_
  intro p e s m args below meth c X hr hlk hnm
  refine r_aload_n X dX0_takeAllMarks_0 rfl ?_
  refine a_get (a := 83) X hn fg_X0_15 dX0_takeAllMarks_1 rfl rfl ?_
  refine r_iconst (v := 0) X dX0_takeAllMarks_4 (by decide +kernel) ?_
  refine r_S2v X ks_X0_80 dX0_takeAllMarks_5 (kx276_J7_fill_53178 l G _ _ hn _ _ _ _) rfl (fun h' hΨ => ?_)
  obtain rfl := hΨ
  exact r_ret_v X hr hlk dX0_takeAllMarks_8 (Nat.le_of_ble_eq_true rfl) (Nat.le_of_ble_eq_true rfl) ⟨rfl, rfl⟩
set_option maxRecDepth 100000 in
set_option maxHeartbeats 4000000 in
theorem kx278_X1_readDoor (l : Launch) (G : PG) (h0 : PH) (n : Nat) (hn : h0.length = n) (T : PH) (va83_4 va83_5 va83_7 : Int32) : PMet l G yX1_readDoor cX1_readDoor 2 none 2 0 0 [vR (n + 99)] (h0 ++ ((frC n ++ T).set 83 (eO 0 [vR (n + 84), vR (n + 85), vI 0, vI 0, vI va83_4, vI va83_5, vI 0, vI va83_7, vI 0, vI 0]))) (qV (fun h' => h' = h0 ++ ((frC n ++ T).set 83 (eO 0 [vR (n + 84), vR (n + 85), vI 0, vI 0, vI 0, vI (va83_5 + 1), vI 0, vI (va83_7 + 1), vI 0, vI 0])))) := by
  refine PMet.intro (by decide) (Nat.le_of_ble_eq_true rfl) ?_
  intro p e s m args below meth c X hr hlk hnm
  refine r_aload_n X dX1_readDoor_0 rfl ?_
  refine r_V0i X kv_X1_141 dX1_readDoor_1 (apG (k := 99) hn rfl) rfl (kx271_X1_sum l G _ _ hn _ _ _ _) rfl (fun x h' hΨ => ?_)
  obtain ⟨rfl, rfl⟩ := hΨ
  refine r_istore_n X dX1_readDoor_4 (by decide) ?_
  refine r_iload_n X dX1_readDoor_5 rfl ?_
  refine r_if_le_t (tgt := 25) X dX1_readDoor_6 rfl (by decide +kernel) ?_
  refine r_aload_n X dX1_readDoor_25 rfl ?_
  refine a_get (a := 99) X hn fg_X1_21 dX1_readDoor_26 rfl rfl ?_
  refine r_dup X dX1_readDoor_29 ?_
  refine a_get (a := 83) X hn fg_X1_147 dX1_readDoor_30 rfl rfl ?_
  refine r_iconst (v := 1) X dX1_readDoor_33 (by decide +kernel) ?_
  refine r_iadd X dX1_readDoor_34 ?_
  refine a_put (a := 83) X hn fp_X1_147 dX1_readDoor_35 rfl rfl rfl rfl ?_
  refine r_eq (h' := h0 ++ ((frC n ++ T).set 83 (eO 0 [vR (n + 84), vR (n + 85), vI 0, vI 0, vI va83_4, vI va83_5, vI 0, vI (va83_7 + 1), vI 0, vI 0]))) rfl rfl rfl ?_
  refine r_aload_n X dX1_readDoor_38 rfl ?_
  refine r_iconst (v := 4) X dX1_readDoor_39 (by decide +kernel) ?_
  refine r_iconst (v := -1) X dX1_readDoor_40 (by decide +kernel) ?_
  refine r_iload_n X dX1_readDoor_41 rfl ?_
  refine r_V3v X kv_X1_150 dX1_readDoor_42 (apG (k := 99) hn rfl) rfl (kx275_X1_note l G _ _ hn _ _ _ _) rfl (fun h' hΨ => ?_)
  obtain rfl := hΨ
  refine r_aload_n X dX1_readDoor_45 rfl ?_
  refine a_get (a := 99) X hn fg_X1_21 dX1_readDoor_46 rfl rfl ?_
  refine r_V0v X kv_X1_153 dX1_readDoor_49 (apG (k := 83) hn rfl) rfl (kx277_X0_takeAllMarks l G _ _ hn _ _ _ _) rfl (fun h' hΨ => ?_)
  obtain rfl := hΨ
  refine r_aload_n X dX1_readDoor_52 rfl ?_
  refine a_get (a := 99) X hn fg_X1_21 dX1_readDoor_53 rfl rfl ?_
  refine r_iconst (v := 0) X dX1_readDoor_56 (by decide +kernel) ?_
  refine a_put (a := 83) X hn fp_X1_66 dX1_readDoor_57 rfl rfl rfl rfl ?_
  refine r_eq (h' := h0 ++ ((frC n ++ T).set 83 (eO 0 [vR (n + 84), vR (n + 85), vI 0, vI 0, vI 0, vI va83_5, vI 0, vI (va83_7 + 1), vI 0, vI 0]))) rfl rfl rfl ?_
  refine r_aload_n X dX1_readDoor_60 rfl ?_
  refine a_get (a := 99) X hn fg_X1_21 dX1_readDoor_61 rfl rfl ?_
  refine r_dup X dX1_readDoor_64 ?_
  refine a_get (a := 83) X hn fg_X1_72 dX1_readDoor_65 rfl rfl ?_
  refine r_iconst (v := 1) X dX1_readDoor_68 (by decide +kernel) ?_
  refine r_iadd X dX1_readDoor_69 ?_
  refine a_put (a := 83) X hn fp_X1_72 dX1_readDoor_70 rfl rfl rfl rfl ?_
  refine r_eq (h' := h0 ++ ((frC n ++ T).set 83 (eO 0 [vR (n + 84), vR (n + 85), vI 0, vI 0, vI 0, vI (va83_5 + 1), vI 0, vI (va83_7 + 1), vI 0, vI 0]))) rfl rfl rfl ?_
  exact r_ret_v X hr hlk dX1_readDoor_73 (Nat.le_of_ble_eq_true rfl) (Nat.le_of_ble_eq_true rfl) ⟨rfl, rfl⟩
set_option maxRecDepth 100000 in
set_option maxHeartbeats 4000000 in
theorem kx279_X1_oneHour (l : Launch) (G : PG) (h0 : PH) (n : Nat) (hn : h0.length = n) (T : PH) (va83_4 va83_5 va83_7 : Int32) : PMet l G yX1_oneHour cX1_oneHour 2 (some .int) 3 0 0 [vR (n + 99)] (h0 ++ ((frC n ++ T).set 83 (eO 0 [vR (n + 84), vR (n + 85), vI 0, vI 0, vI va83_4, vI va83_5, vI 0, vI va83_7, vI 0, vI 0]))) (qI (fun x h' => ((11 ≤ va83_4) ∧ x = 0 ∧ h' = h0 ++ ((frC n ++ T).set 83 (eO 0 [vR (n + 84), vR (n + 85), vI 0, vI 0, vI 0, vI (va83_5 + 1), vI 0, vI (va83_7 + 1), vI 0, vI 0]))) ∨ ((¬ 11 ≤ va83_4) ∧ x = 0 ∧ h' = h0 ++ ((frC n ++ T).set 83 (eO 0 [vR (n + 84), vR (n + 85), vI 0, vI 0, vI (va83_4 + 1), vI va83_5, vI 0, vI va83_7, vI 0, vI 0]))))) := by
  refine PMet.intro (by decide) (Nat.le_of_ble_eq_true rfl) ?_
  intro p e s m args below meth c X hr hlk hnm
  refine r_aload_n X dX1_oneHour_0 rfl ?_
  refine r_V0v X kv_X1_96 dX1_oneHour_1 (apG (k := 99) hn rfl) rfl (kx272_X1_skyOfHour l G _ _ hn _ _ _ _) rfl (fun h' hΨ => ?_)
  obtain rfl := hΨ
  refine r_aload_n X dX1_oneHour_4 rfl ?_
  refine r_V0i X kv_X1_99 dX1_oneHour_5 (apG (k := 99) hn rfl) rfl (kx273_X1_thumbsOfHour l G _ _ hn _ _ _ _) rfl (fun x h' hΨ => ?_)
  obtain ⟨rfl, rfl⟩ := hΨ
  refine r_istore_n X dX1_oneHour_8 (by decide) ?_
  refine r_aload_n X dX1_oneHour_9 rfl ?_
  refine r_V0v X kv_X1_103 dX1_oneHour_10 (apG (k := 99) hn rfl) rfl (kx274_X1_meltAll l G _ _ hn _ _ _ _) rfl (fun h' hΨ => ?_)
  obtain rfl := hΨ
  refine r_aload_n X dX1_oneHour_13 rfl ?_
  refine a_get (a := 99) X hn fg_X1_21 dX1_oneHour_14 rfl rfl ?_
  refine a_get (a := 83) X hn fg_X1_66 dX1_oneHour_17 rfl rfl ?_
  refine r_bipush (v := 11) X dX1_oneHour_20 (by decide +kernel) ?_
  refine r_icmp_ge (tgt := 41) X dX1_oneHour_22 rfl (fun q1 => ?_) (fun q1 => ?_)
  · refine r_aload_n X dX1_oneHour_41 rfl ?_
    refine r_V0v X kv_X1_106 dX1_oneHour_42 (apG (k := 99) hn rfl) rfl (kx278_X1_readDoor l G _ _ hn _ _ _ _) rfl (fun h' hΨ => ?_)
    obtain rfl := hΨ
    refine r_iload_n X dX1_oneHour_45 rfl ?_
    exact r_ret_i X hr hlk dX1_oneHour_46 (Nat.le_of_ble_eq_true rfl) (Nat.le_of_ble_eq_true rfl) ⟨_, rfl, Or.inl ⟨q1, rfl, rfl⟩⟩
  · refine r_aload_n X dX1_oneHour_25 rfl ?_
    refine a_get (a := 99) X hn fg_X1_21 dX1_oneHour_26 rfl rfl ?_
    refine r_dup X dX1_oneHour_29 ?_
    refine a_get (a := 83) X hn fg_X1_66 dX1_oneHour_30 rfl rfl ?_
    refine r_iconst (v := 1) X dX1_oneHour_33 (by decide +kernel) ?_
    refine r_iadd X dX1_oneHour_34 ?_
    refine a_put (a := 83) X hn fp_X1_66 dX1_oneHour_35 rfl rfl rfl rfl ?_
    refine r_eq (h' := h0 ++ ((frC n ++ T).set 83 (eO 0 [vR (n + 84), vR (n + 85), vI 0, vI 0, vI (va83_4 + 1), vI va83_5, vI 0, vI va83_7, vI 0, vI 0]))) rfl rfl rfl ?_
    refine r_goto (tgt := 45) X dX1_oneHour_38 rfl ?_
    refine r_iload_n X dX1_oneHour_45 rfl ?_
    exact r_ret_i X hr hlk dX1_oneHour_46 (Nat.le_of_ble_eq_true rfl) (Nat.le_of_ble_eq_true rfl) ⟨_, rfl, Or.inr (⟨q1, rfl, rfl⟩)⟩
set_option maxRecDepth 100000 in
set_option maxHeartbeats 4000000 in
theorem x_goes (l : Launch) (G : PG) (h0 : PH) (n : Nat) (hn : h0.length = n) (T : PH) (a b : Int32) : PMet l G yX11_goes cX11_goes 4 (some .int) 4 0 0 [vR (n + 0), vI a, vI b] (h0 ++ (frC n ++ T)) (qI (fun x h' => x = sp_goes a b ∧ kp n 103 T h')) := by
  refine PMet.intro (by decide) (Nat.le_of_ble_eq_true rfl) ?_
  intro p e s m args below meth c X hr hlk hnm
  refine r_iload_n X dX11_goes_0 rfl ?_
  refine r_iconst (v := 1) X dX11_goes_1 (by decide +kernel) ?_
  refine r_icmp_lt (tgt := 20) X dX11_goes_2 rfl (fun q1 => ?_) (fun q1 => ?_)
  · refine r_ldc (v := -100000) X kc_X11_197 dX11_goes_20 ?_
    exact r_ret_i X hr hlk dX11_goes_22 (Nat.le_of_ble_eq_true rfl) (Nat.le_of_ble_eq_true rfl) ⟨_, rfl, by unfold sp_goes; (repeat' split) <;> first | rfl | (exfalso; have e0 : (-100000 : Int32).toInt = -100000 := (by decide); have e1 : (0 : Int32).toInt = 0 := (by decide); have e2 : (1 : Int32).toInt = 1 := (by decide); have e3 : (3 : Int32).toInt = 3 := (by decide); have e4 : (60 : Int32).toInt = 60 := (by decide); simp only [inR, Int32.lt_iff_toInt_lt, Int32.le_iff_toInt_le, ← Int32.toInt_inj, true_or, or_true, not_true_eq_false, and_true, true_and, false_or, or_false, false_and, and_false, not_false_eq_true] at * <;> omega), kp_of hn rfl rfl⟩
  · refine r_iload_n X dX11_goes_5 rfl ?_
    refine r_bipush (v := 60) X dX11_goes_6 (by decide +kernel) ?_
    refine r_icmp_gt (tgt := 20) X dX11_goes_8 rfl (fun q2 => ?_) (fun q2 => ?_)
    · refine r_ldc (v := -100000) X kc_X11_197 dX11_goes_20 ?_
      exact r_ret_i X hr hlk dX11_goes_22 (Nat.le_of_ble_eq_true rfl) (Nat.le_of_ble_eq_true rfl) ⟨_, rfl, by unfold sp_goes; (repeat' split) <;> first | rfl | (exfalso; have e0 : (-100000 : Int32).toInt = -100000 := (by decide); have e1 : (0 : Int32).toInt = 0 := (by decide); have e2 : (1 : Int32).toInt = 1 := (by decide); have e3 : (3 : Int32).toInt = 3 := (by decide); have e4 : (60 : Int32).toInt = 60 := (by decide); simp only [inR, Int32.lt_iff_toInt_lt, Int32.le_iff_toInt_le, ← Int32.toInt_inj, true_or, or_true, not_true_eq_false, and_true, true_and, false_or, or_false, false_and, and_false, not_false_eq_true] at * <;> omega), kp_of hn rfl rfl⟩
    · refine r_iload_n X dX11_goes_11 rfl ?_
      refine r_if_lt (tgt := 20) X dX11_goes_12 rfl (fun q3 => ?_) (fun q3 => ?_)
      · refine r_ldc (v := -100000) X kc_X11_197 dX11_goes_20 ?_
        exact r_ret_i X hr hlk dX11_goes_22 (Nat.le_of_ble_eq_true rfl) (Nat.le_of_ble_eq_true rfl) ⟨_, rfl, by unfold sp_goes; (repeat' split) <;> first | rfl | (exfalso; have e0 : (-100000 : Int32).toInt = -100000 := (by decide); have e1 : (0 : Int32).toInt = 0 := (by decide); have e2 : (1 : Int32).toInt = 1 := (by decide); have e3 : (3 : Int32).toInt = 3 := (by decide); have e4 : (60 : Int32).toInt = 60 := (by decide); simp only [inR, Int32.lt_iff_toInt_lt, Int32.le_iff_toInt_le, ← Int32.toInt_inj, true_or, or_true, not_true_eq_false, and_true, true_and, false_or, or_false, false_and, and_false, not_false_eq_true] at * <;> omega), kp_of hn rfl rfl⟩
      · refine r_iload_n X dX11_goes_15 rfl ?_
        refine r_iconst (v := 3) X dX11_goes_16 (by decide +kernel) ?_
        refine r_icmp_le (tgt := 23) X dX11_goes_17 rfl (fun q4 => ?_) (fun q4 => ?_)
        · refine r_aload_n X dX11_goes_23 rfl ?_
          refine a_get (a := 0) X hn fg_X11_40 dX11_goes_24 rfl rfl ?_
          refine r_aload_n X dX11_goes_27 rfl ?_
          refine a_get (a := 0) X hn fg_X11_12 dX11_goes_28 rfl rfl ?_
          refine a_get (a := 1) X hn fg_X11_67 dX11_goes_31 rfl rfl ?_
          refine r_V1v X kv_X11_198 dX11_goes_34 (apG (k := 83) hn rfl) rfl (kx267_X0_takeOver l G _ _ hn _) rfl (fun h' hΨ => ?_)
          obtain rfl := hΨ
          refine r_iconst (v := 0) X dX11_goes_37 (by decide +kernel) ?_
          refine r_istore_n X dX11_goes_38 (by decide) ?_
          obtain ⟨j_a, hj_a, rfl⟩ : ∃ j : Nat, j ≤ 60 ∧ a = nI j := nI_of2 (M := 60) (by decide) (by have e0 : (0 : Int32).toInt = 0 := (by decide); have e1 : (1 : Int32).toInt = 1 := (by decide); have e2 : (60 : Int32).toInt = 60 := (by decide); simp only [Int32.lt_iff_toInt_lt, Int32.le_iff_toInt_le, ← Int32.toInt_inj] at q1 q2 ⊢; omega) (by have e0 : (1 : Int32).toInt = 1 := (by decide); have e1 : (60 : Int32).toInt = 60 := (by decide); simp only [Int32.lt_iff_toInt_lt, Int32.le_iff_toInt_le, ← Int32.toInt_inj] at q1 q2 ⊢; omega)
          refine r_eq (h' := h0 ++ ((frC n ++ T).set 83 (eO 0 [vR (n + 84), vR (n + 85), vI 0, vI 0, vI 0, vI 0, vI 0, vI 0, vI 0, vI 0]))) (ls' := [some (vR (n + 0)), some (vI (nI j_a)), some (vI b), some (vI (nI 0))]) rfl rfl rfl ?_
          refine pw_loopA (α := Int32 × Int32 × Int32) j_a (fun a => match a with | (va83_4, va83_5, va83_7) => True) (fun i0 => fun a => match a with | (va83_4, va83_5, va83_7) => h0 ++ ((frC n ++ T).set 83 (eO 0 [vR (n + 84), vR (n + 85), vI 0, vI 0, vI va83_4, vI va83_5, vI 0, vI va83_7, vI 0, vI 0]))) (fun i0 => [some (vR (n + 0)), some (vI (nI j_a)), some (vI b), some (vI (nI i0))]) ?_ ?_ 0 (by omega) ((0), (0), (0)) (by trivial)
          · rintro ⟨va83_4, va83_5, va83_7⟩ _
            refine r_eq (h' := h0 ++ ((frC n ++ T).set 83 (eO 0 [vR (n + 84), vR (n + 85), vI 0, vI 0, vI va83_4, vI va83_5, vI 0, vI va83_7, vI 0, vI 0]))) (ls' := [some (vR (n + 0)), some (vI (nI j_a)), some (vI b), some (vI (nI j_a))]) rfl rfl rfl ?_
            refine r_iload_n X dX11_goes_39 rfl ?_
            refine r_iload_n X dX11_goes_40 rfl ?_
            refine r_icmp_ge_t (tgt := 58) X dX11_goes_41 rfl (Int32.le_refl _) ?_
            refine r_iload_n X dX11_goes_58 rfl ?_
            rcases tabc b 0 2 (by decide) with q5 | ⟨q5j, q5l, q5e⟩
            · refine r_tabOut (tgt := 108) X dX11_goes_59 q5 rfl ?_
              have q5_0 : ¬ b = 0 := by rintro rfl; revert q5; decide
              have q5_1 : ¬ b = 1 := by rintro rfl; revert q5; decide
              have q5_2 : ¬ b = 2 := by rintro rfl; revert q5; decide
              refine r_aload_n X dX11_goes_108 rfl ?_
              refine a_get (a := 0) X hn fg_X11_40 dX11_goes_109 rfl rfl ?_
              refine r_V0i X kv_X11_210 dX11_goes_112 (apG (k := 83) hn rfl) rfl (kx268_X0_cameOfAll l G _ _ hn _ _ _ _) rfl (fun x h' hΨ => ?_)
              obtain ⟨rfl, rfl⟩ := hΨ
              exact r_ret_i X hr hlk dX11_goes_115 (Nat.le_of_ble_eq_true rfl) (Nat.le_of_ble_eq_true rfl) ⟨_, rfl, by unfold sp_goes; (repeat' split) <;> first | rfl | (exfalso; have e0 : (-100000 : Int32).toInt = -100000 := (by decide); have e1 : (0 : Int32).toInt = 0 := (by decide); have e2 : (1 : Int32).toInt = 1 := (by decide); have e3 : (2 : Int32).toInt = 2 := (by decide); have e4 : (3 : Int32).toInt = 3 := (by decide); have e5 : (60 : Int32).toInt = 60 := (by decide); have en0 : (nI j_a).toInt = ((j_a : Nat) : Int) := toN rfl (by omega); simp only [inR, Int32.lt_iff_toInt_lt, Int32.le_iff_toInt_le, ← Int32.toInt_inj, true_or, or_true, not_true_eq_false, and_true, true_and, false_or, or_false, false_and, and_false, not_false_eq_true] at * <;> omega), kp_of hn rfl rfl⟩
            · rcases (show q5j = 0 ∨ q5j = 1 ∨ q5j = 2 by omega) with rfl | rfl | rfl
              · obtain rfl : b = 0 := q5e.trans (by decide +kernel)
                refine r_tabIn (off := 25) (tgt := 84) X dX11_goes_59 (by decide +kernel) (by decide +kernel) (by decide +kernel) rfl ?_
                refine r_aload_n X dX11_goes_84 rfl ?_
                refine a_get (a := 0) X hn fg_X11_40 dX11_goes_85 rfl rfl ?_
                refine a_get (a := 83) X hn fg_X11_201 dX11_goes_88 rfl rfl ?_
                exact r_ret_i X hr hlk dX11_goes_91 (Nat.le_of_ble_eq_true rfl) (Nat.le_of_ble_eq_true rfl) ⟨_, rfl, by unfold sp_goes; (repeat' split) <;> first | rfl | (exfalso; have e0 : (-100000 : Int32).toInt = -100000 := (by decide); have e1 : (0 : Int32).toInt = 0 := (by decide); have e2 : (1 : Int32).toInt = 1 := (by decide); have e3 : (3 : Int32).toInt = 3 := (by decide); have e4 : (60 : Int32).toInt = 60 := (by decide); have en0 : (nI j_a).toInt = ((j_a : Nat) : Int) := toN rfl (by omega); simp only [inR, Int32.lt_iff_toInt_lt, Int32.le_iff_toInt_le, ← Int32.toInt_inj, true_or, or_true, not_true_eq_false, and_true, true_and, false_or, or_false, false_and, and_false, not_false_eq_true] at * <;> omega), kp_of hn rfl rfl⟩
              · obtain rfl : b = 1 := q5e.trans (by decide +kernel)
                refine r_tabIn (off := 33) (tgt := 92) X dX11_goes_59 (by decide +kernel) (by decide +kernel) (by decide +kernel) rfl ?_
                refine r_aload_n X dX11_goes_92 rfl ?_
                refine a_get (a := 0) X hn fg_X11_40 dX11_goes_93 rfl rfl ?_
                refine r_V0i X kv_X11_204 dX11_goes_96 (apG (k := 83) hn rfl) rfl (kx269_X0_countMarks l G _ _ hn _ _ _ _) rfl (fun x h' hΨ => ?_)
                obtain ⟨rfl, rfl⟩ := hΨ
                exact r_ret_i X hr hlk dX11_goes_99 (Nat.le_of_ble_eq_true rfl) (Nat.le_of_ble_eq_true rfl) ⟨_, rfl, by unfold sp_goes; (repeat' split) <;> first | rfl | (exfalso; have e0 : (-100000 : Int32).toInt = -100000 := (by decide); have e1 : (0 : Int32).toInt = 0 := (by decide); have e2 : (1 : Int32).toInt = 1 := (by decide); have e3 : (3 : Int32).toInt = 3 := (by decide); have e4 : (60 : Int32).toInt = 60 := (by decide); have en0 : (nI j_a).toInt = ((j_a : Nat) : Int) := toN rfl (by omega); simp only [inR, Int32.lt_iff_toInt_lt, Int32.le_iff_toInt_le, ← Int32.toInt_inj, true_or, or_true, not_true_eq_false, and_true, true_and, false_or, or_false, false_and, and_false, not_false_eq_true] at * <;> omega), kp_of hn rfl rfl⟩
              · obtain rfl : b = 2 := q5e.trans (by decide +kernel)
                refine r_tabIn (off := 41) (tgt := 100) X dX11_goes_59 (by decide +kernel) (by decide +kernel) (by decide +kernel) rfl ?_
                refine r_aload_n X dX11_goes_100 rfl ?_
                refine a_get (a := 0) X hn fg_X11_85 dX11_goes_101 rfl rfl ?_
                refine r_V0i X kv_X11_207 dX11_goes_104 (apG (k := 99) hn rfl) rfl (kx271_X1_sum l G _ _ hn _ _ _ _) rfl (fun x h' hΨ => ?_)
                obtain ⟨rfl, rfl⟩ := hΨ
                exact r_ret_i X hr hlk dX11_goes_107 (Nat.le_of_ble_eq_true rfl) (Nat.le_of_ble_eq_true rfl) ⟨_, rfl, by unfold sp_goes; (repeat' split) <;> first | rfl | (exfalso; have e0 : (-100000 : Int32).toInt = -100000 := (by decide); have e1 : (0 : Int32).toInt = 0 := (by decide); have e2 : (1 : Int32).toInt = 1 := (by decide); have e3 : (2 : Int32).toInt = 2 := (by decide); have e4 : (3 : Int32).toInt = 3 := (by decide); have e5 : (60 : Int32).toInt = 60 := (by decide); have en0 : (nI j_a).toInt = ((j_a : Nat) : Int) := toN rfl (by omega); simp only [inR, Int32.lt_iff_toInt_lt, Int32.le_iff_toInt_le, ← Int32.toInt_inj, true_or, or_true, not_true_eq_false, and_true, true_and, false_or, or_false, false_and, and_false, not_false_eq_true] at * <;> omega), kp_of hn rfl rfl⟩
          · rintro i0 hi0 ih0 ⟨va83_4, va83_5, va83_7⟩ _
            refine r_eq (h' := h0 ++ ((frC n ++ T).set 83 (eO 0 [vR (n + 84), vR (n + 85), vI 0, vI 0, vI va83_4, vI va83_5, vI 0, vI va83_7, vI 0, vI 0]))) (ls' := [some (vR (n + 0)), some (vI (nI j_a)), some (vI b), some (vI (nI i0))]) rfl rfl rfl ?_
            refine r_iload_n X dX11_goes_39 rfl ?_
            refine r_iload_n X dX11_goes_40 rfl ?_
            refine r_icmp_ge_f (tgt := 58) X dX11_goes_41 rfl (nI_ge hi0 (by omega)) ?_
            refine r_aload_n X dX11_goes_44 rfl ?_
            refine a_get (a := 0) X hn fg_X11_85 dX11_goes_45 rfl rfl ?_
            refine r_V0i X kv_X11_143 dX11_goes_48 (apG (k := 99) hn rfl) rfl (kx279_X1_oneHour l G _ _ hn _ _ _ _) rfl (fun x h' hΨ => ?_)
            rcases hΨ with ⟨q6, rfl, rfl⟩ | ⟨q7, rfl, rfl⟩
            · refine r_pop X dX11_goes_51 ?_
              refine r_iinc (v := nI (i0 + 1)) X dX11_goes_52 rfl (nadd (rfl) rfl) (by decide) ?_
              refine r_goto (tgt := 39) X dX11_goes_55 rfl ?_
              exact r_eq (h' := h0 ++ ((frC n ++ T).set 83 (eO 0 [vR (n + 84), vR (n + 85), vI 0, vI 0, vI 0, vI (va83_5 + 1), vI 0, vI (va83_7 + 1), vI 0, vI 0]))) (ls' := [some (vR (n + 0)), some (vI (nI j_a)), some (vI b), some (vI (nI (i0 + 1)))]) (st' := []) rfl rfl rfl (ih0 ((0), (va83_5 + 1), (va83_7 + 1)) (by trivial))
            · refine r_pop X dX11_goes_51 ?_
              refine r_iinc (v := nI (i0 + 1)) X dX11_goes_52 rfl (nadd (rfl) rfl) (by decide) ?_
              refine r_goto (tgt := 39) X dX11_goes_55 rfl ?_
              exact r_eq (h' := h0 ++ ((frC n ++ T).set 83 (eO 0 [vR (n + 84), vR (n + 85), vI 0, vI 0, vI (va83_4 + 1), vI va83_5, vI 0, vI va83_7, vI 0, vI 0]))) (ls' := [some (vR (n + 0)), some (vI (nI j_a)), some (vI b), some (vI (nI (i0 + 1)))]) (st' := []) rfl rfl rfl (ih0 ((va83_4 + 1), (va83_5), (va83_7)) (by trivial))
        · refine r_ldc (v := -100000) X kc_X11_197 dX11_goes_20 ?_
          exact r_ret_i X hr hlk dX11_goes_22 (Nat.le_of_ble_eq_true rfl) (Nat.le_of_ble_eq_true rfl) ⟨_, rfl, by unfold sp_goes; (repeat' split) <;> first | rfl | (exfalso; have e0 : (-100000 : Int32).toInt = -100000 := (by decide); have e1 : (0 : Int32).toInt = 0 := (by decide); have e2 : (1 : Int32).toInt = 1 := (by decide); have e3 : (3 : Int32).toInt = 3 := (by decide); have e4 : (60 : Int32).toInt = 60 := (by decide); simp only [inR, Int32.lt_iff_toInt_lt, Int32.le_iff_toInt_le, ← Int32.toInt_inj, true_or, or_true, not_true_eq_false, and_true, true_and, false_or, or_false, false_and, and_false, not_false_eq_true] at * <;> omega), kp_of hn rfl rfl⟩
