set_option maxRecDepth 100000 in
set_option maxHeartbeats 4000000 in
theorem kx280_X0_takeOver (l : Launch) (G : PG) (h0 : PH) (n : Nat) (hn : h0.length = n) (T : PH) : PMet l G yX0_takeOver cX0_takeOver 2 none 1 0 0 [vR (n + 31), vR (n + 2)] (h0 ++ (frC n ++ T)) (qV (fun h' => h' = h0 ++ (frC n ++ T))) := by
  refine PMet.intro (by decide) (Nat.le_of_ble_eq_true rfl) ?_
  intro p e s m args below meth c X hr hlk hnm
  refine r_aload_n X dX0_takeOver_0 rfl ?_
  refine a_get (a := 2) X hn fg_X0_9 dX0_takeOver_1 rfl rfl ?_
  refine r_iconst (v := 0) X dX0_takeOver_4 (by decide +kernel) ?_
  refine r_aload_n X dX0_takeOver_5 rfl ?_
  refine a_get (a := 31) X hn fg_X0_9 dX0_takeOver_6 rfl rfl ?_
  refine r_iconst (v := 0) X dX0_takeOver_9 (by decide +kernel) ?_
  refine r_bipush (v := 120) X dX0_takeOver_10 (by decide +kernel) ?_
  refine a_copy (a0 := 3) (a := 32) (f' := fun _ => 0) X hn lc_X0_43 dX0_takeOver_12 rfl rfl (by decide +kernel) (by decide +kernel) (by decide +kernel) (by decide +kernel) (by decide +kernel) rfl rfl (cpy_c _ _ _ _) ?_
  refine r_eq (h' := h0 ++ (frC n ++ T)) rfl rfl rfl ?_
  refine r_aload_n X dX0_takeOver_15 rfl ?_
  refine a_get (a := 2) X hn fg_X0_15 dX0_takeOver_16 rfl rfl ?_
  refine r_iconst (v := 0) X dX0_takeOver_19 (by decide +kernel) ?_
  refine r_aload_n X dX0_takeOver_20 rfl ?_
  refine a_get (a := 31) X hn fg_X0_15 dX0_takeOver_21 rfl rfl ?_
  refine r_iconst (v := 0) X dX0_takeOver_24 (by decide +kernel) ?_
  refine r_sipush (v := 144) X dX0_takeOver_25 (by decide +kernel) ?_
  refine a_copy (a0 := 4) (a := 33) (f' := fun _ => 0) X hn lc_X0_43 dX0_takeOver_28 rfl rfl (by decide +kernel) (by decide +kernel) (by decide +kernel) (by decide +kernel) (by decide +kernel) rfl rfl (cpy_c _ _ _ _) ?_
  refine r_eq (h' := h0 ++ (frC n ++ T)) rfl rfl rfl ?_
  refine r_aload_n X dX0_takeOver_31 rfl ?_
  refine r_aload_n X dX0_takeOver_32 rfl ?_
  refine a_get (a := 2) X hn fg_X0_18 dX0_takeOver_33 rfl rfl ?_
  refine a_put (a := 31) X hn fp_X0_18 dX0_takeOver_36 rfl rfl rfl rfl ?_
  refine r_eq (h' := h0 ++ (frC n ++ T)) rfl rfl rfl ?_
  refine r_aload_n X dX0_takeOver_39 rfl ?_
  refine r_aload_n X dX0_takeOver_40 rfl ?_
  refine a_get (a := 2) X hn fg_X0_22 dX0_takeOver_41 rfl rfl ?_
  refine a_put (a := 31) X hn fp_X0_22 dX0_takeOver_44 rfl rfl rfl rfl ?_
  refine r_eq (h' := h0 ++ (frC n ++ T)) rfl rfl rfl ?_
  refine r_aload_n X dX0_takeOver_47 rfl ?_
  refine r_aload_n X dX0_takeOver_48 rfl ?_
  refine a_get (a := 2) X hn fg_X0_25 dX0_takeOver_49 rfl rfl ?_
  refine a_put (a := 31) X hn fp_X0_25 dX0_takeOver_52 rfl rfl rfl rfl ?_
  refine r_eq (h' := h0 ++ (frC n ++ T)) rfl rfl rfl ?_
  refine r_aload_n X dX0_takeOver_55 rfl ?_
  refine r_aload_n X dX0_takeOver_56 rfl ?_
  refine a_get (a := 2) X hn fg_X0_28 dX0_takeOver_57 rfl rfl ?_
  refine a_put (a := 31) X hn fp_X0_28 dX0_takeOver_60 rfl rfl rfl rfl ?_
  refine r_eq (h' := h0 ++ (frC n ++ T)) rfl rfl rfl ?_
  refine r_aload_n X dX0_takeOver_63 rfl ?_
  refine r_aload_n X dX0_takeOver_64 rfl ?_
  refine a_get (a := 2) X hn fg_X0_31 dX0_takeOver_65 rfl rfl ?_
  refine a_put (a := 31) X hn fp_X0_31 dX0_takeOver_68 rfl rfl rfl rfl ?_
  refine r_eq (h' := h0 ++ (frC n ++ T)) rfl rfl rfl ?_
  refine r_aload_n X dX0_takeOver_71 rfl ?_
  refine r_aload_n X dX0_takeOver_72 rfl ?_
  refine a_get (a := 2) X hn fg_X0_34 dX0_takeOver_73 rfl rfl ?_
  refine a_put (a := 31) X hn fp_X0_34 dX0_takeOver_76 rfl rfl rfl rfl ?_
  refine r_eq (h' := h0 ++ (frC n ++ T)) rfl rfl rfl ?_
  refine r_aload_n X dX0_takeOver_79 rfl ?_
  refine r_aload_n X dX0_takeOver_80 rfl ?_
  refine a_get (a := 2) X hn fg_X0_37 dX0_takeOver_81 rfl rfl ?_
  refine a_put (a := 31) X hn fp_X0_37 dX0_takeOver_84 rfl rfl rfl rfl ?_
  refine r_eq (h' := h0 ++ (frC n ++ T)) rfl rfl rfl ?_
  refine r_aload_n X dX0_takeOver_87 rfl ?_
  refine r_aload_n X dX0_takeOver_88 rfl ?_
  refine a_get (a := 2) X hn fg_X0_40 dX0_takeOver_89 rfl rfl ?_
  refine a_put (a := 31) X hn fp_X0_40 dX0_takeOver_92 rfl rfl rfl rfl ?_
  refine r_eq (h' := h0 ++ (frC n ++ T)) rfl rfl rfl ?_
  exact r_ret_v X hr hlk dX0_takeOver_95 (Nat.le_of_ble_eq_true rfl) (Nat.le_of_ble_eq_true rfl) ⟨rfl, rfl⟩
set_option maxRecDepth 100000 in
set_option maxHeartbeats 4000000 in
theorem kx281_X3_takePages (l : Launch) (G : PG) (h0 : PH) (n : Nat) (hn : h0.length = n) (T : PH) : PMet l G yX3_takePages cX3_takePages 2 none 1 0 0 [vR (n + 34), vR (n + 5)] (h0 ++ (frC n ++ T)) (qV (fun h' => ∃ g170 : Nat → Int32, h' = h0 ++ ((frC n ++ T).set 35 (eI 750 g170)))) := by
  refine PMet.intro (by decide) (Nat.le_of_ble_eq_true rfl) ?_
  intro p e s m args below meth c X hr hlk hnm
  refine r_aload_n X dX3_takePages_0 rfl ?_
  refine a_get (a := 5) X hn fg_X3_9 dX3_takePages_1 rfl rfl ?_
  refine r_iconst (v := 0) X dX3_takePages_4 (by decide +kernel) ?_
  refine r_aload_n X dX3_takePages_5 rfl ?_
  refine a_get (a := 34) X hn fg_X3_9 dX3_takePages_6 rfl rfl ?_
  refine r_iconst (v := 0) X dX3_takePages_9 (by decide +kernel) ?_
  refine r_sipush (v := 750) X dX3_takePages_10 (by decide +kernel) ?_
  refine a_copy_any (a0 := 6) (a := 35) X hn lc_X3_24 dX3_takePages_13 rfl rfl (by decide +kernel) (by decide +kernel) (by decide +kernel) (by decide +kernel) (by decide +kernel) rfl rfl (fun g170 => ?_)
  refine r_eq (h' := h0 ++ ((frC n ++ T).set 35 (eI 750 g170))) rfl rfl rfl ?_
  exact r_ret_v X hr hlk dX3_takePages_16 (Nat.le_of_ble_eq_true rfl) (Nat.le_of_ble_eq_true rfl) ⟨rfl, ⟨_, rfl⟩⟩
set_option maxRecDepth 100000 in
set_option maxHeartbeats 4000000 in
theorem kx282_X9_takeList (l : Launch) (G : PG) (h0 : PH) (n : Nat) (hn : h0.length = n) (T : PH) (g171 : Nat → Int32) : PMet l G yX9_takeList cX9_takeList 3 none 1 0 0 [vR (n + 41), vR (n + 12)] (h0 ++ (((frC n ++ T).set 35 (eI 750 g171)).set 36 (eR 2 4 (va_up (va_up (va_up (va_up (va_up (va_up (va_up (va_up (fun _ => none) (0 : Int32).toNatClampNeg (some (n + 38))) (1 : Int32).toNatClampNeg (some (n + 38))) (2 : Int32).toNatClampNeg (some (n + 38))) (3 : Int32).toNatClampNeg (some (n + 38))) (0 : Int32).toNatClampNeg (some (n + 9))) (1 : Int32).toNatClampNeg (some (n + 9))) (2 : Int32).toNatClampNeg (some (n + 9))) (3 : Int32).toNatClampNeg (some (n + 9)))))) (qV (fun h' => h' = h0 ++ (((frC n ++ T).set 35 (eI 750 g171)).set 36 (eR 2 4 (va_up (va_up (va_up (va_up (va_up (va_up (va_up (va_up (fun _ => none) (0 : Int32).toNatClampNeg (some (n + 38))) (1 : Int32).toNatClampNeg (some (n + 38))) (2 : Int32).toNatClampNeg (some (n + 38))) (3 : Int32).toNatClampNeg (some (n + 38))) (0 : Int32).toNatClampNeg (some (n + 9))) (1 : Int32).toNatClampNeg (some (n + 9))) (2 : Int32).toNatClampNeg (some (n + 9))) (3 : Int32).toNatClampNeg (some (n + 9))))))) := by
  refine PMet.intro (by decide) (Nat.le_of_ble_eq_true rfl) ?_
  intro p e s m args below meth c X hr hlk hnm
  refine r_aload_n X dX9_takeList_0 rfl ?_
  refine r_aload_n X dX9_takeList_1 rfl ?_
  refine a_get (a := 12) X hn fg_X9_9 dX9_takeList_2 rfl rfl ?_
  refine r_aload_n X dX9_takeList_5 rfl ?_
  refine a_get (a := 41) X hn fg_X9_21 dX9_takeList_6 rfl rfl ?_
  refine a_alen (a := 42) (v := 6) X hn dX9_takeList_9 rfl (by decide +kernel) ?_
  refine r_min (v := 0) X ks_X9_25.1.1 dX9_takeList_10 rfl (by decide +kernel) ?_
  refine a_put (a := 41) X hn fp_X9_9 dX9_takeList_13 rfl rfl rfl rfl ?_
  refine r_eq (h' := h0 ++ (((frC n ++ T).set 35 (eI 750 g171)).set 36 (eR 2 4 (va_up (va_up (va_up (va_up (va_up (va_up (va_up (va_up (fun _ => none) (0 : Int32).toNatClampNeg (some (n + 38))) (1 : Int32).toNatClampNeg (some (n + 38))) (2 : Int32).toNatClampNeg (some (n + 38))) (3 : Int32).toNatClampNeg (some (n + 38))) (0 : Int32).toNatClampNeg (some (n + 9))) (1 : Int32).toNatClampNeg (some (n + 9))) (2 : Int32).toNatClampNeg (some (n + 9))) (3 : Int32).toNatClampNeg (some (n + 9)))))) rfl rfl rfl ?_
  refine r_iconst (v := 0) X dX9_takeList_16 (by decide +kernel) ?_
  refine r_istore_n X dX9_takeList_17 (by decide) ?_
  refine r_iload_n X dX9_takeList_18 rfl ?_
  refine r_aload_n X dX9_takeList_19 rfl ?_
  refine a_get (a := 41) X hn fg_X9_9 dX9_takeList_20 rfl rfl ?_
  refine r_icmp_ge_t (tgt := 43) X dX9_takeList_23 rfl (by decide +kernel) ?_
  exact r_ret_v X hr hlk dX9_takeList_43 (Nat.le_of_ble_eq_true rfl) (Nat.le_of_ble_eq_true rfl) ⟨rfl, rfl⟩
set_option maxRecDepth 100000 in
set_option maxHeartbeats 4000000 in
theorem kx283_X9_takeList (l : Launch) (G : PG) (h0 : PH) (n : Nat) (hn : h0.length = n) (T : PH) (g171 : Nat → Int32) : PMet l G yX9_takeList cX9_takeList 3 none 1 0 0 [vR (n + 43), vR (n + 14)] (h0 ++ (((frC n ++ T).set 35 (eI 750 g171)).set 36 (eR 2 4 (va_up (va_up (va_up (va_up (va_up (va_up (va_up (va_up (fun _ => none) (0 : Int32).toNatClampNeg (some (n + 38))) (1 : Int32).toNatClampNeg (some (n + 38))) (2 : Int32).toNatClampNeg (some (n + 38))) (3 : Int32).toNatClampNeg (some (n + 38))) (0 : Int32).toNatClampNeg (some (n + 9))) (1 : Int32).toNatClampNeg (some (n + 9))) (2 : Int32).toNatClampNeg (some (n + 9))) (3 : Int32).toNatClampNeg (some (n + 9)))))) (qV (fun h' => h' = h0 ++ (((frC n ++ T).set 35 (eI 750 g171)).set 36 (eR 2 4 (va_up (va_up (va_up (va_up (va_up (va_up (va_up (va_up (fun _ => none) (0 : Int32).toNatClampNeg (some (n + 38))) (1 : Int32).toNatClampNeg (some (n + 38))) (2 : Int32).toNatClampNeg (some (n + 38))) (3 : Int32).toNatClampNeg (some (n + 38))) (0 : Int32).toNatClampNeg (some (n + 9))) (1 : Int32).toNatClampNeg (some (n + 9))) (2 : Int32).toNatClampNeg (some (n + 9))) (3 : Int32).toNatClampNeg (some (n + 9))))))) := by
  refine PMet.intro (by decide) (Nat.le_of_ble_eq_true rfl) ?_
  intro p e s m args below meth c X hr hlk hnm
  refine r_aload_n X dX9_takeList_0 rfl ?_
  refine r_aload_n X dX9_takeList_1 rfl ?_
  refine a_get (a := 14) X hn fg_X9_9 dX9_takeList_2 rfl rfl ?_
  refine r_aload_n X dX9_takeList_5 rfl ?_
  refine a_get (a := 43) X hn fg_X9_21 dX9_takeList_6 rfl rfl ?_
  refine a_alen (a := 44) (v := 16) X hn dX9_takeList_9 rfl (by decide +kernel) ?_
  refine r_min (v := 0) X ks_X9_25.1.1 dX9_takeList_10 rfl (by decide +kernel) ?_
  refine a_put (a := 43) X hn fp_X9_9 dX9_takeList_13 rfl rfl rfl rfl ?_
  refine r_eq (h' := h0 ++ (((frC n ++ T).set 35 (eI 750 g171)).set 36 (eR 2 4 (va_up (va_up (va_up (va_up (va_up (va_up (va_up (va_up (fun _ => none) (0 : Int32).toNatClampNeg (some (n + 38))) (1 : Int32).toNatClampNeg (some (n + 38))) (2 : Int32).toNatClampNeg (some (n + 38))) (3 : Int32).toNatClampNeg (some (n + 38))) (0 : Int32).toNatClampNeg (some (n + 9))) (1 : Int32).toNatClampNeg (some (n + 9))) (2 : Int32).toNatClampNeg (some (n + 9))) (3 : Int32).toNatClampNeg (some (n + 9)))))) rfl rfl rfl ?_
  refine r_iconst (v := 0) X dX9_takeList_16 (by decide +kernel) ?_
  refine r_istore_n X dX9_takeList_17 (by decide) ?_
  refine r_iload_n X dX9_takeList_18 rfl ?_
  refine r_aload_n X dX9_takeList_19 rfl ?_
  refine a_get (a := 43) X hn fg_X9_9 dX9_takeList_20 rfl rfl ?_
  refine r_icmp_ge_t (tgt := 43) X dX9_takeList_23 rfl (by decide +kernel) ?_
  exact r_ret_v X hr hlk dX9_takeList_43 (Nat.le_of_ble_eq_true rfl) (Nat.le_of_ble_eq_true rfl) ⟨rfl, rfl⟩
set_option maxRecDepth 100000 in
set_option maxHeartbeats 4000000 in
theorem kx284_X9_takeList (l : Launch) (G : PG) (h0 : PH) (n : Nat) (hn : h0.length = n) (T : PH) (g171 : Nat → Int32) : PMet l G yX9_takeList cX9_takeList 3 none 1 0 0 [vR (n + 45), vR (n + 16)] (h0 ++ (((frC n ++ T).set 35 (eI 750 g171)).set 36 (eR 2 4 (va_up (va_up (va_up (va_up (va_up (va_up (va_up (va_up (fun _ => none) (0 : Int32).toNatClampNeg (some (n + 38))) (1 : Int32).toNatClampNeg (some (n + 38))) (2 : Int32).toNatClampNeg (some (n + 38))) (3 : Int32).toNatClampNeg (some (n + 38))) (0 : Int32).toNatClampNeg (some (n + 9))) (1 : Int32).toNatClampNeg (some (n + 9))) (2 : Int32).toNatClampNeg (some (n + 9))) (3 : Int32).toNatClampNeg (some (n + 9)))))) (qV (fun h' => h' = h0 ++ (((frC n ++ T).set 35 (eI 750 g171)).set 36 (eR 2 4 (va_up (va_up (va_up (va_up (va_up (va_up (va_up (va_up (fun _ => none) (0 : Int32).toNatClampNeg (some (n + 38))) (1 : Int32).toNatClampNeg (some (n + 38))) (2 : Int32).toNatClampNeg (some (n + 38))) (3 : Int32).toNatClampNeg (some (n + 38))) (0 : Int32).toNatClampNeg (some (n + 9))) (1 : Int32).toNatClampNeg (some (n + 9))) (2 : Int32).toNatClampNeg (some (n + 9))) (3 : Int32).toNatClampNeg (some (n + 9))))))) := by
  refine PMet.intro (by decide) (Nat.le_of_ble_eq_true rfl) ?_
  intro p e s m args below meth c X hr hlk hnm
  refine r_aload_n X dX9_takeList_0 rfl ?_
  refine r_aload_n X dX9_takeList_1 rfl ?_
  refine a_get (a := 16) X hn fg_X9_9 dX9_takeList_2 rfl rfl ?_
  refine r_aload_n X dX9_takeList_5 rfl ?_
  refine a_get (a := 45) X hn fg_X9_21 dX9_takeList_6 rfl rfl ?_
  refine a_alen (a := 46) (v := 15) X hn dX9_takeList_9 rfl (by decide +kernel) ?_
  refine r_min (v := 0) X ks_X9_25.1.1 dX9_takeList_10 rfl (by decide +kernel) ?_
  refine a_put (a := 45) X hn fp_X9_9 dX9_takeList_13 rfl rfl rfl rfl ?_
  refine r_eq (h' := h0 ++ (((frC n ++ T).set 35 (eI 750 g171)).set 36 (eR 2 4 (va_up (va_up (va_up (va_up (va_up (va_up (va_up (va_up (fun _ => none) (0 : Int32).toNatClampNeg (some (n + 38))) (1 : Int32).toNatClampNeg (some (n + 38))) (2 : Int32).toNatClampNeg (some (n + 38))) (3 : Int32).toNatClampNeg (some (n + 38))) (0 : Int32).toNatClampNeg (some (n + 9))) (1 : Int32).toNatClampNeg (some (n + 9))) (2 : Int32).toNatClampNeg (some (n + 9))) (3 : Int32).toNatClampNeg (some (n + 9)))))) rfl rfl rfl ?_
  refine r_iconst (v := 0) X dX9_takeList_16 (by decide +kernel) ?_
  refine r_istore_n X dX9_takeList_17 (by decide) ?_
  refine r_iload_n X dX9_takeList_18 rfl ?_
  refine r_aload_n X dX9_takeList_19 rfl ?_
  refine a_get (a := 45) X hn fg_X9_9 dX9_takeList_20 rfl rfl ?_
  refine r_icmp_ge_t (tgt := 43) X dX9_takeList_23 rfl (by decide +kernel) ?_
  exact r_ret_v X hr hlk dX9_takeList_43 (Nat.le_of_ble_eq_true rfl) (Nat.le_of_ble_eq_true rfl) ⟨rfl, rfl⟩
set_option maxRecDepth 100000 in
set_option maxHeartbeats 4000000 in
theorem kx285_X9_takeList (l : Launch) (G : PG) (h0 : PH) (n : Nat) (hn : h0.length = n) (T : PH) (g171 : Nat → Int32) : PMet l G yX9_takeList cX9_takeList 3 none 1 0 0 [vR (n + 47), vR (n + 18)] (h0 ++ (((frC n ++ T).set 35 (eI 750 g171)).set 36 (eR 2 4 (va_up (va_up (va_up (va_up (va_up (va_up (va_up (va_up (fun _ => none) (0 : Int32).toNatClampNeg (some (n + 38))) (1 : Int32).toNatClampNeg (some (n + 38))) (2 : Int32).toNatClampNeg (some (n + 38))) (3 : Int32).toNatClampNeg (some (n + 38))) (0 : Int32).toNatClampNeg (some (n + 9))) (1 : Int32).toNatClampNeg (some (n + 9))) (2 : Int32).toNatClampNeg (some (n + 9))) (3 : Int32).toNatClampNeg (some (n + 9)))))) (qV (fun h' => h' = h0 ++ (((frC n ++ T).set 35 (eI 750 g171)).set 36 (eR 2 4 (va_up (va_up (va_up (va_up (va_up (va_up (va_up (va_up (fun _ => none) (0 : Int32).toNatClampNeg (some (n + 38))) (1 : Int32).toNatClampNeg (some (n + 38))) (2 : Int32).toNatClampNeg (some (n + 38))) (3 : Int32).toNatClampNeg (some (n + 38))) (0 : Int32).toNatClampNeg (some (n + 9))) (1 : Int32).toNatClampNeg (some (n + 9))) (2 : Int32).toNatClampNeg (some (n + 9))) (3 : Int32).toNatClampNeg (some (n + 9))))))) := by
  refine PMet.intro (by decide) (Nat.le_of_ble_eq_true rfl) ?_
  intro p e s m args below meth c X hr hlk hnm
  refine r_aload_n X dX9_takeList_0 rfl ?_
  refine r_aload_n X dX9_takeList_1 rfl ?_
  refine a_get (a := 18) X hn fg_X9_9 dX9_takeList_2 rfl rfl ?_
  refine r_aload_n X dX9_takeList_5 rfl ?_
  refine a_get (a := 47) X hn fg_X9_21 dX9_takeList_6 rfl rfl ?_
  refine a_alen (a := 48) (v := 15) X hn dX9_takeList_9 rfl (by decide +kernel) ?_
  refine r_min (v := 0) X ks_X9_25.1.1 dX9_takeList_10 rfl (by decide +kernel) ?_
  refine a_put (a := 47) X hn fp_X9_9 dX9_takeList_13 rfl rfl rfl rfl ?_
  refine r_eq (h' := h0 ++ (((frC n ++ T).set 35 (eI 750 g171)).set 36 (eR 2 4 (va_up (va_up (va_up (va_up (va_up (va_up (va_up (va_up (fun _ => none) (0 : Int32).toNatClampNeg (some (n + 38))) (1 : Int32).toNatClampNeg (some (n + 38))) (2 : Int32).toNatClampNeg (some (n + 38))) (3 : Int32).toNatClampNeg (some (n + 38))) (0 : Int32).toNatClampNeg (some (n + 9))) (1 : Int32).toNatClampNeg (some (n + 9))) (2 : Int32).toNatClampNeg (some (n + 9))) (3 : Int32).toNatClampNeg (some (n + 9)))))) rfl rfl rfl ?_
  refine r_iconst (v := 0) X dX9_takeList_16 (by decide +kernel) ?_
  refine r_istore_n X dX9_takeList_17 (by decide) ?_
  refine r_iload_n X dX9_takeList_18 rfl ?_
  refine r_aload_n X dX9_takeList_19 rfl ?_
  refine a_get (a := 47) X hn fg_X9_9 dX9_takeList_20 rfl rfl ?_
  refine r_icmp_ge_t (tgt := 43) X dX9_takeList_23 rfl (by decide +kernel) ?_
  exact r_ret_v X hr hlk dX9_takeList_43 (Nat.le_of_ble_eq_true rfl) (Nat.le_of_ble_eq_true rfl) ⟨rfl, rfl⟩
set_option maxRecDepth 100000 in
set_option maxHeartbeats 4000000 in
theorem kx286_X9_takeList (l : Launch) (G : PG) (h0 : PH) (n : Nat) (hn : h0.length = n) (T : PH) (g171 : Nat → Int32) : PMet l G yX9_takeList cX9_takeList 3 none 1 0 0 [vR (n + 49), vR (n + 20)] (h0 ++ (((frC n ++ T).set 35 (eI 750 g171)).set 36 (eR 2 4 (va_up (va_up (va_up (va_up (va_up (va_up (va_up (va_up (fun _ => none) (0 : Int32).toNatClampNeg (some (n + 38))) (1 : Int32).toNatClampNeg (some (n + 38))) (2 : Int32).toNatClampNeg (some (n + 38))) (3 : Int32).toNatClampNeg (some (n + 38))) (0 : Int32).toNatClampNeg (some (n + 9))) (1 : Int32).toNatClampNeg (some (n + 9))) (2 : Int32).toNatClampNeg (some (n + 9))) (3 : Int32).toNatClampNeg (some (n + 9)))))) (qV (fun h' => h' = h0 ++ (((frC n ++ T).set 35 (eI 750 g171)).set 36 (eR 2 4 (va_up (va_up (va_up (va_up (va_up (va_up (va_up (va_up (fun _ => none) (0 : Int32).toNatClampNeg (some (n + 38))) (1 : Int32).toNatClampNeg (some (n + 38))) (2 : Int32).toNatClampNeg (some (n + 38))) (3 : Int32).toNatClampNeg (some (n + 38))) (0 : Int32).toNatClampNeg (some (n + 9))) (1 : Int32).toNatClampNeg (some (n + 9))) (2 : Int32).toNatClampNeg (some (n + 9))) (3 : Int32).toNatClampNeg (some (n + 9))))))) := by
  refine PMet.intro (by decide) (Nat.le_of_ble_eq_true rfl) ?_
  intro p e s m args below meth c X hr hlk hnm
  refine r_aload_n X dX9_takeList_0 rfl ?_
  refine r_aload_n X dX9_takeList_1 rfl ?_
  refine a_get (a := 20) X hn fg_X9_9 dX9_takeList_2 rfl rfl ?_
  refine r_aload_n X dX9_takeList_5 rfl ?_
  refine a_get (a := 49) X hn fg_X9_21 dX9_takeList_6 rfl rfl ?_
  refine a_alen (a := 50) (v := 8) X hn dX9_takeList_9 rfl (by decide +kernel) ?_
  refine r_min (v := 0) X ks_X9_25.1.1 dX9_takeList_10 rfl (by decide +kernel) ?_
  refine a_put (a := 49) X hn fp_X9_9 dX9_takeList_13 rfl rfl rfl rfl ?_
  refine r_eq (h' := h0 ++ (((frC n ++ T).set 35 (eI 750 g171)).set 36 (eR 2 4 (va_up (va_up (va_up (va_up (va_up (va_up (va_up (va_up (fun _ => none) (0 : Int32).toNatClampNeg (some (n + 38))) (1 : Int32).toNatClampNeg (some (n + 38))) (2 : Int32).toNatClampNeg (some (n + 38))) (3 : Int32).toNatClampNeg (some (n + 38))) (0 : Int32).toNatClampNeg (some (n + 9))) (1 : Int32).toNatClampNeg (some (n + 9))) (2 : Int32).toNatClampNeg (some (n + 9))) (3 : Int32).toNatClampNeg (some (n + 9)))))) rfl rfl rfl ?_
  refine r_iconst (v := 0) X dX9_takeList_16 (by decide +kernel) ?_
  refine r_istore_n X dX9_takeList_17 (by decide) ?_
  refine r_iload_n X dX9_takeList_18 rfl ?_
  refine r_aload_n X dX9_takeList_19 rfl ?_
  refine a_get (a := 49) X hn fg_X9_9 dX9_takeList_20 rfl rfl ?_
  refine r_icmp_ge_t (tgt := 43) X dX9_takeList_23 rfl (by decide +kernel) ?_
  exact r_ret_v X hr hlk dX9_takeList_43 (Nat.le_of_ble_eq_true rfl) (Nat.le_of_ble_eq_true rfl) ⟨rfl, rfl⟩
set_option maxRecDepth 100000 in
set_option maxHeartbeats 4000000 in
theorem kx287_X9_takeList (l : Launch) (G : PG) (h0 : PH) (n : Nat) (hn : h0.length = n) (T : PH) (g171 : Nat → Int32) : PMet l G yX9_takeList cX9_takeList 3 none 1 0 0 [vR (n + 51), vR (n + 22)] (h0 ++ (((frC n ++ T).set 35 (eI 750 g171)).set 36 (eR 2 4 (va_up (va_up (va_up (va_up (va_up (va_up (va_up (va_up (fun _ => none) (0 : Int32).toNatClampNeg (some (n + 38))) (1 : Int32).toNatClampNeg (some (n + 38))) (2 : Int32).toNatClampNeg (some (n + 38))) (3 : Int32).toNatClampNeg (some (n + 38))) (0 : Int32).toNatClampNeg (some (n + 9))) (1 : Int32).toNatClampNeg (some (n + 9))) (2 : Int32).toNatClampNeg (some (n + 9))) (3 : Int32).toNatClampNeg (some (n + 9)))))) (qV (fun h' => h' = h0 ++ (((frC n ++ T).set 35 (eI 750 g171)).set 36 (eR 2 4 (va_up (va_up (va_up (va_up (va_up (va_up (va_up (va_up (fun _ => none) (0 : Int32).toNatClampNeg (some (n + 38))) (1 : Int32).toNatClampNeg (some (n + 38))) (2 : Int32).toNatClampNeg (some (n + 38))) (3 : Int32).toNatClampNeg (some (n + 38))) (0 : Int32).toNatClampNeg (some (n + 9))) (1 : Int32).toNatClampNeg (some (n + 9))) (2 : Int32).toNatClampNeg (some (n + 9))) (3 : Int32).toNatClampNeg (some (n + 9))))))) := by
  refine PMet.intro (by decide) (Nat.le_of_ble_eq_true rfl) ?_
  intro p e s m args below meth c X hr hlk hnm
  refine r_aload_n X dX9_takeList_0 rfl ?_
  refine r_aload_n X dX9_takeList_1 rfl ?_
  refine a_get (a := 22) X hn fg_X9_9 dX9_takeList_2 rfl rfl ?_
  refine r_aload_n X dX9_takeList_5 rfl ?_
  refine a_get (a := 51) X hn fg_X9_21 dX9_takeList_6 rfl rfl ?_
  refine a_alen (a := 52) (v := 8) X hn dX9_takeList_9 rfl (by decide +kernel) ?_
  refine r_min (v := 0) X ks_X9_25.1.1 dX9_takeList_10 rfl (by decide +kernel) ?_
  refine a_put (a := 51) X hn fp_X9_9 dX9_takeList_13 rfl rfl rfl rfl ?_
  refine r_eq (h' := h0 ++ (((frC n ++ T).set 35 (eI 750 g171)).set 36 (eR 2 4 (va_up (va_up (va_up (va_up (va_up (va_up (va_up (va_up (fun _ => none) (0 : Int32).toNatClampNeg (some (n + 38))) (1 : Int32).toNatClampNeg (some (n + 38))) (2 : Int32).toNatClampNeg (some (n + 38))) (3 : Int32).toNatClampNeg (some (n + 38))) (0 : Int32).toNatClampNeg (some (n + 9))) (1 : Int32).toNatClampNeg (some (n + 9))) (2 : Int32).toNatClampNeg (some (n + 9))) (3 : Int32).toNatClampNeg (some (n + 9)))))) rfl rfl rfl ?_
  refine r_iconst (v := 0) X dX9_takeList_16 (by decide +kernel) ?_
  refine r_istore_n X dX9_takeList_17 (by decide) ?_
  refine r_iload_n X dX9_takeList_18 rfl ?_
  refine r_aload_n X dX9_takeList_19 rfl ?_
  refine a_get (a := 51) X hn fg_X9_9 dX9_takeList_20 rfl rfl ?_
  refine r_icmp_ge_t (tgt := 43) X dX9_takeList_23 rfl (by decide +kernel) ?_
  exact r_ret_v X hr hlk dX9_takeList_43 (Nat.le_of_ble_eq_true rfl) (Nat.le_of_ble_eq_true rfl) ⟨rfl, rfl⟩
set_option maxRecDepth 100000 in
set_option maxHeartbeats 4000000 in
theorem kx288_X9_takeList (l : Launch) (G : PG) (h0 : PH) (n : Nat) (hn : h0.length = n) (T : PH) (g171 : Nat → Int32) : PMet l G yX9_takeList cX9_takeList 3 none 1 0 0 [vR (n + 53), vR (n + 24)] (h0 ++ (((frC n ++ T).set 35 (eI 750 g171)).set 36 (eR 2 4 (va_up (va_up (va_up (va_up (va_up (va_up (va_up (va_up (fun _ => none) (0 : Int32).toNatClampNeg (some (n + 38))) (1 : Int32).toNatClampNeg (some (n + 38))) (2 : Int32).toNatClampNeg (some (n + 38))) (3 : Int32).toNatClampNeg (some (n + 38))) (0 : Int32).toNatClampNeg (some (n + 9))) (1 : Int32).toNatClampNeg (some (n + 9))) (2 : Int32).toNatClampNeg (some (n + 9))) (3 : Int32).toNatClampNeg (some (n + 9)))))) (qV (fun h' => h' = h0 ++ (((frC n ++ T).set 35 (eI 750 g171)).set 36 (eR 2 4 (va_up (va_up (va_up (va_up (va_up (va_up (va_up (va_up (fun _ => none) (0 : Int32).toNatClampNeg (some (n + 38))) (1 : Int32).toNatClampNeg (some (n + 38))) (2 : Int32).toNatClampNeg (some (n + 38))) (3 : Int32).toNatClampNeg (some (n + 38))) (0 : Int32).toNatClampNeg (some (n + 9))) (1 : Int32).toNatClampNeg (some (n + 9))) (2 : Int32).toNatClampNeg (some (n + 9))) (3 : Int32).toNatClampNeg (some (n + 9))))))) := by
  refine PMet.intro (by decide) (Nat.le_of_ble_eq_true rfl) ?_
  intro p e s m args below meth c X hr hlk hnm
  refine r_aload_n X dX9_takeList_0 rfl ?_
  refine r_aload_n X dX9_takeList_1 rfl ?_
  refine a_get (a := 24) X hn fg_X9_9 dX9_takeList_2 rfl rfl ?_
  refine r_aload_n X dX9_takeList_5 rfl ?_
  refine a_get (a := 53) X hn fg_X9_21 dX9_takeList_6 rfl rfl ?_
  refine a_alen (a := 54) (v := 12) X hn dX9_takeList_9 rfl (by decide +kernel) ?_
  refine r_min (v := 0) X ks_X9_25.1.1 dX9_takeList_10 rfl (by decide +kernel) ?_
  refine a_put (a := 53) X hn fp_X9_9 dX9_takeList_13 rfl rfl rfl rfl ?_
  refine r_eq (h' := h0 ++ (((frC n ++ T).set 35 (eI 750 g171)).set 36 (eR 2 4 (va_up (va_up (va_up (va_up (va_up (va_up (va_up (va_up (fun _ => none) (0 : Int32).toNatClampNeg (some (n + 38))) (1 : Int32).toNatClampNeg (some (n + 38))) (2 : Int32).toNatClampNeg (some (n + 38))) (3 : Int32).toNatClampNeg (some (n + 38))) (0 : Int32).toNatClampNeg (some (n + 9))) (1 : Int32).toNatClampNeg (some (n + 9))) (2 : Int32).toNatClampNeg (some (n + 9))) (3 : Int32).toNatClampNeg (some (n + 9)))))) rfl rfl rfl ?_
  refine r_iconst (v := 0) X dX9_takeList_16 (by decide +kernel) ?_
  refine r_istore_n X dX9_takeList_17 (by decide) ?_
  refine r_iload_n X dX9_takeList_18 rfl ?_
  refine r_aload_n X dX9_takeList_19 rfl ?_
  refine a_get (a := 53) X hn fg_X9_9 dX9_takeList_20 rfl rfl ?_
  refine r_icmp_ge_t (tgt := 43) X dX9_takeList_23 rfl (by decide +kernel) ?_
  exact r_ret_v X hr hlk dX9_takeList_43 (Nat.le_of_ble_eq_true rfl) (Nat.le_of_ble_eq_true rfl) ⟨rfl, rfl⟩
set_option maxRecDepth 100000 in
set_option maxHeartbeats 4000000 in
theorem kx289_X9_takeList (l : Launch) (G : PG) (h0 : PH) (n : Nat) (hn : h0.length = n) (T : PH) (g171 : Nat → Int32) : PMet l G yX9_takeList cX9_takeList 3 none 1 0 0 [vR (n + 55), vR (n + 26)] (h0 ++ (((frC n ++ T).set 35 (eI 750 g171)).set 36 (eR 2 4 (va_up (va_up (va_up (va_up (va_up (va_up (va_up (va_up (fun _ => none) (0 : Int32).toNatClampNeg (some (n + 38))) (1 : Int32).toNatClampNeg (some (n + 38))) (2 : Int32).toNatClampNeg (some (n + 38))) (3 : Int32).toNatClampNeg (some (n + 38))) (0 : Int32).toNatClampNeg (some (n + 9))) (1 : Int32).toNatClampNeg (some (n + 9))) (2 : Int32).toNatClampNeg (some (n + 9))) (3 : Int32).toNatClampNeg (some (n + 9)))))) (qV (fun h' => h' = h0 ++ (((frC n ++ T).set 35 (eI 750 g171)).set 36 (eR 2 4 (va_up (va_up (va_up (va_up (va_up (va_up (va_up (va_up (fun _ => none) (0 : Int32).toNatClampNeg (some (n + 38))) (1 : Int32).toNatClampNeg (some (n + 38))) (2 : Int32).toNatClampNeg (some (n + 38))) (3 : Int32).toNatClampNeg (some (n + 38))) (0 : Int32).toNatClampNeg (some (n + 9))) (1 : Int32).toNatClampNeg (some (n + 9))) (2 : Int32).toNatClampNeg (some (n + 9))) (3 : Int32).toNatClampNeg (some (n + 9))))))) := by
  refine PMet.intro (by decide) (Nat.le_of_ble_eq_true rfl) ?_
  intro p e s m args below meth c X hr hlk hnm
  refine r_aload_n X dX9_takeList_0 rfl ?_
  refine r_aload_n X dX9_takeList_1 rfl ?_
  refine a_get (a := 26) X hn fg_X9_9 dX9_takeList_2 rfl rfl ?_
  refine r_aload_n X dX9_takeList_5 rfl ?_
  refine a_get (a := 55) X hn fg_X9_21 dX9_takeList_6 rfl rfl ?_
  refine a_alen (a := 56) (v := 12) X hn dX9_takeList_9 rfl (by decide +kernel) ?_
  refine r_min (v := 0) X ks_X9_25.1.1 dX9_takeList_10 rfl (by decide +kernel) ?_
  refine a_put (a := 55) X hn fp_X9_9 dX9_takeList_13 rfl rfl rfl rfl ?_
  refine r_eq (h' := h0 ++ (((frC n ++ T).set 35 (eI 750 g171)).set 36 (eR 2 4 (va_up (va_up (va_up (va_up (va_up (va_up (va_up (va_up (fun _ => none) (0 : Int32).toNatClampNeg (some (n + 38))) (1 : Int32).toNatClampNeg (some (n + 38))) (2 : Int32).toNatClampNeg (some (n + 38))) (3 : Int32).toNatClampNeg (some (n + 38))) (0 : Int32).toNatClampNeg (some (n + 9))) (1 : Int32).toNatClampNeg (some (n + 9))) (2 : Int32).toNatClampNeg (some (n + 9))) (3 : Int32).toNatClampNeg (some (n + 9)))))) rfl rfl rfl ?_
  refine r_iconst (v := 0) X dX9_takeList_16 (by decide +kernel) ?_
  refine r_istore_n X dX9_takeList_17 (by decide) ?_
  refine r_iload_n X dX9_takeList_18 rfl ?_
  refine r_aload_n X dX9_takeList_19 rfl ?_
  refine a_get (a := 55) X hn fg_X9_9 dX9_takeList_20 rfl rfl ?_
  refine r_icmp_ge_t (tgt := 43) X dX9_takeList_23 rfl (by decide +kernel) ?_
  exact r_ret_v X hr hlk dX9_takeList_43 (Nat.le_of_ble_eq_true rfl) (Nat.le_of_ble_eq_true rfl) ⟨rfl, rfl⟩
set_option maxRecDepth 100000 in
set_option maxHeartbeats 4000000 in
theorem kx290_X9_takeList (l : Launch) (G : PG) (h0 : PH) (n : Nat) (hn : h0.length = n) (T : PH) (g171 : Nat → Int32) : PMet l G yX9_takeList cX9_takeList 3 none 1 0 0 [vR (n + 57), vR (n + 28)] (h0 ++ (((frC n ++ T).set 35 (eI 750 g171)).set 36 (eR 2 4 (va_up (va_up (va_up (va_up (va_up (va_up (va_up (va_up (fun _ => none) (0 : Int32).toNatClampNeg (some (n + 38))) (1 : Int32).toNatClampNeg (some (n + 38))) (2 : Int32).toNatClampNeg (some (n + 38))) (3 : Int32).toNatClampNeg (some (n + 38))) (0 : Int32).toNatClampNeg (some (n + 9))) (1 : Int32).toNatClampNeg (some (n + 9))) (2 : Int32).toNatClampNeg (some (n + 9))) (3 : Int32).toNatClampNeg (some (n + 9)))))) (qV (fun h' => h' = h0 ++ (((frC n ++ T).set 35 (eI 750 g171)).set 36 (eR 2 4 (va_up (va_up (va_up (va_up (va_up (va_up (va_up (va_up (fun _ => none) (0 : Int32).toNatClampNeg (some (n + 38))) (1 : Int32).toNatClampNeg (some (n + 38))) (2 : Int32).toNatClampNeg (some (n + 38))) (3 : Int32).toNatClampNeg (some (n + 38))) (0 : Int32).toNatClampNeg (some (n + 9))) (1 : Int32).toNatClampNeg (some (n + 9))) (2 : Int32).toNatClampNeg (some (n + 9))) (3 : Int32).toNatClampNeg (some (n + 9))))))) := by
  refine PMet.intro (by decide) (Nat.le_of_ble_eq_true rfl) ?_
  intro p e s m args below meth c X hr hlk hnm
  refine r_aload_n X dX9_takeList_0 rfl ?_
  refine r_aload_n X dX9_takeList_1 rfl ?_
  refine a_get (a := 28) X hn fg_X9_9 dX9_takeList_2 rfl rfl ?_
  refine r_aload_n X dX9_takeList_5 rfl ?_
  refine a_get (a := 57) X hn fg_X9_21 dX9_takeList_6 rfl rfl ?_
  refine a_alen (a := 58) (v := 12) X hn dX9_takeList_9 rfl (by decide +kernel) ?_
  refine r_min (v := 0) X ks_X9_25.1.1 dX9_takeList_10 rfl (by decide +kernel) ?_
  refine a_put (a := 57) X hn fp_X9_9 dX9_takeList_13 rfl rfl rfl rfl ?_
  refine r_eq (h' := h0 ++ (((frC n ++ T).set 35 (eI 750 g171)).set 36 (eR 2 4 (va_up (va_up (va_up (va_up (va_up (va_up (va_up (va_up (fun _ => none) (0 : Int32).toNatClampNeg (some (n + 38))) (1 : Int32).toNatClampNeg (some (n + 38))) (2 : Int32).toNatClampNeg (some (n + 38))) (3 : Int32).toNatClampNeg (some (n + 38))) (0 : Int32).toNatClampNeg (some (n + 9))) (1 : Int32).toNatClampNeg (some (n + 9))) (2 : Int32).toNatClampNeg (some (n + 9))) (3 : Int32).toNatClampNeg (some (n + 9)))))) rfl rfl rfl ?_
  refine r_iconst (v := 0) X dX9_takeList_16 (by decide +kernel) ?_
  refine r_istore_n X dX9_takeList_17 (by decide) ?_
  refine r_iload_n X dX9_takeList_18 rfl ?_
  refine r_aload_n X dX9_takeList_19 rfl ?_
  refine a_get (a := 57) X hn fg_X9_9 dX9_takeList_20 rfl rfl ?_
  refine r_icmp_ge_t (tgt := 43) X dX9_takeList_23 rfl (by decide +kernel) ?_
  exact r_ret_v X hr hlk dX9_takeList_43 (Nat.le_of_ble_eq_true rfl) (Nat.le_of_ble_eq_true rfl) ⟨rfl, rfl⟩
set_option maxRecDepth 100000 in
set_option maxHeartbeats 4000000 in
theorem kx291_X10_takeAll (l : Launch) (G : PG) (h0 : PH) (n : Nat) (hn : h0.length = n) (T : PH) : PMet l G yX10_takeAll cX10_takeAll 3 none 2 0 0 [vR (n + 30), vR (n + 1)] (h0 ++ (frC n ++ T)) (qV (fun h' => ∃ g171 : Nat → Int32, h' = h0 ++ (((frC n ++ T).set 35 (eI 750 g171)).set 36 (eR 2 4 (va_up (va_up (va_up (va_up (va_up (va_up (va_up (va_up (fun _ => none) (0 : Int32).toNatClampNeg (some (n + 38))) (1 : Int32).toNatClampNeg (some (n + 38))) (2 : Int32).toNatClampNeg (some (n + 38))) (3 : Int32).toNatClampNeg (some (n + 38))) (0 : Int32).toNatClampNeg (some (n + 9))) (1 : Int32).toNatClampNeg (some (n + 9))) (2 : Int32).toNatClampNeg (some (n + 9))) (3 : Int32).toNatClampNeg (some (n + 9))))))) := by
  refine PMet.intro (by decide) (Nat.le_of_ble_eq_true rfl) ?_
  intro p e s m args below meth c X hr hlk hnm
  refine r_aload_n X dX10_takeAll_0 rfl ?_
  refine a_get (a := 30) X hn fg_X10_12 dX10_takeAll_1 rfl rfl ?_
  refine r_aload_n X dX10_takeAll_4 rfl ?_
  refine a_get (a := 1) X hn fg_X10_12 dX10_takeAll_5 rfl rfl ?_
  refine r_V1v X kv_X10_47 dX10_takeAll_8 (apG (k := 31) hn rfl) rfl (kx280_X0_takeOver l G _ _ hn _) rfl (fun h' hΨ => ?_)
  obtain rfl := hΨ
  refine r_aload_n X dX10_takeAll_11 rfl ?_
  refine a_get (a := 30) X hn fg_X10_21 dX10_takeAll_12 rfl rfl ?_
  refine r_aload_n X dX10_takeAll_15 rfl ?_
  refine a_get (a := 1) X hn fg_X10_21 dX10_takeAll_16 rfl rfl ?_
  refine r_V1v X kv_X10_51 dX10_takeAll_19 (apG (k := 34) hn rfl) rfl (kx281_X3_takePages l G _ _ hn _) rfl (fun h' hΨ => ?_)
  obtain ⟨g171, rfl⟩ := hΨ
  refine r_iconst (v := 0) X dX10_takeAll_22 (by decide +kernel) ?_
  refine r_istore_n X dX10_takeAll_23 (by decide) ?_
  refine r_iload_n X dX10_takeAll_24 rfl ?_
  refine r_iconst (v := 4) X dX10_takeAll_25 (by decide +kernel) ?_
  refine r_icmp_ge_f (tgt := 47) X dX10_takeAll_26 rfl (by decide +kernel) ?_
  refine r_aload_n X dX10_takeAll_29 rfl ?_
  refine a_get (a := 30) X hn fg_X10_27 dX10_takeAll_30 rfl rfl ?_
  refine r_iload_n X dX10_takeAll_33 rfl ?_
  refine r_aload_n X dX10_takeAll_34 rfl ?_
  refine a_get (a := 1) X hn fg_X10_27 dX10_takeAll_35 rfl rfl ?_
  refine r_iload_n X dX10_takeAll_38 rfl ?_
  refine a_aald (a := 7) (v := vR (n + 9)) (C := RX8) X hn rfl dX10_takeAll_39 rfl (inK (by decide +kernel)) rfl ?_
  refine a_aast (a := 36) (b := 9) (C := RX8) X hn rfl rfl dX10_takeAll_40 rfl rfl (inK (by decide +kernel)) ?_
  refine r_iinc (v := 1) X dX10_takeAll_41 rfl (by decide +kernel) (by decide) ?_
  refine r_goto (tgt := 24) X dX10_takeAll_44 rfl ?_
  refine r_iload_n X dX10_takeAll_24 rfl ?_
  refine r_iconst (v := 4) X dX10_takeAll_25 (by decide +kernel) ?_
  refine r_icmp_ge_f (tgt := 47) X dX10_takeAll_26 rfl (by decide +kernel) ?_
  refine r_aload_n X dX10_takeAll_29 rfl ?_
  refine a_get (a := 30) X hn fg_X10_27 dX10_takeAll_30 rfl rfl ?_
  refine r_iload_n X dX10_takeAll_33 rfl ?_
  refine r_aload_n X dX10_takeAll_34 rfl ?_
  refine a_get (a := 1) X hn fg_X10_27 dX10_takeAll_35 rfl rfl ?_
  refine r_iload_n X dX10_takeAll_38 rfl ?_
  refine a_aald (a := 7) (v := vR (n + 9)) (C := RX8) X hn rfl dX10_takeAll_39 rfl (inK (by decide +kernel)) rfl ?_
  refine a_aast (a := 36) (b := 9) (C := RX8) X hn rfl rfl dX10_takeAll_40 rfl rfl (inK (by decide +kernel)) ?_
  refine r_eq (h' := h0 ++ (((frC n ++ T).set 35 (eI 750 g171)).set 36 (eR 2 4 (va_up (va_up (va_up (va_up (va_up (va_up (fun _ => none) (0 : Int32).toNatClampNeg (some (n + 38))) (1 : Int32).toNatClampNeg (some (n + 38))) (2 : Int32).toNatClampNeg (some (n + 38))) (3 : Int32).toNatClampNeg (some (n + 38))) (0 : Int32).toNatClampNeg (some (n + 9))) (1 : Int32).toNatClampNeg (some (n + 9)))))) rfl rfl rfl ?_
  refine r_iinc (v := 2) X dX10_takeAll_41 rfl (by decide +kernel) (by decide) ?_
  refine r_goto (tgt := 24) X dX10_takeAll_44 rfl ?_
  refine r_iload_n X dX10_takeAll_24 rfl ?_
  refine r_iconst (v := 4) X dX10_takeAll_25 (by decide +kernel) ?_
  refine r_icmp_ge_f (tgt := 47) X dX10_takeAll_26 rfl (by decide +kernel) ?_
  refine r_aload_n X dX10_takeAll_29 rfl ?_
  refine a_get (a := 30) X hn fg_X10_27 dX10_takeAll_30 rfl rfl ?_
  refine r_iload_n X dX10_takeAll_33 rfl ?_
  refine r_aload_n X dX10_takeAll_34 rfl ?_
  refine a_get (a := 1) X hn fg_X10_27 dX10_takeAll_35 rfl rfl ?_
  refine r_iload_n X dX10_takeAll_38 rfl ?_
  refine a_aald (a := 7) (v := vR (n + 9)) (C := RX8) X hn rfl dX10_takeAll_39 rfl (inK (by decide +kernel)) rfl ?_
  refine a_aast (a := 36) (b := 9) (C := RX8) X hn rfl rfl dX10_takeAll_40 rfl rfl (inK (by decide +kernel)) ?_
  refine r_eq (h' := h0 ++ (((frC n ++ T).set 35 (eI 750 g171)).set 36 (eR 2 4 (va_up (va_up (va_up (va_up (va_up (va_up (va_up (fun _ => none) (0 : Int32).toNatClampNeg (some (n + 38))) (1 : Int32).toNatClampNeg (some (n + 38))) (2 : Int32).toNatClampNeg (some (n + 38))) (3 : Int32).toNatClampNeg (some (n + 38))) (0 : Int32).toNatClampNeg (some (n + 9))) (1 : Int32).toNatClampNeg (some (n + 9))) (2 : Int32).toNatClampNeg (some (n + 9)))))) rfl rfl rfl ?_
  refine r_iinc (v := 3) X dX10_takeAll_41 rfl (by decide +kernel) (by decide) ?_
  refine r_goto (tgt := 24) X dX10_takeAll_44 rfl ?_
  refine r_iload_n X dX10_takeAll_24 rfl ?_
  refine r_iconst (v := 4) X dX10_takeAll_25 (by decide +kernel) ?_
  refine r_icmp_ge_f (tgt := 47) X dX10_takeAll_26 rfl (by decide +kernel) ?_
  refine r_aload_n X dX10_takeAll_29 rfl ?_
  refine a_get (a := 30) X hn fg_X10_27 dX10_takeAll_30 rfl rfl ?_
  refine r_iload_n X dX10_takeAll_33 rfl ?_
  refine r_aload_n X dX10_takeAll_34 rfl ?_
  refine a_get (a := 1) X hn fg_X10_27 dX10_takeAll_35 rfl rfl ?_
  refine r_iload_n X dX10_takeAll_38 rfl ?_
  refine a_aald (a := 7) (v := vR (n + 9)) (C := RX8) X hn rfl dX10_takeAll_39 rfl (inK (by decide +kernel)) rfl ?_
  refine a_aast (a := 36) (b := 9) (C := RX8) X hn rfl rfl dX10_takeAll_40 rfl rfl (inK (by decide +kernel)) ?_
  refine r_eq (h' := h0 ++ (((frC n ++ T).set 35 (eI 750 g171)).set 36 (eR 2 4 (va_up (va_up (va_up (va_up (va_up (va_up (va_up (va_up (fun _ => none) (0 : Int32).toNatClampNeg (some (n + 38))) (1 : Int32).toNatClampNeg (some (n + 38))) (2 : Int32).toNatClampNeg (some (n + 38))) (3 : Int32).toNatClampNeg (some (n + 38))) (0 : Int32).toNatClampNeg (some (n + 9))) (1 : Int32).toNatClampNeg (some (n + 9))) (2 : Int32).toNatClampNeg (some (n + 9))) (3 : Int32).toNatClampNeg (some (n + 9)))))) rfl rfl rfl ?_
  refine r_iinc (v := 4) X dX10_takeAll_41 rfl (by decide +kernel) (by decide) ?_
  refine r_eq (ls' := [some (vR (n + 30)), some (vR (n + 1)), some (vI 4)]) rfl rfl rfl ?_
  refine r_goto (tgt := 24) X dX10_takeAll_44 rfl ?_
  refine r_iload_n X dX10_takeAll_24 rfl ?_
  refine r_iconst (v := 4) X dX10_takeAll_25 (by decide +kernel) ?_
  refine r_icmp_ge_t (tgt := 47) X dX10_takeAll_26 rfl (by decide +kernel) ?_
  refine r_iconst (v := 0) X dX10_takeAll_47 (by decide +kernel) ?_
  refine r_istore_n X dX10_takeAll_48 (by decide) ?_
  refine r_iload_n X dX10_takeAll_49 rfl ?_
  refine r_bipush (v := 9) X dX10_takeAll_50 (by decide +kernel) ?_
  refine r_icmp_ge_f (tgt := 76) X dX10_takeAll_52 rfl (by decide +kernel) ?_
  refine r_aload_n X dX10_takeAll_55 rfl ?_
  refine a_get (a := 30) X hn fg_X10_33 dX10_takeAll_56 rfl rfl ?_
  refine r_iload_n X dX10_takeAll_59 rfl ?_
  refine a_aald (a := 37) (v := vR (n + 41)) (C := RX9) X hn rfl dX10_takeAll_60 rfl (inK (by decide +kernel)) rfl ?_
  refine r_aload_n X dX10_takeAll_61 rfl ?_
  refine a_get (a := 1) X hn fg_X10_33 dX10_takeAll_62 rfl rfl ?_
  refine r_iload_n X dX10_takeAll_65 rfl ?_
  refine a_aald (a := 8) (v := vR (n + 12)) (C := RX9) X hn rfl dX10_takeAll_66 rfl (inK (by decide +kernel)) rfl ?_
  refine r_V1v X kv_X10_55 dX10_takeAll_67 (apG (k := 41) hn rfl) rfl (kx282_X9_takeList l G _ _ hn _ _) rfl (fun h' hΨ => ?_)
  obtain rfl := hΨ
  refine r_iinc (v := 1) X dX10_takeAll_70 rfl (by decide +kernel) (by decide) ?_
  refine r_goto (tgt := 49) X dX10_takeAll_73 rfl ?_
  refine r_iload_n X dX10_takeAll_49 rfl ?_
  refine r_bipush (v := 9) X dX10_takeAll_50 (by decide +kernel) ?_
  refine r_icmp_ge_f (tgt := 76) X dX10_takeAll_52 rfl (by decide +kernel) ?_
  refine r_aload_n X dX10_takeAll_55 rfl ?_
  refine a_get (a := 30) X hn fg_X10_33 dX10_takeAll_56 rfl rfl ?_
  refine r_iload_n X dX10_takeAll_59 rfl ?_
  refine a_aald (a := 37) (v := vR (n + 43)) (C := RX9) X hn rfl dX10_takeAll_60 rfl (inK (by decide +kernel)) rfl ?_
  refine r_aload_n X dX10_takeAll_61 rfl ?_
  refine a_get (a := 1) X hn fg_X10_33 dX10_takeAll_62 rfl rfl ?_
  refine r_iload_n X dX10_takeAll_65 rfl ?_
  refine a_aald (a := 8) (v := vR (n + 14)) (C := RX9) X hn rfl dX10_takeAll_66 rfl (inK (by decide +kernel)) rfl ?_
  refine r_V1v X kv_X10_55 dX10_takeAll_67 (apG (k := 43) hn rfl) rfl (kx283_X9_takeList l G _ _ hn _ _) rfl (fun h' hΨ => ?_)
  obtain rfl := hΨ
  refine r_iinc (v := 2) X dX10_takeAll_70 rfl (by decide +kernel) (by decide) ?_
  refine r_goto (tgt := 49) X dX10_takeAll_73 rfl ?_
  refine r_iload_n X dX10_takeAll_49 rfl ?_
  refine r_bipush (v := 9) X dX10_takeAll_50 (by decide +kernel) ?_
  refine r_icmp_ge_f (tgt := 76) X dX10_takeAll_52 rfl (by decide +kernel) ?_
  refine r_aload_n X dX10_takeAll_55 rfl ?_
  refine a_get (a := 30) X hn fg_X10_33 dX10_takeAll_56 rfl rfl ?_
  refine r_iload_n X dX10_takeAll_59 rfl ?_
  refine a_aald (a := 37) (v := vR (n + 45)) (C := RX9) X hn rfl dX10_takeAll_60 rfl (inK (by decide +kernel)) rfl ?_
  refine r_aload_n X dX10_takeAll_61 rfl ?_
  refine a_get (a := 1) X hn fg_X10_33 dX10_takeAll_62 rfl rfl ?_
  refine r_iload_n X dX10_takeAll_65 rfl ?_
  refine a_aald (a := 8) (v := vR (n + 16)) (C := RX9) X hn rfl dX10_takeAll_66 rfl (inK (by decide +kernel)) rfl ?_
  refine r_V1v X kv_X10_55 dX10_takeAll_67 (apG (k := 45) hn rfl) rfl (kx284_X9_takeList l G _ _ hn _ _) rfl (fun h' hΨ => ?_)
  obtain rfl := hΨ
  refine r_iinc (v := 3) X dX10_takeAll_70 rfl (by decide +kernel) (by decide) ?_
  refine r_goto (tgt := 49) X dX10_takeAll_73 rfl ?_
  refine r_iload_n X dX10_takeAll_49 rfl ?_
  refine r_bipush (v := 9) X dX10_takeAll_50 (by decide +kernel) ?_
  refine r_icmp_ge_f (tgt := 76) X dX10_takeAll_52 rfl (by decide +kernel) ?_
  refine r_aload_n X dX10_takeAll_55 rfl ?_
  refine a_get (a := 30) X hn fg_X10_33 dX10_takeAll_56 rfl rfl ?_
  refine r_iload_n X dX10_takeAll_59 rfl ?_
  refine a_aald (a := 37) (v := vR (n + 47)) (C := RX9) X hn rfl dX10_takeAll_60 rfl (inK (by decide +kernel)) rfl ?_
  refine r_aload_n X dX10_takeAll_61 rfl ?_
  refine a_get (a := 1) X hn fg_X10_33 dX10_takeAll_62 rfl rfl ?_
  refine r_iload_n X dX10_takeAll_65 rfl ?_
  refine a_aald (a := 8) (v := vR (n + 18)) (C := RX9) X hn rfl dX10_takeAll_66 rfl (inK (by decide +kernel)) rfl ?_
  refine r_V1v X kv_X10_55 dX10_takeAll_67 (apG (k := 47) hn rfl) rfl (kx285_X9_takeList l G _ _ hn _ _) rfl (fun h' hΨ => ?_)
  obtain rfl := hΨ
  refine r_iinc (v := 4) X dX10_takeAll_70 rfl (by decide +kernel) (by decide) ?_
  refine r_eq (ls' := [some (vR (n + 30)), some (vR (n + 1)), some (vI 4)]) rfl rfl rfl ?_
  refine r_goto (tgt := 49) X dX10_takeAll_73 rfl ?_
  refine r_iload_n X dX10_takeAll_49 rfl ?_
  refine r_bipush (v := 9) X dX10_takeAll_50 (by decide +kernel) ?_
  refine r_icmp_ge_f (tgt := 76) X dX10_takeAll_52 rfl (by decide +kernel) ?_
  refine r_aload_n X dX10_takeAll_55 rfl ?_
  refine a_get (a := 30) X hn fg_X10_33 dX10_takeAll_56 rfl rfl ?_
  refine r_iload_n X dX10_takeAll_59 rfl ?_
  refine a_aald (a := 37) (v := vR (n + 49)) (C := RX9) X hn rfl dX10_takeAll_60 rfl (inK (by decide +kernel)) rfl ?_
  refine r_aload_n X dX10_takeAll_61 rfl ?_
  refine a_get (a := 1) X hn fg_X10_33 dX10_takeAll_62 rfl rfl ?_
  refine r_iload_n X dX10_takeAll_65 rfl ?_
  refine a_aald (a := 8) (v := vR (n + 20)) (C := RX9) X hn rfl dX10_takeAll_66 rfl (inK (by decide +kernel)) rfl ?_
  refine r_V1v X kv_X10_55 dX10_takeAll_67 (apG (k := 49) hn rfl) rfl (kx286_X9_takeList l G _ _ hn _ _) rfl (fun h' hΨ => ?_)
  obtain rfl := hΨ
  refine r_iinc (v := 5) X dX10_takeAll_70 rfl (by decide +kernel) (by decide) ?_
  refine r_goto (tgt := 49) X dX10_takeAll_73 rfl ?_
  refine r_iload_n X dX10_takeAll_49 rfl ?_
  refine r_bipush (v := 9) X dX10_takeAll_50 (by decide +kernel) ?_
  refine r_icmp_ge_f (tgt := 76) X dX10_takeAll_52 rfl (by decide +kernel) ?_
  refine r_aload_n X dX10_takeAll_55 rfl ?_
  refine a_get (a := 30) X hn fg_X10_33 dX10_takeAll_56 rfl rfl ?_
  refine r_iload_n X dX10_takeAll_59 rfl ?_
  refine a_aald (a := 37) (v := vR (n + 51)) (C := RX9) X hn rfl dX10_takeAll_60 rfl (inK (by decide +kernel)) rfl ?_
  refine r_aload_n X dX10_takeAll_61 rfl ?_
  refine a_get (a := 1) X hn fg_X10_33 dX10_takeAll_62 rfl rfl ?_
  refine r_iload_n X dX10_takeAll_65 rfl ?_
  refine a_aald (a := 8) (v := vR (n + 22)) (C := RX9) X hn rfl dX10_takeAll_66 rfl (inK (by decide +kernel)) rfl ?_
  refine r_V1v X kv_X10_55 dX10_takeAll_67 (apG (k := 51) hn rfl) rfl (kx287_X9_takeList l G _ _ hn _ _) rfl (fun h' hΨ => ?_)
  obtain rfl := hΨ
  refine r_iinc (v := 6) X dX10_takeAll_70 rfl (by decide +kernel) (by decide) ?_
  refine r_goto (tgt := 49) X dX10_takeAll_73 rfl ?_
  refine r_iload_n X dX10_takeAll_49 rfl ?_
  refine r_bipush (v := 9) X dX10_takeAll_50 (by decide +kernel) ?_
  refine r_icmp_ge_f (tgt := 76) X dX10_takeAll_52 rfl (by decide +kernel) ?_
  refine r_aload_n X dX10_takeAll_55 rfl ?_
  refine a_get (a := 30) X hn fg_X10_33 dX10_takeAll_56 rfl rfl ?_
  refine r_iload_n X dX10_takeAll_59 rfl ?_
  refine a_aald (a := 37) (v := vR (n + 53)) (C := RX9) X hn rfl dX10_takeAll_60 rfl (inK (by decide +kernel)) rfl ?_
  refine r_aload_n X dX10_takeAll_61 rfl ?_
  refine a_get (a := 1) X hn fg_X10_33 dX10_takeAll_62 rfl rfl ?_
  refine r_iload_n X dX10_takeAll_65 rfl ?_
  refine a_aald (a := 8) (v := vR (n + 24)) (C := RX9) X hn rfl dX10_takeAll_66 rfl (inK (by decide +kernel)) rfl ?_
  refine r_V1v X kv_X10_55 dX10_takeAll_67 (apG (k := 53) hn rfl) rfl (kx288_X9_takeList l G _ _ hn _ _) rfl (fun h' hΨ => ?_)
  obtain rfl := hΨ
  refine r_iinc (v := 7) X dX10_takeAll_70 rfl (by decide +kernel) (by decide) ?_
  refine r_goto (tgt := 49) X dX10_takeAll_73 rfl ?_
  refine r_iload_n X dX10_takeAll_49 rfl ?_
  refine r_bipush (v := 9) X dX10_takeAll_50 (by decide +kernel) ?_
  refine r_icmp_ge_f (tgt := 76) X dX10_takeAll_52 rfl (by decide +kernel) ?_
  refine r_aload_n X dX10_takeAll_55 rfl ?_
  refine a_get (a := 30) X hn fg_X10_33 dX10_takeAll_56 rfl rfl ?_
  refine r_iload_n X dX10_takeAll_59 rfl ?_
  refine a_aald (a := 37) (v := vR (n + 55)) (C := RX9) X hn rfl dX10_takeAll_60 rfl (inK (by decide +kernel)) rfl ?_
  refine r_aload_n X dX10_takeAll_61 rfl ?_
  refine a_get (a := 1) X hn fg_X10_33 dX10_takeAll_62 rfl rfl ?_
  refine r_iload_n X dX10_takeAll_65 rfl ?_
  refine a_aald (a := 8) (v := vR (n + 26)) (C := RX9) X hn rfl dX10_takeAll_66 rfl (inK (by decide +kernel)) rfl ?_
  refine r_V1v X kv_X10_55 dX10_takeAll_67 (apG (k := 55) hn rfl) rfl (kx289_X9_takeList l G _ _ hn _ _) rfl (fun h' hΨ => ?_)
  obtain rfl := hΨ
  refine r_iinc (v := 8) X dX10_takeAll_70 rfl (by decide +kernel) (by decide) ?_
  refine r_goto (tgt := 49) X dX10_takeAll_73 rfl ?_
  refine r_iload_n X dX10_takeAll_49 rfl ?_
  refine r_bipush (v := 9) X dX10_takeAll_50 (by decide +kernel) ?_
  refine r_icmp_ge_f (tgt := 76) X dX10_takeAll_52 rfl (by decide +kernel) ?_
  refine r_aload_n X dX10_takeAll_55 rfl ?_
  refine a_get (a := 30) X hn fg_X10_33 dX10_takeAll_56 rfl rfl ?_
  refine r_iload_n X dX10_takeAll_59 rfl ?_
  refine a_aald (a := 37) (v := vR (n + 57)) (C := RX9) X hn rfl dX10_takeAll_60 rfl (inK (by decide +kernel)) rfl ?_
  refine r_aload_n X dX10_takeAll_61 rfl ?_
  refine a_get (a := 1) X hn fg_X10_33 dX10_takeAll_62 rfl rfl ?_
  refine r_iload_n X dX10_takeAll_65 rfl ?_
  refine a_aald (a := 8) (v := vR (n + 28)) (C := RX9) X hn rfl dX10_takeAll_66 rfl (inK (by decide +kernel)) rfl ?_
  refine r_V1v X kv_X10_55 dX10_takeAll_67 (apG (k := 57) hn rfl) rfl (kx290_X9_takeList l G _ _ hn _ _) rfl (fun h' hΨ => ?_)
  obtain rfl := hΨ
  refine r_iinc (v := 9) X dX10_takeAll_70 rfl (by decide +kernel) (by decide) ?_
  refine r_eq (ls' := [some (vR (n + 30)), some (vR (n + 1)), some (vI 9)]) rfl rfl rfl ?_
  refine r_goto (tgt := 49) X dX10_takeAll_73 rfl ?_
  refine r_iload_n X dX10_takeAll_49 rfl ?_
  refine r_bipush (v := 9) X dX10_takeAll_50 (by decide +kernel) ?_
  refine r_icmp_ge_t (tgt := 76) X dX10_takeAll_52 rfl (by decide +kernel) ?_
  exact r_ret_v X hr hlk dX10_takeAll_76 (Nat.le_of_ble_eq_true rfl) (Nat.le_of_ble_eq_true rfl) ⟨rfl, ⟨_, rfl⟩⟩
set_option maxRecDepth 100000 in
set_option maxHeartbeats 4000000 in
theorem x_image1 (l : Launch) (G : PG) (h0 : PH) (n : Nat) (hn : h0.length = n) (T : PH) : PMet l G yX11_image cX11_image 2 (some .boolean) 3 0 0 [vR (n + 0), vI 1] (h0 ++ (frC n ++ T)) (qI (fun x h' => x = sp_image1  ∧ kp n 103 T h')) := by
  refine PMet.intro (by decide) (Nat.le_of_ble_eq_true rfl) ?_
  intro p e s m args below meth c X hr hlk hnm
  refine r_iload_n X dX11_image_0 rfl ?_
  refine r_if_eq_f (tgt := 22) X dX11_image_1 rfl (by decide +kernel) ?_
  refine r_aload_n X dX11_image_4 rfl ?_
  refine a_get (a := 0) X hn fg_X11_16 dX11_image_5 rfl rfl ?_
  refine r_aload_n X dX11_image_8 rfl ?_
  refine a_get (a := 0) X hn fg_X11_12 dX11_image_9 rfl rfl ?_
  refine r_V1v X kv_X11_308 dX11_image_12 (apG (k := 30) hn rfl) rfl (kx291_X10_takeAll l G _ _ hn _) rfl (fun h' hΨ => ?_)
  obtain ⟨g172, rfl⟩ := hΨ
  refine r_aload_n X dX11_image_15 rfl ?_
  refine r_iconst (v := 1) X dX11_image_16 (by decide +kernel) ?_
  refine a_put (a := 0) X hn fp_X11_19 dX11_image_17 rfl rfl rfl rfl ?_
  refine r_eq (h' := h0 ++ ((((frC n ++ T).set 0 (eO 11 [vR (n + 1), vR (n + 30), vI 1, vR (n + 59), vR (n + 79), vR (n + 83), vR (n + 95), vR (n + 99), vR (n + 86), vR (n + 89), vR (n + 92)])).set 35 (eI 750 g172)).set 36 (eR 2 4 (va_up (va_up (va_up (va_up (va_up (va_up (va_up (va_up (fun _ => none) (0 : Int32).toNatClampNeg (some (n + 38))) (1 : Int32).toNatClampNeg (some (n + 38))) (2 : Int32).toNatClampNeg (some (n + 38))) (3 : Int32).toNatClampNeg (some (n + 38))) (0 : Int32).toNatClampNeg (some (n + 9))) (1 : Int32).toNatClampNeg (some (n + 9))) (2 : Int32).toNatClampNeg (some (n + 9))) (3 : Int32).toNatClampNeg (some (n + 9)))))) rfl rfl rfl ?_
  refine r_iconst (v := 1) X dX11_image_20 (by decide +kernel) ?_
  exact r_ret_z X hr hlk (Or.inr rfl) dX11_image_21 (Nat.le_of_ble_eq_true rfl) (Nat.le_of_ble_eq_true rfl) ⟨_, rfl, rfl, kp_of hn rfl rfl⟩
