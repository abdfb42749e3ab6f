set_option maxRecDepth 100000 in
set_option maxHeartbeats 4000000 in
theorem kh19_X7_keep (l : Launch) (G : PG) (h0 : PH) (n : Nat) (hn : h0.length = n) (T : PH) (va2_4 va2_5 va2_7 va59_2 : Int32) (va6 : Nat → Int32) (va61 : Nat → Int32) (va62 : Nat → Int32) (va63 : Nat → Int32) (va64 : Nat → Int32) (va65 : Nat → Int32) (va66 : Nat → Int32) (va67 : Nat → Int32) (va68 : Nat → Int32) (va69 : Nat → Int32) (va70 : Nat → Int32) (va71 : Nat → Int32) (va72 : Nat → Int32) (va73 : Nat → Int32) (va74 : Nat → Int32) (va75 : Nat → Int32) (va76 : Nat → Int32) (va77 : Nat → Int32) (va78 : Nat → Int32) (va2_9 : Nat) (hva2_9 : va2_9 ≤ 150) : PMet l G yX7_keep cX7_keep 2 none 2 0 0 [vR (n + 59), vR (n + 2)] (h0 ++ (hga n va6 va2_4 va2_5 va2_7 va2_9 2 va59_2 va61 va62 va63 va64 va65 va66 va67 va68 va69 va70 va71 va72 va73 va74 va75 va76 va77 va78 ++ T)) (qV (fun h' => ∃ g24 g25 : Nat → Int32, h' = h0 ++ (((((hga n va6 va2_4 va2_5 va2_7 va2_9 2 va59_2 va61 va62 va63 va64 va65 va66 va67 va68 va69 va70 va71 va72 va73 va74 va75 va76 va77 va78 ++ T).set 59 (eO 7 [vR (n + 60), vI 3, vI (if (6) < (va59_2 + 1) then (6) else (va59_2 + 1))])).set 67 (eO 0 [vR (n + 68), vR (n + 69), vI 0, vI 0, vI va2_4, vI va2_5, vI 0, vI va2_7, vI 0, vI (nI va2_9)])).set 68 (eI 120 g24)).set 69 (eI 144 g25)))) := by
  refine PMet.intro (by decide) (Nat.le_of_ble_eq_true rfl) ?_
  intro p e s m args below meth c X hr hlk hnm
  refine r_aload_n X dX7_keep_0 rfl ?_
  refine a_get (a := 59) X hn fg_X7_17 dX7_keep_1 rfl rfl ?_
  refine r_if_lt_f (tgt := 16) X dX7_keep_4 rfl (by decide +kernel) ?_
  refine r_aload_n X dX7_keep_7 rfl ?_
  refine a_get (a := 59) X hn fg_X7_17 dX7_keep_8 rfl rfl ?_
  refine r_bipush (v := 6) X dX7_keep_11 (by decide +kernel) ?_
  refine r_icmp_lt_t (tgt := 17) X dX7_keep_13 rfl (by decide +kernel) ?_
  refine r_aload_n X dX7_keep_17 rfl ?_
  refine a_get (a := 59) X hn fg_X7_11 dX7_keep_18 rfl rfl ?_
  refine r_aload_n X dX7_keep_21 rfl ?_
  refine a_get (a := 59) X hn fg_X7_17 dX7_keep_22 rfl rfl ?_
  refine a_aald (a := 60) (v := vR (n + 67)) (C := RX0) X hn rfl dX7_keep_25 rfl (inK (by decide +kernel)) rfl ?_
  refine r_aload_n X dX7_keep_26 rfl ?_
  refine r_V1v X kv_X7_25 dX7_keep_27 (apG (k := 67) hn rfl) rfl (kh18_X0_takeOver l G _ _ hn _ _ _ _ _ _ _ _ _ _ _ _ _ _ _ _ _ _ _ _ _ _ _ _ _ (by omega)) rfl (fun h' hΨ => ?_)
  obtain ⟨g24, g25, rfl⟩ := hΨ
  refine r_aload_n X dX7_keep_30 rfl ?_
  refine r_aload_n X dX7_keep_31 rfl ?_
  refine a_get (a := 59) X hn fg_X7_17 dX7_keep_32 rfl rfl ?_
  refine r_iconst (v := 1) X dX7_keep_35 (by decide +kernel) ?_
  refine r_iaddE (v := 3) X dX7_keep_36 (by decide +kernel) ?_
  refine r_bipush (v := 6) X dX7_keep_37 (by decide +kernel) ?_
  refine r_icmp_ge_f (tgt := 51) X dX7_keep_39 rfl (by decide +kernel) ?_
  refine r_aload_n X dX7_keep_42 rfl ?_
  refine a_get (a := 59) X hn fg_X7_17 dX7_keep_43 rfl rfl ?_
  refine r_iconst (v := 1) X dX7_keep_46 (by decide +kernel) ?_
  refine r_iaddE (v := 3) X dX7_keep_47 (by decide +kernel) ?_
  refine r_goto (tgt := 52) X dX7_keep_48 rfl ?_
  refine a_put (a := 59) X hn fp_X7_17 dX7_keep_52 rfl rfl rfl rfl ?_
  refine r_eq (h' := h0 ++ (((((hga n va6 va2_4 va2_5 va2_7 va2_9 2 va59_2 va61 va62 va63 va64 va65 va66 va67 va68 va69 va70 va71 va72 va73 va74 va75 va76 va77 va78 ++ T).set 59 (eO 7 [vR (n + 60), vI 3, vI va59_2])).set 67 (eO 0 [vR (n + 68), vR (n + 69), vI 0, vI 0, vI va2_4, vI va2_5, vI 0, vI va2_7, vI 0, vI (nI va2_9)])).set 68 (eI 120 g24)).set 69 (eI 144 g25))) rfl rfl rfl ?_
  refine r_aload_n X dX7_keep_55 rfl ?_
  refine r_aload_n X dX7_keep_56 rfl ?_
  refine a_get (a := 59) X hn fg_X7_21 dX7_keep_57 rfl rfl ?_
  refine r_iconst (v := 1) X dX7_keep_60 (by decide +kernel) ?_
  refine r_iadd X dX7_keep_61 ?_
  refine r_bipush (v := 6) X dX7_keep_62 (by decide +kernel) ?_
  refine r_min X ks_X7_29.1.1 dX7_keep_64 rfl rfl ?_
  refine a_put (a := 59) X hn fp_X7_21 dX7_keep_67 rfl rfl rfl rfl ?_
  refine r_eq (h' := h0 ++ (((((hga n va6 va2_4 va2_5 va2_7 va2_9 2 va59_2 va61 va62 va63 va64 va65 va66 va67 va68 va69 va70 va71 va72 va73 va74 va75 va76 va77 va78 ++ T).set 59 (eO 7 [vR (n + 60), vI 3, vI (if (6) < (va59_2 + 1) then (6) else (va59_2 + 1))])).set 67 (eO 0 [vR (n + 68), vR (n + 69), vI 0, vI 0, vI va2_4, vI va2_5, vI 0, vI va2_7, vI 0, vI (nI va2_9)])).set 68 (eI 120 g24)).set 69 (eI 144 g25))) rfl rfl rfl ?_
  exact r_ret_v X hr hlk dX7_keep_70 (Nat.le_of_ble_eq_true rfl) (Nat.le_of_ble_eq_true rfl) ⟨rfl, ⟨_, _, rfl⟩⟩
set_option maxRecDepth 100000 in
set_option maxHeartbeats 4000000 in
theorem kh20_X0_takeOver (l : Launch) (G : PG) (h0 : PH) (n : Nat) (hn : h0.length = n) (T : PH) (va2_4 va2_5 va2_7 va59_2 : Int32) (va6 : Nat → Int32) (va61 : Nat → Int32) (va62 : Nat → Int32) (va63 : Nat → Int32) (va64 : Nat → Int32) (va65 : Nat → Int32) (va66 : Nat → Int32) (va67 : Nat → Int32) (va68 : Nat → Int32) (va69 : Nat → Int32) (va70 : Nat → Int32) (va71 : Nat → Int32) (va72 : Nat → Int32) (va73 : Nat → Int32) (va74 : Nat → Int32) (va75 : Nat → Int32) (va76 : Nat → Int32) (va77 : Nat → Int32) (va78 : Nat → Int32) (va2_9 : Nat) (hva2_9 : va2_9 ≤ 150) : PMet l G yX0_takeOver cX0_takeOver 2 none 1 0 0 [vR (n + 70), vR (n + 2)] (h0 ++ (hga n va6 va2_4 va2_5 va2_7 va2_9 3 va59_2 va61 va62 va63 va64 va65 va66 va67 va68 va69 va70 va71 va72 va73 va74 va75 va76 va77 va78 ++ T)) (qV (fun h' => ∃ g28 g29 : Nat → Int32, h' = h0 ++ ((((hga n va6 va2_4 va2_5 va2_7 va2_9 3 va59_2 va61 va62 va63 va64 va65 va66 va67 va68 va69 va70 va71 va72 va73 va74 va75 va76 va77 va78 ++ T).set 70 (eO 0 [vR (n + 71), vR (n + 72), vI 0, vI 0, vI va2_4, vI va2_5, vI 0, vI va2_7, vI 0, vI (nI va2_9)])).set 71 (eI 120 g28)).set 72 (eI 144 g29)))) := by
  refine PMet.intro (by decide) (Nat.le_of_ble_eq_true rfl) ?_
  intro p e s m args below meth c X hr hlk hnm
  refine r_aload_n X dX0_takeOver_0 rfl ?_
  refine a_get (a := 2) X hn fg_X0_9 dX0_takeOver_1 rfl rfl ?_
  refine r_iconst (v := 0) X dX0_takeOver_4 (by decide +kernel) ?_
  refine r_aload_n X dX0_takeOver_5 rfl ?_
  refine a_get (a := 70) X hn fg_X0_9 dX0_takeOver_6 rfl rfl ?_
  refine r_iconst (v := 0) X dX0_takeOver_9 (by decide +kernel) ?_
  refine r_bipush (v := 120) X dX0_takeOver_10 (by decide +kernel) ?_
  refine a_copy_any (a0 := 3) (a := 71) X hn lc_X0_43 dX0_takeOver_12 rfl rfl (by decide +kernel) (by decide +kernel) (by decide +kernel) (by decide +kernel) (by decide +kernel) rfl rfl (fun g28 => ?_)
  refine r_eq (h' := h0 ++ ((hga n va6 va2_4 va2_5 va2_7 va2_9 3 va59_2 va61 va62 va63 va64 va65 va66 va67 va68 va69 va70 va71 va72 va73 va74 va75 va76 va77 va78 ++ T).set 71 (eI 120 g28))) rfl rfl rfl ?_
  refine r_aload_n X dX0_takeOver_15 rfl ?_
  refine a_get (a := 2) X hn fg_X0_15 dX0_takeOver_16 rfl rfl ?_
  refine r_iconst (v := 0) X dX0_takeOver_19 (by decide +kernel) ?_
  refine r_aload_n X dX0_takeOver_20 rfl ?_
  refine a_get (a := 70) X hn fg_X0_15 dX0_takeOver_21 rfl rfl ?_
  refine r_iconst (v := 0) X dX0_takeOver_24 (by decide +kernel) ?_
  refine r_sipush (v := 144) X dX0_takeOver_25 (by decide +kernel) ?_
  refine a_copy_any (a0 := 4) (a := 72) X hn lc_X0_43 dX0_takeOver_28 rfl rfl (by decide +kernel) (by decide +kernel) (by decide +kernel) (by decide +kernel) (by decide +kernel) rfl rfl (fun g29 => ?_)
  refine r_eq (h' := h0 ++ (((hga n va6 va2_4 va2_5 va2_7 va2_9 3 va59_2 va61 va62 va63 va64 va65 va66 va67 va68 va69 va70 va71 va72 va73 va74 va75 va76 va77 va78 ++ T).set 71 (eI 120 g28)).set 72 (eI 144 g29))) rfl rfl rfl ?_
  refine r_aload_n X dX0_takeOver_31 rfl ?_
  refine r_aload_n X dX0_takeOver_32 rfl ?_
  refine a_get (a := 2) X hn fg_X0_18 dX0_takeOver_33 rfl rfl ?_
  refine a_put (a := 70) X hn fp_X0_18 dX0_takeOver_36 rfl rfl rfl rfl ?_
  refine r_eq (h' := h0 ++ ((((hga n va6 va2_4 va2_5 va2_7 va2_9 3 va59_2 va61 va62 va63 va64 va65 va66 va67 va68 va69 va70 va71 va72 va73 va74 va75 va76 va77 va78 ++ T).set 70 (eO 0 [vR (n + 71), vR (n + 72), vI 0, vI (va70 1), vI (va70 2), vI (va70 3), vI (va70 4), vI (va70 5), vI (va70 6), vI (va70 7)])).set 71 (eI 120 g28)).set 72 (eI 144 g29))) rfl rfl rfl ?_
  refine r_aload_n X dX0_takeOver_39 rfl ?_
  refine r_aload_n X dX0_takeOver_40 rfl ?_
  refine a_get (a := 2) X hn fg_X0_22 dX0_takeOver_41 rfl rfl ?_
  refine a_put (a := 70) X hn fp_X0_22 dX0_takeOver_44 rfl rfl rfl rfl ?_
  refine r_eq (h' := h0 ++ ((((hga n va6 va2_4 va2_5 va2_7 va2_9 3 va59_2 va61 va62 va63 va64 va65 va66 va67 va68 va69 va70 va71 va72 va73 va74 va75 va76 va77 va78 ++ T).set 70 (eO 0 [vR (n + 71), vR (n + 72), vI 0, vI 0, vI (va70 2), vI (va70 3), vI (va70 4), vI (va70 5), vI (va70 6), vI (va70 7)])).set 71 (eI 120 g28)).set 72 (eI 144 g29))) rfl rfl rfl ?_
  refine r_aload_n X dX0_takeOver_47 rfl ?_
  refine r_aload_n X dX0_takeOver_48 rfl ?_
  refine a_get (a := 2) X hn fg_X0_25 dX0_takeOver_49 rfl rfl ?_
  refine a_put (a := 70) X hn fp_X0_25 dX0_takeOver_52 rfl rfl rfl rfl ?_
  refine r_eq (h' := h0 ++ ((((hga n va6 va2_4 va2_5 va2_7 va2_9 3 va59_2 va61 va62 va63 va64 va65 va66 va67 va68 va69 va70 va71 va72 va73 va74 va75 va76 va77 va78 ++ T).set 70 (eO 0 [vR (n + 71), vR (n + 72), vI 0, vI 0, vI va2_4, vI (va70 3), vI (va70 4), vI (va70 5), vI (va70 6), vI (va70 7)])).set 71 (eI 120 g28)).set 72 (eI 144 g29))) rfl rfl rfl ?_
  refine r_aload_n X dX0_takeOver_55 rfl ?_
  refine r_aload_n X dX0_takeOver_56 rfl ?_
  refine a_get (a := 2) X hn fg_X0_28 dX0_takeOver_57 rfl rfl ?_
  refine a_put (a := 70) X hn fp_X0_28 dX0_takeOver_60 rfl rfl rfl rfl ?_
  refine r_eq (h' := h0 ++ ((((hga n va6 va2_4 va2_5 va2_7 va2_9 3 va59_2 va61 va62 va63 va64 va65 va66 va67 va68 va69 va70 va71 va72 va73 va74 va75 va76 va77 va78 ++ T).set 70 (eO 0 [vR (n + 71), vR (n + 72), vI 0, vI 0, vI va2_4, vI va2_5, vI (va70 4), vI (va70 5), vI (va70 6), vI (va70 7)])).set 71 (eI 120 g28)).set 72 (eI 144 g29))) rfl rfl rfl ?_
  refine r_aload_n X dX0_takeOver_63 rfl ?_
  refine r_aload_n X dX0_takeOver_64 rfl ?_
  refine a_get (a := 2) X hn fg_X0_31 dX0_takeOver_65 rfl rfl ?_
  refine a_put (a := 70) X hn fp_X0_31 dX0_takeOver_68 rfl rfl rfl rfl ?_
  refine r_eq (h' := h0 ++ ((((hga n va6 va2_4 va2_5 va2_7 va2_9 3 va59_2 va61 va62 va63 va64 va65 va66 va67 va68 va69 va70 va71 va72 va73 va74 va75 va76 va77 va78 ++ T).set 70 (eO 0 [vR (n + 71), vR (n + 72), vI 0, vI 0, vI va2_4, vI va2_5, vI 0, vI (va70 5), vI (va70 6), vI (va70 7)])).set 71 (eI 120 g28)).set 72 (eI 144 g29))) rfl rfl rfl ?_
  refine r_aload_n X dX0_takeOver_71 rfl ?_
  refine r_aload_n X dX0_takeOver_72 rfl ?_
  refine a_get (a := 2) X hn fg_X0_34 dX0_takeOver_73 rfl rfl ?_
  refine a_put (a := 70) X hn fp_X0_34 dX0_takeOver_76 rfl rfl rfl rfl ?_
  refine r_eq (h' := h0 ++ ((((hga n va6 va2_4 va2_5 va2_7 va2_9 3 va59_2 va61 va62 va63 va64 va65 va66 va67 va68 va69 va70 va71 va72 va73 va74 va75 va76 va77 va78 ++ T).set 70 (eO 0 [vR (n + 71), vR (n + 72), vI 0, vI 0, vI va2_4, vI va2_5, vI 0, vI va2_7, vI (va70 6), vI (va70 7)])).set 71 (eI 120 g28)).set 72 (eI 144 g29))) rfl rfl rfl ?_
  refine r_aload_n X dX0_takeOver_79 rfl ?_
  refine r_aload_n X dX0_takeOver_80 rfl ?_
  refine a_get (a := 2) X hn fg_X0_37 dX0_takeOver_81 rfl rfl ?_
  refine a_put (a := 70) X hn fp_X0_37 dX0_takeOver_84 rfl rfl rfl rfl ?_
  refine r_eq (h' := h0 ++ ((((hga n va6 va2_4 va2_5 va2_7 va2_9 3 va59_2 va61 va62 va63 va64 va65 va66 va67 va68 va69 va70 va71 va72 va73 va74 va75 va76 va77 va78 ++ T).set 70 (eO 0 [vR (n + 71), vR (n + 72), vI 0, vI 0, vI va2_4, vI va2_5, vI 0, vI va2_7, vI 0, vI (va70 7)])).set 71 (eI 120 g28)).set 72 (eI 144 g29))) rfl rfl rfl ?_
  refine r_aload_n X dX0_takeOver_87 rfl ?_
  refine r_aload_n X dX0_takeOver_88 rfl ?_
  refine a_get (a := 2) X hn fg_X0_40 dX0_takeOver_89 rfl rfl ?_
  refine a_put (a := 70) X hn fp_X0_40 dX0_takeOver_92 rfl rfl rfl rfl ?_
  refine r_eq (h' := h0 ++ ((((hga n va6 va2_4 va2_5 va2_7 va2_9 3 va59_2 va61 va62 va63 va64 va65 va66 va67 va68 va69 va70 va71 va72 va73 va74 va75 va76 va77 va78 ++ T).set 70 (eO 0 [vR (n + 71), vR (n + 72), vI 0, vI 0, vI va2_4, vI va2_5, vI 0, vI va2_7, vI 0, vI (nI va2_9)])).set 71 (eI 120 g28)).set 72 (eI 144 g29))) rfl rfl rfl ?_
  exact r_ret_v X hr hlk dX0_takeOver_95 (Nat.le_of_ble_eq_true rfl) (Nat.le_of_ble_eq_true rfl) ⟨rfl, ⟨_, _, rfl⟩⟩
set_option maxRecDepth 100000 in
set_option maxHeartbeats 4000000 in
theorem kh21_X7_keep (l : Launch) (G : PG) (h0 : PH) (n : Nat) (hn : h0.length = n) (T : PH) (va2_4 va2_5 va2_7 va59_2 : Int32) (va6 : Nat → Int32) (va61 : Nat → Int32) (va62 : Nat → Int32) (va63 : Nat → Int32) (va64 : Nat → Int32) (va65 : Nat → Int32) (va66 : Nat → Int32) (va67 : Nat → Int32) (va68 : Nat → Int32) (va69 : Nat → Int32) (va70 : Nat → Int32) (va71 : Nat → Int32) (va72 : Nat → Int32) (va73 : Nat → Int32) (va74 : Nat → Int32) (va75 : Nat → Int32) (va76 : Nat → Int32) (va77 : Nat → Int32) (va78 : Nat → Int32) (va2_9 : Nat) (hva2_9 : va2_9 ≤ 150) : PMet l G yX7_keep cX7_keep 2 none 2 0 0 [vR (n + 59), vR (n + 2)] (h0 ++ (hga n va6 va2_4 va2_5 va2_7 va2_9 3 va59_2 va61 va62 va63 va64 va65 va66 va67 va68 va69 va70 va71 va72 va73 va74 va75 va76 va77 va78 ++ T)) (qV (fun h' => ∃ g30 g31 : Nat → Int32, h' = h0 ++ (((((hga n va6 va2_4 va2_5 va2_7 va2_9 3 va59_2 va61 va62 va63 va64 va65 va66 va67 va68 va69 va70 va71 va72 va73 va74 va75 va76 va77 va78 ++ T).set 59 (eO 7 [vR (n + 60), vI 4, vI (if (6) < (va59_2 + 1) then (6) else (va59_2 + 1))])).set 70 (eO 0 [vR (n + 71), vR (n + 72), vI 0, vI 0, vI va2_4, vI va2_5, vI 0, vI va2_7, vI 0, vI (nI va2_9)])).set 71 (eI 120 g30)).set 72 (eI 144 g31)))) := by
  refine PMet.intro (by decide) (Nat.le_of_ble_eq_true rfl) ?_
  intro p e s m args below meth c X hr hlk hnm
  refine r_aload_n X dX7_keep_0 rfl ?_
  refine a_get (a := 59) X hn fg_X7_17 dX7_keep_1 rfl rfl ?_
  refine r_if_lt_f (tgt := 16) X dX7_keep_4 rfl (by decide +kernel) ?_
  refine r_aload_n X dX7_keep_7 rfl ?_
  refine a_get (a := 59) X hn fg_X7_17 dX7_keep_8 rfl rfl ?_
  refine r_bipush (v := 6) X dX7_keep_11 (by decide +kernel) ?_
  refine r_icmp_lt_t (tgt := 17) X dX7_keep_13 rfl (by decide +kernel) ?_
  refine r_aload_n X dX7_keep_17 rfl ?_
  refine a_get (a := 59) X hn fg_X7_11 dX7_keep_18 rfl rfl ?_
  refine r_aload_n X dX7_keep_21 rfl ?_
  refine a_get (a := 59) X hn fg_X7_17 dX7_keep_22 rfl rfl ?_
  refine a_aald (a := 60) (v := vR (n + 70)) (C := RX0) X hn rfl dX7_keep_25 rfl (inK (by decide +kernel)) rfl ?_
  refine r_aload_n X dX7_keep_26 rfl ?_
  refine r_V1v X kv_X7_25 dX7_keep_27 (apG (k := 70) hn rfl) rfl (kh20_X0_takeOver l G _ _ hn _ _ _ _ _ _ _ _ _ _ _ _ _ _ _ _ _ _ _ _ _ _ _ _ _ (by omega)) rfl (fun h' hΨ => ?_)
  obtain ⟨g30, g31, rfl⟩ := hΨ
  refine r_aload_n X dX7_keep_30 rfl ?_
  refine r_aload_n X dX7_keep_31 rfl ?_
  refine a_get (a := 59) X hn fg_X7_17 dX7_keep_32 rfl rfl ?_
  refine r_iconst (v := 1) X dX7_keep_35 (by decide +kernel) ?_
  refine r_iaddE (v := 4) X dX7_keep_36 (by decide +kernel) ?_
  refine r_bipush (v := 6) X dX7_keep_37 (by decide +kernel) ?_
  refine r_icmp_ge_f (tgt := 51) X dX7_keep_39 rfl (by decide +kernel) ?_
  refine r_aload_n X dX7_keep_42 rfl ?_
  refine a_get (a := 59) X hn fg_X7_17 dX7_keep_43 rfl rfl ?_
  refine r_iconst (v := 1) X dX7_keep_46 (by decide +kernel) ?_
  refine r_iaddE (v := 4) X dX7_keep_47 (by decide +kernel) ?_
  refine r_goto (tgt := 52) X dX7_keep_48 rfl ?_
  refine a_put (a := 59) X hn fp_X7_17 dX7_keep_52 rfl rfl rfl rfl ?_
  refine r_eq (h' := h0 ++ (((((hga n va6 va2_4 va2_5 va2_7 va2_9 3 va59_2 va61 va62 va63 va64 va65 va66 va67 va68 va69 va70 va71 va72 va73 va74 va75 va76 va77 va78 ++ T).set 59 (eO 7 [vR (n + 60), vI 4, vI va59_2])).set 70 (eO 0 [vR (n + 71), vR (n + 72), vI 0, vI 0, vI va2_4, vI va2_5, vI 0, vI va2_7, vI 0, vI (nI va2_9)])).set 71 (eI 120 g30)).set 72 (eI 144 g31))) rfl rfl rfl ?_
  refine r_aload_n X dX7_keep_55 rfl ?_
  refine r_aload_n X dX7_keep_56 rfl ?_
  refine a_get (a := 59) X hn fg_X7_21 dX7_keep_57 rfl rfl ?_
  refine r_iconst (v := 1) X dX7_keep_60 (by decide +kernel) ?_
  refine r_iadd X dX7_keep_61 ?_
  refine r_bipush (v := 6) X dX7_keep_62 (by decide +kernel) ?_
  refine r_min X ks_X7_29.1.1 dX7_keep_64 rfl rfl ?_
  refine a_put (a := 59) X hn fp_X7_21 dX7_keep_67 rfl rfl rfl rfl ?_
  refine r_eq (h' := h0 ++ (((((hga n va6 va2_4 va2_5 va2_7 va2_9 3 va59_2 va61 va62 va63 va64 va65 va66 va67 va68 va69 va70 va71 va72 va73 va74 va75 va76 va77 va78 ++ T).set 59 (eO 7 [vR (n + 60), vI 4, vI (if (6) < (va59_2 + 1) then (6) else (va59_2 + 1))])).set 70 (eO 0 [vR (n + 71), vR (n + 72), vI 0, vI 0, vI va2_4, vI va2_5, vI 0, vI va2_7, vI 0, vI (nI va2_9)])).set 71 (eI 120 g30)).set 72 (eI 144 g31))) rfl rfl rfl ?_
  exact r_ret_v X hr hlk dX7_keep_70 (Nat.le_of_ble_eq_true rfl) (Nat.le_of_ble_eq_true rfl) ⟨rfl, ⟨_, _, rfl⟩⟩
set_option maxRecDepth 100000 in
set_option maxHeartbeats 4000000 in
theorem kh22_X0_takeOver (l : Launch) (G : PG) (h0 : PH) (n : Nat) (hn : h0.length = n) (T : PH) (va2_4 va2_5 va2_7 va59_2 : Int32) (va6 : Nat → Int32) (va61 : Nat → Int32) (va62 : Nat → Int32) (va63 : Nat → Int32) (va64 : Nat → Int32) (va65 : Nat → Int32) (va66 : Nat → Int32) (va67 : Nat → Int32) (va68 : Nat → Int32) (va69 : Nat → Int32) (va70 : Nat → Int32) (va71 : Nat → Int32) (va72 : Nat → Int32) (va73 : Nat → Int32) (va74 : Nat → Int32) (va75 : Nat → Int32) (va76 : Nat → Int32) (va77 : Nat → Int32) (va78 : Nat → Int32) (va2_9 : Nat) (hva2_9 : va2_9 ≤ 150) : PMet l G yX0_takeOver cX0_takeOver 2 none 1 0 0 [vR (n + 73), vR (n + 2)] (h0 ++ (hga n va6 va2_4 va2_5 va2_7 va2_9 4 va59_2 va61 va62 va63 va64 va65 va66 va67 va68 va69 va70 va71 va72 va73 va74 va75 va76 va77 va78 ++ T)) (qV (fun h' => ∃ g34 g35 : Nat → Int32, h' = h0 ++ ((((hga n va6 va2_4 va2_5 va2_7 va2_9 4 va59_2 va61 va62 va63 va64 va65 va66 va67 va68 va69 va70 va71 va72 va73 va74 va75 va76 va77 va78 ++ T).set 73 (eO 0 [vR (n + 74), vR (n + 75), vI 0, vI 0, vI va2_4, vI va2_5, vI 0, vI va2_7, vI 0, vI (nI va2_9)])).set 74 (eI 120 g34)).set 75 (eI 144 g35)))) := by
  refine PMet.intro (by decide) (Nat.le_of_ble_eq_true rfl) ?_
  intro p e s m args below meth c X hr hlk hnm
  refine r_aload_n X dX0_takeOver_0 rfl ?_
  refine a_get (a := 2) X hn fg_X0_9 dX0_takeOver_1 rfl rfl ?_
  refine r_iconst (v := 0) X dX0_takeOver_4 (by decide +kernel) ?_
  refine r_aload_n X dX0_takeOver_5 rfl ?_
  refine a_get (a := 73) X hn fg_X0_9 dX0_takeOver_6 rfl rfl ?_
  refine r_iconst (v := 0) X dX0_takeOver_9 (by decide +kernel) ?_
  refine r_bipush (v := 120) X dX0_takeOver_10 (by decide +kernel) ?_
  refine a_copy_any (a0 := 3) (a := 74) X hn lc_X0_43 dX0_takeOver_12 rfl rfl (by decide +kernel) (by decide +kernel) (by decide +kernel) (by decide +kernel) (by decide +kernel) rfl rfl (fun g34 => ?_)
  refine r_eq (h' := h0 ++ ((hga n va6 va2_4 va2_5 va2_7 va2_9 4 va59_2 va61 va62 va63 va64 va65 va66 va67 va68 va69 va70 va71 va72 va73 va74 va75 va76 va77 va78 ++ T).set 74 (eI 120 g34))) rfl rfl rfl ?_
  refine r_aload_n X dX0_takeOver_15 rfl ?_
  refine a_get (a := 2) X hn fg_X0_15 dX0_takeOver_16 rfl rfl ?_
  refine r_iconst (v := 0) X dX0_takeOver_19 (by decide +kernel) ?_
  refine r_aload_n X dX0_takeOver_20 rfl ?_
  refine a_get (a := 73) X hn fg_X0_15 dX0_takeOver_21 rfl rfl ?_
  refine r_iconst (v := 0) X dX0_takeOver_24 (by decide +kernel) ?_
  refine r_sipush (v := 144) X dX0_takeOver_25 (by decide +kernel) ?_
  refine a_copy_any (a0 := 4) (a := 75) X hn lc_X0_43 dX0_takeOver_28 rfl rfl (by decide +kernel) (by decide +kernel) (by decide +kernel) (by decide +kernel) (by decide +kernel) rfl rfl (fun g35 => ?_)
  refine r_eq (h' := h0 ++ (((hga n va6 va2_4 va2_5 va2_7 va2_9 4 va59_2 va61 va62 va63 va64 va65 va66 va67 va68 va69 va70 va71 va72 va73 va74 va75 va76 va77 va78 ++ T).set 74 (eI 120 g34)).set 75 (eI 144 g35))) rfl rfl rfl ?_
  refine r_aload_n X dX0_takeOver_31 rfl ?_
  refine r_aload_n X dX0_takeOver_32 rfl ?_
  refine a_get (a := 2) X hn fg_X0_18 dX0_takeOver_33 rfl rfl ?_
  refine a_put (a := 73) X hn fp_X0_18 dX0_takeOver_36 rfl rfl rfl rfl ?_
  refine r_eq (h' := h0 ++ ((((hga n va6 va2_4 va2_5 va2_7 va2_9 4 va59_2 va61 va62 va63 va64 va65 va66 va67 va68 va69 va70 va71 va72 va73 va74 va75 va76 va77 va78 ++ T).set 73 (eO 0 [vR (n + 74), vR (n + 75), vI 0, vI (va73 1), vI (va73 2), vI (va73 3), vI (va73 4), vI (va73 5), vI (va73 6), vI (va73 7)])).set 74 (eI 120 g34)).set 75 (eI 144 g35))) rfl rfl rfl ?_
  refine r_aload_n X dX0_takeOver_39 rfl ?_
  refine r_aload_n X dX0_takeOver_40 rfl ?_
  refine a_get (a := 2) X hn fg_X0_22 dX0_takeOver_41 rfl rfl ?_
  refine a_put (a := 73) X hn fp_X0_22 dX0_takeOver_44 rfl rfl rfl rfl ?_
  refine r_eq (h' := h0 ++ ((((hga n va6 va2_4 va2_5 va2_7 va2_9 4 va59_2 va61 va62 va63 va64 va65 va66 va67 va68 va69 va70 va71 va72 va73 va74 va75 va76 va77 va78 ++ T).set 73 (eO 0 [vR (n + 74), vR (n + 75), vI 0, vI 0, vI (va73 2), vI (va73 3), vI (va73 4), vI (va73 5), vI (va73 6), vI (va73 7)])).set 74 (eI 120 g34)).set 75 (eI 144 g35))) rfl rfl rfl ?_
  refine r_aload_n X dX0_takeOver_47 rfl ?_
  refine r_aload_n X dX0_takeOver_48 rfl ?_
  refine a_get (a := 2) X hn fg_X0_25 dX0_takeOver_49 rfl rfl ?_
  refine a_put (a := 73) X hn fp_X0_25 dX0_takeOver_52 rfl rfl rfl rfl ?_
  refine r_eq (h' := h0 ++ ((((hga n va6 va2_4 va2_5 va2_7 va2_9 4 va59_2 va61 va62 va63 va64 va65 va66 va67 va68 va69 va70 va71 va72 va73 va74 va75 va76 va77 va78 ++ T).set 73 (eO 0 [vR (n + 74), vR (n + 75), vI 0, vI 0, vI va2_4, vI (va73 3), vI (va73 4), vI (va73 5), vI (va73 6), vI (va73 7)])).set 74 (eI 120 g34)).set 75 (eI 144 g35))) rfl rfl rfl ?_
  refine r_aload_n X dX0_takeOver_55 rfl ?_
  refine r_aload_n X dX0_takeOver_56 rfl ?_
  refine a_get (a := 2) X hn fg_X0_28 dX0_takeOver_57 rfl rfl ?_
  refine a_put (a := 73) X hn fp_X0_28 dX0_takeOver_60 rfl rfl rfl rfl ?_
  refine r_eq (h' := h0 ++ ((((hga n va6 va2_4 va2_5 va2_7 va2_9 4 va59_2 va61 va62 va63 va64 va65 va66 va67 va68 va69 va70 va71 va72 va73 va74 va75 va76 va77 va78 ++ T).set 73 (eO 0 [vR (n + 74), vR (n + 75), vI 0, vI 0, vI va2_4, vI va2_5, vI (va73 4), vI (va73 5), vI (va73 6), vI (va73 7)])).set 74 (eI 120 g34)).set 75 (eI 144 g35))) rfl rfl rfl ?_
  refine r_aload_n X dX0_takeOver_63 rfl ?_
  refine r_aload_n X dX0_takeOver_64 rfl ?_
  refine a_get (a := 2) X hn fg_X0_31 dX0_takeOver_65 rfl rfl ?_
  refine a_put (a := 73) X hn fp_X0_31 dX0_takeOver_68 rfl rfl rfl rfl ?_
  refine r_eq (h' := h0 ++ ((((hga n va6 va2_4 va2_5 va2_7 va2_9 4 va59_2 va61 va62 va63 va64 va65 va66 va67 va68 va69 va70 va71 va72 va73 va74 va75 va76 va77 va78 ++ T).set 73 (eO 0 [vR (n + 74), vR (n + 75), vI 0, vI 0, vI va2_4, vI va2_5, vI 0, vI (va73 5), vI (va73 6), vI (va73 7)])).set 74 (eI 120 g34)).set 75 (eI 144 g35))) rfl rfl rfl ?_
  refine r_aload_n X dX0_takeOver_71 rfl ?_
  refine r_aload_n X dX0_takeOver_72 rfl ?_
  refine a_get (a := 2) X hn fg_X0_34 dX0_takeOver_73 rfl rfl ?_
  refine a_put (a := 73) X hn fp_X0_34 dX0_takeOver_76 rfl rfl rfl rfl ?_
  refine r_eq (h' := h0 ++ ((((hga n va6 va2_4 va2_5 va2_7 va2_9 4 va59_2 va61 va62 va63 va64 va65 va66 va67 va68 va69 va70 va71 va72 va73 va74 va75 va76 va77 va78 ++ T).set 73 (eO 0 [vR (n + 74), vR (n + 75), vI 0, vI 0, vI va2_4, vI va2_5, vI 0, vI va2_7, vI (va73 6), vI (va73 7)])).set 74 (eI 120 g34)).set 75 (eI 144 g35))) rfl rfl rfl ?_
  refine r_aload_n X dX0_takeOver_79 rfl ?_
  refine r_aload_n X dX0_takeOver_80 rfl ?_
  refine a_get (a := 2) X hn fg_X0_37 dX0_takeOver_81 rfl rfl ?_
  refine a_put (a := 73) X hn fp_X0_37 dX0_takeOver_84 rfl rfl rfl rfl ?_
  refine r_eq (h' := h0 ++ ((((hga n va6 va2_4 va2_5 va2_7 va2_9 4 va59_2 va61 va62 va63 va64 va65 va66 va67 va68 va69 va70 va71 va72 va73 va74 va75 va76 va77 va78 ++ T).set 73 (eO 0 [vR (n + 74), vR (n + 75), vI 0, vI 0, vI va2_4, vI va2_5, vI 0, vI va2_7, vI 0, vI (va73 7)])).set 74 (eI 120 g34)).set 75 (eI 144 g35))) rfl rfl rfl ?_
  refine r_aload_n X dX0_takeOver_87 rfl ?_
  refine r_aload_n X dX0_takeOver_88 rfl ?_
  refine a_get (a := 2) X hn fg_X0_40 dX0_takeOver_89 rfl rfl ?_
  refine a_put (a := 73) X hn fp_X0_40 dX0_takeOver_92 rfl rfl rfl rfl ?_
  refine r_eq (h' := h0 ++ ((((hga n va6 va2_4 va2_5 va2_7 va2_9 4 va59_2 va61 va62 va63 va64 va65 va66 va67 va68 va69 va70 va71 va72 va73 va74 va75 va76 va77 va78 ++ T).set 73 (eO 0 [vR (n + 74), vR (n + 75), vI 0, vI 0, vI va2_4, vI va2_5, vI 0, vI va2_7, vI 0, vI (nI va2_9)])).set 74 (eI 120 g34)).set 75 (eI 144 g35))) rfl rfl rfl ?_
  exact r_ret_v X hr hlk dX0_takeOver_95 (Nat.le_of_ble_eq_true rfl) (Nat.le_of_ble_eq_true rfl) ⟨rfl, ⟨_, _, rfl⟩⟩
set_option maxRecDepth 100000 in
set_option maxHeartbeats 4000000 in
theorem kh23_X7_keep (l : Launch) (G : PG) (h0 : PH) (n : Nat) (hn : h0.length = n) (T : PH) (va2_4 va2_5 va2_7 va59_2 : Int32) (va6 : Nat → Int32) (va61 : Nat → Int32) (va62 : Nat → Int32) (va63 : Nat → Int32) (va64 : Nat → Int32) (va65 : Nat → Int32) (va66 : Nat → Int32) (va67 : Nat → Int32) (va68 : Nat → Int32) (va69 : Nat → Int32) (va70 : Nat → Int32) (va71 : Nat → Int32) (va72 : Nat → Int32) (va73 : Nat → Int32) (va74 : Nat → Int32) (va75 : Nat → Int32) (va76 : Nat → Int32) (va77 : Nat → Int32) (va78 : Nat → Int32) (va2_9 : Nat) (hva2_9 : va2_9 ≤ 150) : PMet l G yX7_keep cX7_keep 2 none 2 0 0 [vR (n + 59), vR (n + 2)] (h0 ++ (hga n va6 va2_4 va2_5 va2_7 va2_9 4 va59_2 va61 va62 va63 va64 va65 va66 va67 va68 va69 va70 va71 va72 va73 va74 va75 va76 va77 va78 ++ T)) (qV (fun h' => ∃ g36 g37 : Nat → Int32, h' = h0 ++ (((((hga n va6 va2_4 va2_5 va2_7 va2_9 4 va59_2 va61 va62 va63 va64 va65 va66 va67 va68 va69 va70 va71 va72 va73 va74 va75 va76 va77 va78 ++ T).set 59 (eO 7 [vR (n + 60), vI 5, vI (if (6) < (va59_2 + 1) then (6) else (va59_2 + 1))])).set 73 (eO 0 [vR (n + 74), vR (n + 75), vI 0, vI 0, vI va2_4, vI va2_5, vI 0, vI va2_7, vI 0, vI (nI va2_9)])).set 74 (eI 120 g36)).set 75 (eI 144 g37)))) := by
  refine PMet.intro (by decide) (Nat.le_of_ble_eq_true rfl) ?_
  intro p e s m args below meth c X hr hlk hnm
  refine r_aload_n X dX7_keep_0 rfl ?_
  refine a_get (a := 59) X hn fg_X7_17 dX7_keep_1 rfl rfl ?_
  refine r_if_lt_f (tgt := 16) X dX7_keep_4 rfl (by decide +kernel) ?_
  refine r_aload_n X dX7_keep_7 rfl ?_
  refine a_get (a := 59) X hn fg_X7_17 dX7_keep_8 rfl rfl ?_
  refine r_bipush (v := 6) X dX7_keep_11 (by decide +kernel) ?_
  refine r_icmp_lt_t (tgt := 17) X dX7_keep_13 rfl (by decide +kernel) ?_
  refine r_aload_n X dX7_keep_17 rfl ?_
  refine a_get (a := 59) X hn fg_X7_11 dX7_keep_18 rfl rfl ?_
  refine r_aload_n X dX7_keep_21 rfl ?_
  refine a_get (a := 59) X hn fg_X7_17 dX7_keep_22 rfl rfl ?_
  refine a_aald (a := 60) (v := vR (n + 73)) (C := RX0) X hn rfl dX7_keep_25 rfl (inK (by decide +kernel)) rfl ?_
  refine r_aload_n X dX7_keep_26 rfl ?_
  refine r_V1v X kv_X7_25 dX7_keep_27 (apG (k := 73) hn rfl) rfl (kh22_X0_takeOver l G _ _ hn _ _ _ _ _ _ _ _ _ _ _ _ _ _ _ _ _ _ _ _ _ _ _ _ _ (by omega)) rfl (fun h' hΨ => ?_)
  obtain ⟨g36, g37, rfl⟩ := hΨ
  refine r_aload_n X dX7_keep_30 rfl ?_
  refine r_aload_n X dX7_keep_31 rfl ?_
  refine a_get (a := 59) X hn fg_X7_17 dX7_keep_32 rfl rfl ?_
  refine r_iconst (v := 1) X dX7_keep_35 (by decide +kernel) ?_
  refine r_iaddE (v := 5) X dX7_keep_36 (by decide +kernel) ?_
  refine r_bipush (v := 6) X dX7_keep_37 (by decide +kernel) ?_
  refine r_icmp_ge_f (tgt := 51) X dX7_keep_39 rfl (by decide +kernel) ?_
  refine r_aload_n X dX7_keep_42 rfl ?_
  refine a_get (a := 59) X hn fg_X7_17 dX7_keep_43 rfl rfl ?_
  refine r_iconst (v := 1) X dX7_keep_46 (by decide +kernel) ?_
  refine r_iaddE (v := 5) X dX7_keep_47 (by decide +kernel) ?_
  refine r_goto (tgt := 52) X dX7_keep_48 rfl ?_
  refine a_put (a := 59) X hn fp_X7_17 dX7_keep_52 rfl rfl rfl rfl ?_
  refine r_eq (h' := h0 ++ (((((hga n va6 va2_4 va2_5 va2_7 va2_9 4 va59_2 va61 va62 va63 va64 va65 va66 va67 va68 va69 va70 va71 va72 va73 va74 va75 va76 va77 va78 ++ T).set 59 (eO 7 [vR (n + 60), vI 5, vI va59_2])).set 73 (eO 0 [vR (n + 74), vR (n + 75), vI 0, vI 0, vI va2_4, vI va2_5, vI 0, vI va2_7, vI 0, vI (nI va2_9)])).set 74 (eI 120 g36)).set 75 (eI 144 g37))) rfl rfl rfl ?_
  refine r_aload_n X dX7_keep_55 rfl ?_
  refine r_aload_n X dX7_keep_56 rfl ?_
  refine a_get (a := 59) X hn fg_X7_21 dX7_keep_57 rfl rfl ?_
  refine r_iconst (v := 1) X dX7_keep_60 (by decide +kernel) ?_
  refine r_iadd X dX7_keep_61 ?_
  refine r_bipush (v := 6) X dX7_keep_62 (by decide +kernel) ?_
  refine r_min X ks_X7_29.1.1 dX7_keep_64 rfl rfl ?_
  refine a_put (a := 59) X hn fp_X7_21 dX7_keep_67 rfl rfl rfl rfl ?_
  refine r_eq (h' := h0 ++ (((((hga n va6 va2_4 va2_5 va2_7 va2_9 4 va59_2 va61 va62 va63 va64 va65 va66 va67 va68 va69 va70 va71 va72 va73 va74 va75 va76 va77 va78 ++ T).set 59 (eO 7 [vR (n + 60), vI 5, vI (if (6) < (va59_2 + 1) then (6) else (va59_2 + 1))])).set 73 (eO 0 [vR (n + 74), vR (n + 75), vI 0, vI 0, vI va2_4, vI va2_5, vI 0, vI va2_7, vI 0, vI (nI va2_9)])).set 74 (eI 120 g36)).set 75 (eI 144 g37))) rfl rfl rfl ?_
  exact r_ret_v X hr hlk dX7_keep_70 (Nat.le_of_ble_eq_true rfl) (Nat.le_of_ble_eq_true rfl) ⟨rfl, ⟨_, _, rfl⟩⟩
set_option maxRecDepth 100000 in
set_option maxHeartbeats 4000000 in
theorem kh24_X0_takeOver (l : Launch) (G : PG) (h0 : PH) (n : Nat) (hn : h0.length = n) (T : PH) (va2_4 va2_5 va2_7 va59_2 : Int32) (va6 : Nat → Int32) (va61 : Nat → Int32) (va62 : Nat → Int32) (va63 : Nat → Int32) (va64 : Nat → Int32) (va65 : Nat → Int32) (va66 : Nat → Int32) (va67 : Nat → Int32) (va68 : Nat → Int32) (va69 : Nat → Int32) (va70 : Nat → Int32) (va71 : Nat → Int32) (va72 : Nat → Int32) (va73 : Nat → Int32) (va74 : Nat → Int32) (va75 : Nat → Int32) (va76 : Nat → Int32) (va77 : Nat → Int32) (va78 : Nat → Int32) (va2_9 : Nat) (hva2_9 : va2_9 ≤ 150) : PMet l G yX0_takeOver cX0_takeOver 2 none 1 0 0 [vR (n + 76), vR (n + 2)] (h0 ++ (hga n va6 va2_4 va2_5 va2_7 va2_9 5 va59_2 va61 va62 va63 va64 va65 va66 va67 va68 va69 va70 va71 va72 va73 va74 va75 va76 va77 va78 ++ T)) (qV (fun h' => ∃ g40 g41 : Nat → Int32, h' = h0 ++ ((((hga n va6 va2_4 va2_5 va2_7 va2_9 5 va59_2 va61 va62 va63 va64 va65 va66 va67 va68 va69 va70 va71 va72 va73 va74 va75 va76 va77 va78 ++ T).set 76 (eO 0 [vR (n + 77), vR (n + 78), vI 0, vI 0, vI va2_4, vI va2_5, vI 0, vI va2_7, vI 0, vI (nI va2_9)])).set 77 (eI 120 g40)).set 78 (eI 144 g41)))) := by
  refine PMet.intro (by decide) (Nat.le_of_ble_eq_true rfl) ?_
  intro p e s m args below meth c X hr hlk hnm
  refine r_aload_n X dX0_takeOver_0 rfl ?_
  refine a_get (a := 2) X hn fg_X0_9 dX0_takeOver_1 rfl rfl ?_
  refine r_iconst (v := 0) X dX0_takeOver_4 (by decide +kernel) ?_
  refine r_aload_n X dX0_takeOver_5 rfl ?_
  refine a_get (a := 76) X hn fg_X0_9 dX0_takeOver_6 rfl rfl ?_
  refine r_iconst (v := 0) X dX0_takeOver_9 (by decide +kernel) ?_
  refine r_bipush (v := 120) X dX0_takeOver_10 (by decide +kernel) ?_
  refine a_copy_any (a0 := 3) (a := 77) X hn lc_X0_43 dX0_takeOver_12 rfl rfl (by decide +kernel) (by decide +kernel) (by decide +kernel) (by decide +kernel) (by decide +kernel) rfl rfl (fun g40 => ?_)
  refine r_eq (h' := h0 ++ ((hga n va6 va2_4 va2_5 va2_7 va2_9 5 va59_2 va61 va62 va63 va64 va65 va66 va67 va68 va69 va70 va71 va72 va73 va74 va75 va76 va77 va78 ++ T).set 77 (eI 120 g40))) rfl rfl rfl ?_
  refine r_aload_n X dX0_takeOver_15 rfl ?_
  refine a_get (a := 2) X hn fg_X0_15 dX0_takeOver_16 rfl rfl ?_
  refine r_iconst (v := 0) X dX0_takeOver_19 (by decide +kernel) ?_
  refine r_aload_n X dX0_takeOver_20 rfl ?_
  refine a_get (a := 76) X hn fg_X0_15 dX0_takeOver_21 rfl rfl ?_
  refine r_iconst (v := 0) X dX0_takeOver_24 (by decide +kernel) ?_
  refine r_sipush (v := 144) X dX0_takeOver_25 (by decide +kernel) ?_
  refine a_copy_any (a0 := 4) (a := 78) X hn lc_X0_43 dX0_takeOver_28 rfl rfl (by decide +kernel) (by decide +kernel) (by decide +kernel) (by decide +kernel) (by decide +kernel) rfl rfl (fun g41 => ?_)
  refine r_eq (h' := h0 ++ (((hga n va6 va2_4 va2_5 va2_7 va2_9 5 va59_2 va61 va62 va63 va64 va65 va66 va67 va68 va69 va70 va71 va72 va73 va74 va75 va76 va77 va78 ++ T).set 77 (eI 120 g40)).set 78 (eI 144 g41))) rfl rfl rfl ?_
  refine r_aload_n X dX0_takeOver_31 rfl ?_
  refine r_aload_n X dX0_takeOver_32 rfl ?_
  refine a_get (a := 2) X hn fg_X0_18 dX0_takeOver_33 rfl rfl ?_
  refine a_put (a := 76) X hn fp_X0_18 dX0_takeOver_36 rfl rfl rfl rfl ?_
  refine r_eq (h' := h0 ++ ((((hga n va6 va2_4 va2_5 va2_7 va2_9 5 va59_2 va61 va62 va63 va64 va65 va66 va67 va68 va69 va70 va71 va72 va73 va74 va75 va76 va77 va78 ++ T).set 76 (eO 0 [vR (n + 77), vR (n + 78), vI 0, vI (va76 1), vI (va76 2), vI (va76 3), vI (va76 4), vI (va76 5), vI (va76 6), vI (va76 7)])).set 77 (eI 120 g40)).set 78 (eI 144 g41))) rfl rfl rfl ?_
  refine r_aload_n X dX0_takeOver_39 rfl ?_
  refine r_aload_n X dX0_takeOver_40 rfl ?_
  refine a_get (a := 2) X hn fg_X0_22 dX0_takeOver_41 rfl rfl ?_
  refine a_put (a := 76) X hn fp_X0_22 dX0_takeOver_44 rfl rfl rfl rfl ?_
  refine r_eq (h' := h0 ++ ((((hga n va6 va2_4 va2_5 va2_7 va2_9 5 va59_2 va61 va62 va63 va64 va65 va66 va67 va68 va69 va70 va71 va72 va73 va74 va75 va76 va77 va78 ++ T).set 76 (eO 0 [vR (n + 77), vR (n + 78), vI 0, vI 0, vI (va76 2), vI (va76 3), vI (va76 4), vI (va76 5), vI (va76 6), vI (va76 7)])).set 77 (eI 120 g40)).set 78 (eI 144 g41))) rfl rfl rfl ?_
  refine r_aload_n X dX0_takeOver_47 rfl ?_
  refine r_aload_n X dX0_takeOver_48 rfl ?_
  refine a_get (a := 2) X hn fg_X0_25 dX0_takeOver_49 rfl rfl ?_
  refine a_put (a := 76) X hn fp_X0_25 dX0_takeOver_52 rfl rfl rfl rfl ?_
  refine r_eq (h' := h0 ++ ((((hga n va6 va2_4 va2_5 va2_7 va2_9 5 va59_2 va61 va62 va63 va64 va65 va66 va67 va68 va69 va70 va71 va72 va73 va74 va75 va76 va77 va78 ++ T).set 76 (eO 0 [vR (n + 77), vR (n + 78), vI 0, vI 0, vI va2_4, vI (va76 3), vI (va76 4), vI (va76 5), vI (va76 6), vI (va76 7)])).set 77 (eI 120 g40)).set 78 (eI 144 g41))) rfl rfl rfl ?_
  refine r_aload_n X dX0_takeOver_55 rfl ?_
  refine r_aload_n X dX0_takeOver_56 rfl ?_
  refine a_get (a := 2) X hn fg_X0_28 dX0_takeOver_57 rfl rfl ?_
  refine a_put (a := 76) X hn fp_X0_28 dX0_takeOver_60 rfl rfl rfl rfl ?_
  refine r_eq (h' := h0 ++ ((((hga n va6 va2_4 va2_5 va2_7 va2_9 5 va59_2 va61 va62 va63 va64 va65 va66 va67 va68 va69 va70 va71 va72 va73 va74 va75 va76 va77 va78 ++ T).set 76 (eO 0 [vR (n + 77), vR (n + 78), vI 0, vI 0, vI va2_4, vI va2_5, vI (va76 4), vI (va76 5), vI (va76 6), vI (va76 7)])).set 77 (eI 120 g40)).set 78 (eI 144 g41))) rfl rfl rfl ?_
  refine r_aload_n X dX0_takeOver_63 rfl ?_
  refine r_aload_n X dX0_takeOver_64 rfl ?_
  refine a_get (a := 2) X hn fg_X0_31 dX0_takeOver_65 rfl rfl ?_
  refine a_put (a := 76) X hn fp_X0_31 dX0_takeOver_68 rfl rfl rfl rfl ?_
  refine r_eq (h' := h0 ++ ((((hga n va6 va2_4 va2_5 va2_7 va2_9 5 va59_2 va61 va62 va63 va64 va65 va66 va67 va68 va69 va70 va71 va72 va73 va74 va75 va76 va77 va78 ++ T).set 76 (eO 0 [vR (n + 77), vR (n + 78), vI 0, vI 0, vI va2_4, vI va2_5, vI 0, vI (va76 5), vI (va76 6), vI (va76 7)])).set 77 (eI 120 g40)).set 78 (eI 144 g41))) rfl rfl rfl ?_
  refine r_aload_n X dX0_takeOver_71 rfl ?_
  refine r_aload_n X dX0_takeOver_72 rfl ?_
  refine a_get (a := 2) X hn fg_X0_34 dX0_takeOver_73 rfl rfl ?_
  refine a_put (a := 76) X hn fp_X0_34 dX0_takeOver_76 rfl rfl rfl rfl ?_
  refine r_eq (h' := h0 ++ ((((hga n va6 va2_4 va2_5 va2_7 va2_9 5 va59_2 va61 va62 va63 va64 va65 va66 va67 va68 va69 va70 va71 va72 va73 va74 va75 va76 va77 va78 ++ T).set 76 (eO 0 [vR (n + 77), vR (n + 78), vI 0, vI 0, vI va2_4, vI va2_5, vI 0, vI va2_7, vI (va76 6), vI (va76 7)])).set 77 (eI 120 g40)).set 78 (eI 144 g41))) rfl rfl rfl ?_
  refine r_aload_n X dX0_takeOver_79 rfl ?_
  refine r_aload_n X dX0_takeOver_80 rfl ?_
  refine a_get (a := 2) X hn fg_X0_37 dX0_takeOver_81 rfl rfl ?_
  refine a_put (a := 76) X hn fp_X0_37 dX0_takeOver_84 rfl rfl rfl rfl ?_
  refine r_eq (h' := h0 ++ ((((hga n va6 va2_4 va2_5 va2_7 va2_9 5 va59_2 va61 va62 va63 va64 va65 va66 va67 va68 va69 va70 va71 va72 va73 va74 va75 va76 va77 va78 ++ T).set 76 (eO 0 [vR (n + 77), vR (n + 78), vI 0, vI 0, vI va2_4, vI va2_5, vI 0, vI va2_7, vI 0, vI (va76 7)])).set 77 (eI 120 g40)).set 78 (eI 144 g41))) rfl rfl rfl ?_
  refine r_aload_n X dX0_takeOver_87 rfl ?_
  refine r_aload_n X dX0_takeOver_88 rfl ?_
  refine a_get (a := 2) X hn fg_X0_40 dX0_takeOver_89 rfl rfl ?_
  refine a_put (a := 76) X hn fp_X0_40 dX0_takeOver_92 rfl rfl rfl rfl ?_
  refine r_eq (h' := h0 ++ ((((hga n va6 va2_4 va2_5 va2_7 va2_9 5 va59_2 va61 va62 va63 va64 va65 va66 va67 va68 va69 va70 va71 va72 va73 va74 va75 va76 va77 va78 ++ T).set 76 (eO 0 [vR (n + 77), vR (n + 78), vI 0, vI 0, vI va2_4, vI va2_5, vI 0, vI va2_7, vI 0, vI (nI va2_9)])).set 77 (eI 120 g40)).set 78 (eI 144 g41))) rfl rfl rfl ?_
  exact r_ret_v X hr hlk dX0_takeOver_95 (Nat.le_of_ble_eq_true rfl) (Nat.le_of_ble_eq_true rfl) ⟨rfl, ⟨_, _, rfl⟩⟩
