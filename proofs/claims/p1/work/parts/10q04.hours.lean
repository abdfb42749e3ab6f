set_option maxRecDepth 100000 in
set_option maxHeartbeats 4000000 in
theorem kh25_X7_keep (l : Launch) (G : PG) (h0 : PH) (n : Nat) (hn : h0.length = n) (T : PH) (va2_4 va2_5 va2_7 va59_2 : Int32) (va6 : Nat → Int32) (va61 : Nat → Int32) (va62 : Nat → Int32) (va63 : Nat → Int32) (va64 : Nat → Int32) (va65 : Nat → Int32) (va66 : Nat → Int32) (va67 : Nat → Int32) (va68 : Nat → Int32) (va69 : Nat → Int32) (va70 : Nat → Int32) (va71 : Nat → Int32) (va72 : Nat → Int32) (va73 : Nat → Int32) (va74 : Nat → Int32) (va75 : Nat → Int32) (va76 : Nat → Int32) (va77 : Nat → Int32) (va78 : Nat → Int32) (va2_9 : Nat) (hva2_9 : va2_9 ≤ 150) : PMet l G yX7_keep cX7_keep 2 none 2 0 0 [vR (n + 59), vR (n + 2)] (h0 ++ (hga n va6 va2_4 va2_5 va2_7 va2_9 5 va59_2 va61 va62 va63 va64 va65 va66 va67 va68 va69 va70 va71 va72 va73 va74 va75 va76 va77 va78 ++ T)) (qV (fun h' => ∃ g42 g43 : Nat → Int32, h' = h0 ++ (((((hga n va6 va2_4 va2_5 va2_7 va2_9 5 va59_2 va61 va62 va63 va64 va65 va66 va67 va68 va69 va70 va71 va72 va73 va74 va75 va76 va77 va78 ++ T).set 59 (eO 7 [vR (n + 60), vI 0, vI (if (6) < (va59_2 + 1) then (6) else (va59_2 + 1))])).set 76 (eO 0 [vR (n + 77), vR (n + 78), vI 0, vI 0, vI va2_4, vI va2_5, vI 0, vI va2_7, vI 0, vI (nI va2_9)])).set 77 (eI 120 g42)).set 78 (eI 144 g43)))) := by
  refine PMet.intro (by decide) (Nat.le_of_ble_eq_true rfl) ?_
  intro p e s m args below meth c X hr hlk hnm
  refine r_aload_n X dX7_keep_0 rfl ?_
  refine a_get (a := 59) X hn fg_X7_17 dX7_keep_1 rfl rfl ?_
  refine r_if_lt_f (tgt := 16) X dX7_keep_4 rfl (by decide +kernel) ?_
  refine r_aload_n X dX7_keep_7 rfl ?_
  refine a_get (a := 59) X hn fg_X7_17 dX7_keep_8 rfl rfl ?_
  refine r_bipush (v := 6) X dX7_keep_11 (by decide +kernel) ?_
  refine r_icmp_lt_t (tgt := 17) X dX7_keep_13 rfl (by decide +kernel) ?_
  refine r_aload_n X dX7_keep_17 rfl ?_
  refine a_get (a := 59) X hn fg_X7_11 dX7_keep_18 rfl rfl ?_
  refine r_aload_n X dX7_keep_21 rfl ?_
  refine a_get (a := 59) X hn fg_X7_17 dX7_keep_22 rfl rfl ?_
  refine a_aald (a := 60) (v := vR (n + 76)) (C := RX0) X hn rfl dX7_keep_25 rfl (inK (by decide +kernel)) rfl ?_
  refine r_aload_n X dX7_keep_26 rfl ?_
  refine r_V1v X kv_X7_25 dX7_keep_27 (apG (k := 76) hn rfl) rfl (kh24_X0_takeOver l G _ _ hn _ _ _ _ _ _ _ _ _ _ _ _ _ _ _ _ _ _ _ _ _ _ _ _ _ (by omega)) rfl (fun h' hΨ => ?_)
  obtain ⟨g42, g43, rfl⟩ := hΨ
  refine r_aload_n X dX7_keep_30 rfl ?_
  refine r_aload_n X dX7_keep_31 rfl ?_
  refine a_get (a := 59) X hn fg_X7_17 dX7_keep_32 rfl rfl ?_
  refine r_iconst (v := 1) X dX7_keep_35 (by decide +kernel) ?_
  refine r_iaddE (v := 6) X dX7_keep_36 (by decide +kernel) ?_
  refine r_bipush (v := 6) X dX7_keep_37 (by decide +kernel) ?_
  refine r_icmp_ge_t (tgt := 51) X dX7_keep_39 rfl (by decide +kernel) ?_
  refine r_iconst (v := 0) X dX7_keep_51 (by decide +kernel) ?_
  refine a_put (a := 59) X hn fp_X7_17 dX7_keep_52 rfl rfl rfl rfl ?_
  refine r_eq (h' := h0 ++ (((((hga n va6 va2_4 va2_5 va2_7 va2_9 5 va59_2 va61 va62 va63 va64 va65 va66 va67 va68 va69 va70 va71 va72 va73 va74 va75 va76 va77 va78 ++ T).set 59 (eO 7 [vR (n + 60), vI 0, vI va59_2])).set 76 (eO 0 [vR (n + 77), vR (n + 78), vI 0, vI 0, vI va2_4, vI va2_5, vI 0, vI va2_7, vI 0, vI (nI va2_9)])).set 77 (eI 120 g42)).set 78 (eI 144 g43))) rfl rfl rfl ?_
  refine r_aload_n X dX7_keep_55 rfl ?_
  refine r_aload_n X dX7_keep_56 rfl ?_
  refine a_get (a := 59) X hn fg_X7_21 dX7_keep_57 rfl rfl ?_
  refine r_iconst (v := 1) X dX7_keep_60 (by decide +kernel) ?_
  refine r_iadd X dX7_keep_61 ?_
  refine r_bipush (v := 6) X dX7_keep_62 (by decide +kernel) ?_
  refine r_min X ks_X7_29.1.1 dX7_keep_64 rfl rfl ?_
  refine a_put (a := 59) X hn fp_X7_21 dX7_keep_67 rfl rfl rfl rfl ?_
  refine r_eq (h' := h0 ++ (((((hga n va6 va2_4 va2_5 va2_7 va2_9 5 va59_2 va61 va62 va63 va64 va65 va66 va67 va68 va69 va70 va71 va72 va73 va74 va75 va76 va77 va78 ++ T).set 59 (eO 7 [vR (n + 60), vI 0, vI (if (6) < (va59_2 + 1) then (6) else (va59_2 + 1))])).set 76 (eO 0 [vR (n + 77), vR (n + 78), vI 0, vI 0, vI va2_4, vI va2_5, vI 0, vI va2_7, vI 0, vI (nI va2_9)])).set 77 (eI 120 g42)).set 78 (eI 144 g43))) rfl rfl rfl ?_
  exact r_ret_v X hr hlk dX7_keep_70 (Nat.le_of_ble_eq_true rfl) (Nat.le_of_ble_eq_true rfl) ⟨rfl, ⟨_, _, rfl⟩⟩
