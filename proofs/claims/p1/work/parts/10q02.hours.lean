set_option maxRecDepth 100000 in
set_option maxHeartbeats 4000000 in
theorem kh13_X1_oneHour (l : Launch) (G : PG) (h0 : PH) (n : Nat) (hn : h0.length = n) (T : PH) (vas2_4 vas2_5 vas2_7 vas59_2 : Int32) (vas6 : Nat → Int32) (vas61 : Nat → Int32) (vas62 : Nat → Int32) (vas63 : Nat → Int32) (vas64 : Nat → Int32) (vas65 : Nat → Int32) (vas66 : Nat → Int32) (vas67 : Nat → Int32) (vas68 : Nat → Int32) (vas69 : Nat → Int32) (vas70 : Nat → Int32) (vas71 : Nat → Int32) (vas72 : Nat → Int32) (vas73 : Nat → Int32) (vas74 : Nat → Int32) (vas75 : Nat → Int32) (vas76 : Nat → Int32) (vas77 : Nat → Int32) (vas78 : Nat → Int32) (vas2_9 : Nat) (hvas2_9 : vas2_9 ≤ 150) (vas59_1 : Nat) (hvas59_1 : vas59_1 ≤ 5) : PMet l G yX1_oneHour cX1_oneHour 2 (some .int) 3 0 0 [vR (n + 95)] (h0 ++ (hgas n vas6 vas2_4 vas2_5 vas2_7 vas2_9 vas59_1 vas59_2 vas61 vas62 vas63 vas64 vas65 vas66 vas67 vas68 vas69 vas70 vas71 vas72 vas73 vas74 vas75 vas76 vas77 vas78 ++ T)) (qI (fun x h' => (∃ g8 : Nat → Int32, (11 ≤ vas2_4) ∧ ((nI (vas2_9)) < 150) ∧ x = 0 ∧ h' = h0 ++ (((hgas n vas6 vas2_4 vas2_5 vas2_7 vas2_9 vas59_1 vas59_2 vas61 vas62 vas63 vas64 vas65 vas66 vas67 vas68 vas69 vas70 vas71 vas72 vas73 vas74 vas75 vas76 vas77 vas78 ++ T).set 2 (eO 0 [vR (n + 3), vR (n + 4), vI 0, vI 0, vI 0, vI (vas2_5 + 1), vI 0, vI (vas2_7 + 1), vI 0, vI (nI ((vas2_9) + 1))])).set 6 (eI 750 g8))) ∨ ((11 ≤ vas2_4) ∧ (¬ (nI (vas2_9)) < 150) ∧ x = 0 ∧ h' = h0 ++ ((hgas n vas6 vas2_4 vas2_5 vas2_7 vas2_9 vas59_1 vas59_2 vas61 vas62 vas63 vas64 vas65 vas66 vas67 vas68 vas69 vas70 vas71 vas72 vas73 vas74 vas75 vas76 vas77 vas78 ++ T).set 2 (eO 0 [vR (n + 3), vR (n + 4), vI 0, vI 0, vI 0, vI (vas2_5 + 1), vI 0, vI (vas2_7 + 1), vI 0, vI (nI (vas2_9))]))) ∨ ((¬ 11 ≤ vas2_4) ∧ x = 0 ∧ h' = h0 ++ ((hgas n vas6 vas2_4 vas2_5 vas2_7 vas2_9 vas59_1 vas59_2 vas61 vas62 vas63 vas64 vas65 vas66 vas67 vas68 vas69 vas70 vas71 vas72 vas73 vas74 vas75 vas76 vas77 vas78 ++ T).set 2 (eO 0 [vR (n + 3), vR (n + 4), vI 0, vI 0, vI (vas2_4 + 1), vI vas2_5, vI 0, vI vas2_7, vI 0, vI (nI vas2_9)]))))) := by
  refine PMet.intro (by decide) (Nat.le_of_ble_eq_true rfl) ?_
  intro p e s m args below meth c X hr hlk hnm
  refine r_aload_n X dX1_oneHour_0 rfl ?_
  refine r_V0v X kv_X1_96 dX1_oneHour_1 (apG (k := 95) hn rfl) rfl (kh1_X1_skyOfHour l G _ _ hn _ _ _ _ _ _ _ _ _ _ _ _ _ _ _ _ _ _ _ _ _ _ _ _ _ (by omega) _ (by omega)) rfl (fun h' hΨ => ?_)
  obtain rfl := hΨ
  refine r_aload_n X dX1_oneHour_4 rfl ?_
  refine r_V0i X kv_X1_99 dX1_oneHour_5 (apG (k := 95) hn rfl) rfl (kh2_X1_thumbsOfHour l G _ _ hn _ _ _ _ _ _ _ _ _ _ _ _ _ _ _ _ _ _ _ _ _ _ _ _ _ (by omega) _ (by omega)) rfl (fun x h' hΨ => ?_)
  obtain ⟨rfl, rfl⟩ := hΨ
  refine r_istore_n X dX1_oneHour_8 (by decide) ?_
  refine r_aload_n X dX1_oneHour_9 rfl ?_
  refine r_V0v X kv_X1_103 dX1_oneHour_10 (apG (k := 95) hn rfl) rfl (kh4_X1_meltAll l G _ _ hn _ _ _ _ _ _ _ _ _ _ _ _ _ _ _ _ _ _ _ _ _ _ _ _ _ (by omega) _ (by omega)) rfl (fun h' hΨ => ?_)
  obtain rfl := hΨ
  refine r_aload_n X dX1_oneHour_13 rfl ?_
  refine a_get (a := 95) X hn fg_X1_21 dX1_oneHour_14 rfl rfl ?_
  refine a_get (a := 2) X hn fg_X1_66 dX1_oneHour_17 rfl rfl ?_
  refine r_bipush (v := 11) X dX1_oneHour_20 (by decide +kernel) ?_
  refine r_icmp_ge (tgt := 41) X dX1_oneHour_22 rfl (fun q1 => ?_) (fun q1 => ?_)
  · refine r_aload_n X dX1_oneHour_41 rfl ?_
    refine r_V0v X kv_X1_106 dX1_oneHour_42 (apG (k := 95) hn rfl) rfl (kh12_X1_readDoor l G _ _ hn _ _ _ _ _ _ _ _ _ _ _ _ _ _ _ _ _ _ _ _ _ _ _ _ _ (by omega) _ (by omega)) rfl (fun h' hΨ => ?_)
    rcases hΨ with ⟨g8, q2, rfl⟩ | ⟨q3, rfl⟩
    · have nq2 : (vas2_9) < 150 := by have e0 : (150 : Int32).toInt = 150 := (by decide); have e1 : (nI (vas2_9)).toInt = (((vas2_9) : Nat) : Int) := toN (rfl) (by omega); simp only [Int32.lt_iff_toInt_lt, Int32.le_iff_toInt_le, ← Int32.toInt_inj] at q2 ⊢; omega
      refine r_iload_n X dX1_oneHour_45 rfl ?_
      exact r_ret_i X hr hlk dX1_oneHour_46 (Nat.le_of_ble_eq_true rfl) (Nat.le_of_ble_eq_true rfl) ⟨_, rfl, Or.inl ⟨_, q1, q2, rfl, rfl⟩⟩
    · have nq3 : ¬ ((vas2_9) < 150) := by have e0 : (150 : Int32).toInt = 150 := (by decide); have e1 : (nI (vas2_9)).toInt = (((vas2_9) : Nat) : Int) := toN (rfl) (by omega); simp only [Int32.lt_iff_toInt_lt, Int32.le_iff_toInt_le, ← Int32.toInt_inj] at q3 ⊢; omega
      refine r_iload_n X dX1_oneHour_45 rfl ?_
      exact r_ret_i X hr hlk dX1_oneHour_46 (Nat.le_of_ble_eq_true rfl) (Nat.le_of_ble_eq_true rfl) ⟨_, rfl, Or.inr (Or.inl ⟨q1, q3, rfl, rfl⟩)⟩
  · refine r_aload_n X dX1_oneHour_25 rfl ?_
    refine a_get (a := 95) X hn fg_X1_21 dX1_oneHour_26 rfl rfl ?_
    refine r_dup X dX1_oneHour_29 ?_
    refine a_get (a := 2) X hn fg_X1_66 dX1_oneHour_30 rfl rfl ?_
    refine r_iconst (v := 1) X dX1_oneHour_33 (by decide +kernel) ?_
    refine r_iadd X dX1_oneHour_34 ?_
    refine a_put (a := 2) X hn fp_X1_66 dX1_oneHour_35 rfl rfl rfl rfl ?_
    refine r_goto (tgt := 45) X dX1_oneHour_38 rfl ?_
    refine r_iload_n X dX1_oneHour_45 rfl ?_
    exact r_ret_i X hr hlk dX1_oneHour_46 (Nat.le_of_ble_eq_true rfl) (Nat.le_of_ble_eq_true rfl) ⟨_, rfl, Or.inr (Or.inr (⟨q1, rfl, rfl⟩))⟩
set_option maxRecDepth 100000 in
set_option maxHeartbeats 4000000 in
theorem kh14_X0_takeOver (l : Launch) (G : PG) (h0 : PH) (n : Nat) (hn : h0.length = n) (T : PH) (va2_4 va2_5 va2_7 va59_2 : Int32) (va6 : Nat → Int32) (va61 : Nat → Int32) (va62 : Nat → Int32) (va63 : Nat → Int32) (va64 : Nat → Int32) (va65 : Nat → Int32) (va66 : Nat → Int32) (va67 : Nat → Int32) (va68 : Nat → Int32) (va69 : Nat → Int32) (va70 : Nat → Int32) (va71 : Nat → Int32) (va72 : Nat → Int32) (va73 : Nat → Int32) (va74 : Nat → Int32) (va75 : Nat → Int32) (va76 : Nat → Int32) (va77 : Nat → Int32) (va78 : Nat → Int32) (va2_9 : Nat) (hva2_9 : va2_9 ≤ 150) : PMet l G yX0_takeOver cX0_takeOver 2 none 1 0 0 [vR (n + 61), vR (n + 2)] (h0 ++ (hga n va6 va2_4 va2_5 va2_7 va2_9 0 va59_2 va61 va62 va63 va64 va65 va66 va67 va68 va69 va70 va71 va72 va73 va74 va75 va76 va77 va78 ++ T)) (qV (fun h' => ∃ g10 g11 : Nat → Int32, h' = h0 ++ ((((hga n va6 va2_4 va2_5 va2_7 va2_9 0 va59_2 va61 va62 va63 va64 va65 va66 va67 va68 va69 va70 va71 va72 va73 va74 va75 va76 va77 va78 ++ T).set 61 (eO 0 [vR (n + 62), vR (n + 63), vI 0, vI 0, vI va2_4, vI va2_5, vI 0, vI va2_7, vI 0, vI (nI va2_9)])).set 62 (eI 120 g10)).set 63 (eI 144 g11)))) := by
  refine PMet.intro (by decide) (Nat.le_of_ble_eq_true rfl) ?_
  intro p e s m args below meth c X hr hlk hnm
  refine r_aload_n X dX0_takeOver_0 rfl ?_
  refine a_get (a := 2) X hn fg_X0_9 dX0_takeOver_1 rfl rfl ?_
  refine r_iconst (v := 0) X dX0_takeOver_4 (by decide +kernel) ?_
  refine r_aload_n X dX0_takeOver_5 rfl ?_
  refine a_get (a := 61) X hn fg_X0_9 dX0_takeOver_6 rfl rfl ?_
  refine r_iconst (v := 0) X dX0_takeOver_9 (by decide +kernel) ?_
  refine r_bipush (v := 120) X dX0_takeOver_10 (by decide +kernel) ?_
  refine a_copy_any (a0 := 3) (a := 62) X hn lc_X0_43 dX0_takeOver_12 rfl rfl (by decide +kernel) (by decide +kernel) (by decide +kernel) (by decide +kernel) (by decide +kernel) rfl rfl (fun g10 => ?_)
  refine r_eq (h' := h0 ++ ((hga n va6 va2_4 va2_5 va2_7 va2_9 0 va59_2 va61 va62 va63 va64 va65 va66 va67 va68 va69 va70 va71 va72 va73 va74 va75 va76 va77 va78 ++ T).set 62 (eI 120 g10))) rfl rfl rfl ?_
  refine r_aload_n X dX0_takeOver_15 rfl ?_
  refine a_get (a := 2) X hn fg_X0_15 dX0_takeOver_16 rfl rfl ?_
  refine r_iconst (v := 0) X dX0_takeOver_19 (by decide +kernel) ?_
  refine r_aload_n X dX0_takeOver_20 rfl ?_
  refine a_get (a := 61) X hn fg_X0_15 dX0_takeOver_21 rfl rfl ?_
  refine r_iconst (v := 0) X dX0_takeOver_24 (by decide +kernel) ?_
  refine r_sipush (v := 144) X dX0_takeOver_25 (by decide +kernel) ?_
  refine a_copy_any (a0 := 4) (a := 63) X hn lc_X0_43 dX0_takeOver_28 rfl rfl (by decide +kernel) (by decide +kernel) (by decide +kernel) (by decide +kernel) (by decide +kernel) rfl rfl (fun g11 => ?_)
  refine r_eq (h' := h0 ++ (((hga n va6 va2_4 va2_5 va2_7 va2_9 0 va59_2 va61 va62 va63 va64 va65 va66 va67 va68 va69 va70 va71 va72 va73 va74 va75 va76 va77 va78 ++ T).set 62 (eI 120 g10)).set 63 (eI 144 g11))) rfl rfl rfl ?_
  refine r_aload_n X dX0_takeOver_31 rfl ?_
  refine r_aload_n X dX0_takeOver_32 rfl ?_
  refine a_get (a := 2) X hn fg_X0_18 dX0_takeOver_33 rfl rfl ?_
  refine a_put (a := 61) X hn fp_X0_18 dX0_takeOver_36 rfl rfl rfl rfl ?_
  refine r_eq (h' := h0 ++ ((((hga n va6 va2_4 va2_5 va2_7 va2_9 0 va59_2 va61 va62 va63 va64 va65 va66 va67 va68 va69 va70 va71 va72 va73 va74 va75 va76 va77 va78 ++ T).set 61 (eO 0 [vR (n + 62), vR (n + 63), vI 0, vI (va61 1), vI (va61 2), vI (va61 3), vI (va61 4), vI (va61 5), vI (va61 6), vI (va61 7)])).set 62 (eI 120 g10)).set 63 (eI 144 g11))) rfl rfl rfl ?_
  refine r_aload_n X dX0_takeOver_39 rfl ?_
  refine r_aload_n X dX0_takeOver_40 rfl ?_
  refine a_get (a := 2) X hn fg_X0_22 dX0_takeOver_41 rfl rfl ?_
  refine a_put (a := 61) X hn fp_X0_22 dX0_takeOver_44 rfl rfl rfl rfl ?_
  refine r_eq (h' := h0 ++ ((((hga n va6 va2_4 va2_5 va2_7 va2_9 0 va59_2 va61 va62 va63 va64 va65 va66 va67 va68 va69 va70 va71 va72 va73 va74 va75 va76 va77 va78 ++ T).set 61 (eO 0 [vR (n + 62), vR (n + 63), vI 0, vI 0, vI (va61 2), vI (va61 3), vI (va61 4), vI (va61 5), vI (va61 6), vI (va61 7)])).set 62 (eI 120 g10)).set 63 (eI 144 g11))) rfl rfl rfl ?_
  refine r_aload_n X dX0_takeOver_47 rfl ?_
  refine r_aload_n X dX0_takeOver_48 rfl ?_
  refine a_get (a := 2) X hn fg_X0_25 dX0_takeOver_49 rfl rfl ?_
  refine a_put (a := 61) X hn fp_X0_25 dX0_takeOver_52 rfl rfl rfl rfl ?_
  refine r_eq (h' := h0 ++ ((((hga n va6 va2_4 va2_5 va2_7 va2_9 0 va59_2 va61 va62 va63 va64 va65 va66 va67 va68 va69 va70 va71 va72 va73 va74 va75 va76 va77 va78 ++ T).set 61 (eO 0 [vR (n + 62), vR (n + 63), vI 0, vI 0, vI va2_4, vI (va61 3), vI (va61 4), vI (va61 5), vI (va61 6), vI (va61 7)])).set 62 (eI 120 g10)).set 63 (eI 144 g11))) rfl rfl rfl ?_
  refine r_aload_n X dX0_takeOver_55 rfl ?_
  refine r_aload_n X dX0_takeOver_56 rfl ?_
  refine a_get (a := 2) X hn fg_X0_28 dX0_takeOver_57 rfl rfl ?_
  refine a_put (a := 61) X hn fp_X0_28 dX0_takeOver_60 rfl rfl rfl rfl ?_
  refine r_eq (h' := h0 ++ ((((hga n va6 va2_4 va2_5 va2_7 va2_9 0 va59_2 va61 va62 va63 va64 va65 va66 va67 va68 va69 va70 va71 va72 va73 va74 va75 va76 va77 va78 ++ T).set 61 (eO 0 [vR (n + 62), vR (n + 63), vI 0, vI 0, vI va2_4, vI va2_5, vI (va61 4), vI (va61 5), vI (va61 6), vI (va61 7)])).set 62 (eI 120 g10)).set 63 (eI 144 g11))) rfl rfl rfl ?_
  refine r_aload_n X dX0_takeOver_63 rfl ?_
  refine r_aload_n X dX0_takeOver_64 rfl ?_
  refine a_get (a := 2) X hn fg_X0_31 dX0_takeOver_65 rfl rfl ?_
  refine a_put (a := 61) X hn fp_X0_31 dX0_takeOver_68 rfl rfl rfl rfl ?_
  refine r_eq (h' := h0 ++ ((((hga n va6 va2_4 va2_5 va2_7 va2_9 0 va59_2 va61 va62 va63 va64 va65 va66 va67 va68 va69 va70 va71 va72 va73 va74 va75 va76 va77 va78 ++ T).set 61 (eO 0 [vR (n + 62), vR (n + 63), vI 0, vI 0, vI va2_4, vI va2_5, vI 0, vI (va61 5), vI (va61 6), vI (va61 7)])).set 62 (eI 120 g10)).set 63 (eI 144 g11))) rfl rfl rfl ?_
  refine r_aload_n X dX0_takeOver_71 rfl ?_
  refine r_aload_n X dX0_takeOver_72 rfl ?_
  refine a_get (a := 2) X hn fg_X0_34 dX0_takeOver_73 rfl rfl ?_
  refine a_put (a := 61) X hn fp_X0_34 dX0_takeOver_76 rfl rfl rfl rfl ?_
  refine r_eq (h' := h0 ++ ((((hga n va6 va2_4 va2_5 va2_7 va2_9 0 va59_2 va61 va62 va63 va64 va65 va66 va67 va68 va69 va70 va71 va72 va73 va74 va75 va76 va77 va78 ++ T).set 61 (eO 0 [vR (n + 62), vR (n + 63), vI 0, vI 0, vI va2_4, vI va2_5, vI 0, vI va2_7, vI (va61 6), vI (va61 7)])).set 62 (eI 120 g10)).set 63 (eI 144 g11))) rfl rfl rfl ?_
  refine r_aload_n X dX0_takeOver_79 rfl ?_
  refine r_aload_n X dX0_takeOver_80 rfl ?_
  refine a_get (a := 2) X hn fg_X0_37 dX0_takeOver_81 rfl rfl ?_
  refine a_put (a := 61) X hn fp_X0_37 dX0_takeOver_84 rfl rfl rfl rfl ?_
  refine r_eq (h' := h0 ++ ((((hga n va6 va2_4 va2_5 va2_7 va2_9 0 va59_2 va61 va62 va63 va64 va65 va66 va67 va68 va69 va70 va71 va72 va73 va74 va75 va76 va77 va78 ++ T).set 61 (eO 0 [vR (n + 62), vR (n + 63), vI 0, vI 0, vI va2_4, vI va2_5, vI 0, vI va2_7, vI 0, vI (va61 7)])).set 62 (eI 120 g10)).set 63 (eI 144 g11))) rfl rfl rfl ?_
  refine r_aload_n X dX0_takeOver_87 rfl ?_
  refine r_aload_n X dX0_takeOver_88 rfl ?_
  refine a_get (a := 2) X hn fg_X0_40 dX0_takeOver_89 rfl rfl ?_
  refine a_put (a := 61) X hn fp_X0_40 dX0_takeOver_92 rfl rfl rfl rfl ?_
  refine r_eq (h' := h0 ++ ((((hga n va6 va2_4 va2_5 va2_7 va2_9 0 va59_2 va61 va62 va63 va64 va65 va66 va67 va68 va69 va70 va71 va72 va73 va74 va75 va76 va77 va78 ++ T).set 61 (eO 0 [vR (n + 62), vR (n + 63), vI 0, vI 0, vI va2_4, vI va2_5, vI 0, vI va2_7, vI 0, vI (nI va2_9)])).set 62 (eI 120 g10)).set 63 (eI 144 g11))) rfl rfl rfl ?_
  exact r_ret_v X hr hlk dX0_takeOver_95 (Nat.le_of_ble_eq_true rfl) (Nat.le_of_ble_eq_true rfl) ⟨rfl, ⟨_, _, rfl⟩⟩
set_option maxRecDepth 100000 in
set_option maxHeartbeats 4000000 in
theorem kh15_X7_keep (l : Launch) (G : PG) (h0 : PH) (n : Nat) (hn : h0.length = n) (T : PH) (va2_4 va2_5 va2_7 va59_2 : Int32) (va6 : Nat → Int32) (va61 : Nat → Int32) (va62 : Nat → Int32) (va63 : Nat → Int32) (va64 : Nat → Int32) (va65 : Nat → Int32) (va66 : Nat → Int32) (va67 : Nat → Int32) (va68 : Nat → Int32) (va69 : Nat → Int32) (va70 : Nat → Int32) (va71 : Nat → Int32) (va72 : Nat → Int32) (va73 : Nat → Int32) (va74 : Nat → Int32) (va75 : Nat → Int32) (va76 : Nat → Int32) (va77 : Nat → Int32) (va78 : Nat → Int32) (va2_9 : Nat) (hva2_9 : va2_9 ≤ 150) : PMet l G yX7_keep cX7_keep 2 none 2 0 0 [vR (n + 59), vR (n + 2)] (h0 ++ (hga n va6 va2_4 va2_5 va2_7 va2_9 0 va59_2 va61 va62 va63 va64 va65 va66 va67 va68 va69 va70 va71 va72 va73 va74 va75 va76 va77 va78 ++ T)) (qV (fun h' => ∃ g12 g13 : Nat → Int32, h' = h0 ++ (((((hga n va6 va2_4 va2_5 va2_7 va2_9 0 va59_2 va61 va62 va63 va64 va65 va66 va67 va68 va69 va70 va71 va72 va73 va74 va75 va76 va77 va78 ++ T).set 59 (eO 7 [vR (n + 60), vI 1, vI (if (6) < (va59_2 + 1) then (6) else (va59_2 + 1))])).set 61 (eO 0 [vR (n + 62), vR (n + 63), vI 0, vI 0, vI va2_4, vI va2_5, vI 0, vI va2_7, vI 0, vI (nI va2_9)])).set 62 (eI 120 g12)).set 63 (eI 144 g13)))) := by
  refine PMet.intro (by decide) (Nat.le_of_ble_eq_true rfl) ?_
  intro p e s m args below meth c X hr hlk hnm
  refine r_aload_n X dX7_keep_0 rfl ?_
  refine a_get (a := 59) X hn fg_X7_17 dX7_keep_1 rfl rfl ?_
  refine r_if_lt_f (tgt := 16) X dX7_keep_4 rfl (by decide +kernel) ?_
  refine r_aload_n X dX7_keep_7 rfl ?_
  refine a_get (a := 59) X hn fg_X7_17 dX7_keep_8 rfl rfl ?_
  refine r_bipush (v := 6) X dX7_keep_11 (by decide +kernel) ?_
  refine r_icmp_lt_t (tgt := 17) X dX7_keep_13 rfl (by decide +kernel) ?_
  refine r_aload_n X dX7_keep_17 rfl ?_
  refine a_get (a := 59) X hn fg_X7_11 dX7_keep_18 rfl rfl ?_
  refine r_aload_n X dX7_keep_21 rfl ?_
  refine a_get (a := 59) X hn fg_X7_17 dX7_keep_22 rfl rfl ?_
  refine a_aald (a := 60) (v := vR (n + 61)) (C := RX0) X hn rfl dX7_keep_25 rfl (inK (by decide +kernel)) rfl ?_
  refine r_aload_n X dX7_keep_26 rfl ?_
  refine r_V1v X kv_X7_25 dX7_keep_27 (apG (k := 61) hn rfl) rfl (kh14_X0_takeOver l G _ _ hn _ _ _ _ _ _ _ _ _ _ _ _ _ _ _ _ _ _ _ _ _ _ _ _ _ (by omega)) rfl (fun h' hΨ => ?_)
  obtain ⟨g12, g13, rfl⟩ := hΨ
  refine r_aload_n X dX7_keep_30 rfl ?_
  refine r_aload_n X dX7_keep_31 rfl ?_
  refine a_get (a := 59) X hn fg_X7_17 dX7_keep_32 rfl rfl ?_
  refine r_iconst (v := 1) X dX7_keep_35 (by decide +kernel) ?_
  refine r_iaddE (v := 1) X dX7_keep_36 (by decide +kernel) ?_
  refine r_bipush (v := 6) X dX7_keep_37 (by decide +kernel) ?_
  refine r_icmp_ge_f (tgt := 51) X dX7_keep_39 rfl (by decide +kernel) ?_
  refine r_aload_n X dX7_keep_42 rfl ?_
  refine a_get (a := 59) X hn fg_X7_17 dX7_keep_43 rfl rfl ?_
  refine r_iconst (v := 1) X dX7_keep_46 (by decide +kernel) ?_
  refine r_iaddE (v := 1) X dX7_keep_47 (by decide +kernel) ?_
  refine r_goto (tgt := 52) X dX7_keep_48 rfl ?_
  refine a_put (a := 59) X hn fp_X7_17 dX7_keep_52 rfl rfl rfl rfl ?_
  refine r_eq (h' := h0 ++ (((((hga n va6 va2_4 va2_5 va2_7 va2_9 0 va59_2 va61 va62 va63 va64 va65 va66 va67 va68 va69 va70 va71 va72 va73 va74 va75 va76 va77 va78 ++ T).set 59 (eO 7 [vR (n + 60), vI 1, vI va59_2])).set 61 (eO 0 [vR (n + 62), vR (n + 63), vI 0, vI 0, vI va2_4, vI va2_5, vI 0, vI va2_7, vI 0, vI (nI va2_9)])).set 62 (eI 120 g12)).set 63 (eI 144 g13))) rfl rfl rfl ?_
  refine r_aload_n X dX7_keep_55 rfl ?_
  refine r_aload_n X dX7_keep_56 rfl ?_
  refine a_get (a := 59) X hn fg_X7_21 dX7_keep_57 rfl rfl ?_
  refine r_iconst (v := 1) X dX7_keep_60 (by decide +kernel) ?_
  refine r_iadd X dX7_keep_61 ?_
  refine r_bipush (v := 6) X dX7_keep_62 (by decide +kernel) ?_
  refine r_min X ks_X7_29.1.1 dX7_keep_64 rfl rfl ?_
  refine a_put (a := 59) X hn fp_X7_21 dX7_keep_67 rfl rfl rfl rfl ?_
  refine r_eq (h' := h0 ++ (((((hga n va6 va2_4 va2_5 va2_7 va2_9 0 va59_2 va61 va62 va63 va64 va65 va66 va67 va68 va69 va70 va71 va72 va73 va74 va75 va76 va77 va78 ++ T).set 59 (eO 7 [vR (n + 60), vI 1, vI (if (6) < (va59_2 + 1) then (6) else (va59_2 + 1))])).set 61 (eO 0 [vR (n + 62), vR (n + 63), vI 0, vI 0, vI va2_4, vI va2_5, vI 0, vI va2_7, vI 0, vI (nI va2_9)])).set 62 (eI 120 g12)).set 63 (eI 144 g13))) rfl rfl rfl ?_
  exact r_ret_v X hr hlk dX7_keep_70 (Nat.le_of_ble_eq_true rfl) (Nat.le_of_ble_eq_true rfl) ⟨rfl, ⟨_, _, rfl⟩⟩
set_option maxRecDepth 100000 in
set_option maxHeartbeats 4000000 in
theorem kh16_X0_takeOver (l : Launch) (G : PG) (h0 : PH) (n : Nat) (hn : h0.length = n) (T : PH) (va2_4 va2_5 va2_7 va59_2 : Int32) (va6 : Nat → Int32) (va61 : Nat → Int32) (va62 : Nat → Int32) (va63 : Nat → Int32) (va64 : Nat → Int32) (va65 : Nat → Int32) (va66 : Nat → Int32) (va67 : Nat → Int32) (va68 : Nat → Int32) (va69 : Nat → Int32) (va70 : Nat → Int32) (va71 : Nat → Int32) (va72 : Nat → Int32) (va73 : Nat → Int32) (va74 : Nat → Int32) (va75 : Nat → Int32) (va76 : Nat → Int32) (va77 : Nat → Int32) (va78 : Nat → Int32) (va2_9 : Nat) (hva2_9 : va2_9 ≤ 150) : PMet l G yX0_takeOver cX0_takeOver 2 none 1 0 0 [vR (n + 64), vR (n + 2)] (h0 ++ (hga n va6 va2_4 va2_5 va2_7 va2_9 1 va59_2 va61 va62 va63 va64 va65 va66 va67 va68 va69 va70 va71 va72 va73 va74 va75 va76 va77 va78 ++ T)) (qV (fun h' => ∃ g16 g17 : Nat → Int32, h' = h0 ++ ((((hga n va6 va2_4 va2_5 va2_7 va2_9 1 va59_2 va61 va62 va63 va64 va65 va66 va67 va68 va69 va70 va71 va72 va73 va74 va75 va76 va77 va78 ++ T).set 64 (eO 0 [vR (n + 65), vR (n + 66), vI 0, vI 0, vI va2_4, vI va2_5, vI 0, vI va2_7, vI 0, vI (nI va2_9)])).set 65 (eI 120 g16)).set 66 (eI 144 g17)))) := by
  refine PMet.intro (by decide) (Nat.le_of_ble_eq_true rfl) ?_
  intro p e s m args below meth c X hr hlk hnm
  refine r_aload_n X dX0_takeOver_0 rfl ?_
  refine a_get (a := 2) X hn fg_X0_9 dX0_takeOver_1 rfl rfl ?_
  refine r_iconst (v := 0) X dX0_takeOver_4 (by decide +kernel) ?_
  refine r_aload_n X dX0_takeOver_5 rfl ?_
  refine a_get (a := 64) X hn fg_X0_9 dX0_takeOver_6 rfl rfl ?_
  refine r_iconst (v := 0) X dX0_takeOver_9 (by decide +kernel) ?_
  refine r_bipush (v := 120) X dX0_takeOver_10 (by decide +kernel) ?_
  refine a_copy_any (a0 := 3) (a := 65) X hn lc_X0_43 dX0_takeOver_12 rfl rfl (by decide +kernel) (by decide +kernel) (by decide +kernel) (by decide +kernel) (by decide +kernel) rfl rfl (fun g16 => ?_)
  refine r_eq (h' := h0 ++ ((hga n va6 va2_4 va2_5 va2_7 va2_9 1 va59_2 va61 va62 va63 va64 va65 va66 va67 va68 va69 va70 va71 va72 va73 va74 va75 va76 va77 va78 ++ T).set 65 (eI 120 g16))) rfl rfl rfl ?_
  refine r_aload_n X dX0_takeOver_15 rfl ?_
  refine a_get (a := 2) X hn fg_X0_15 dX0_takeOver_16 rfl rfl ?_
  refine r_iconst (v := 0) X dX0_takeOver_19 (by decide +kernel) ?_
  refine r_aload_n X dX0_takeOver_20 rfl ?_
  refine a_get (a := 64) X hn fg_X0_15 dX0_takeOver_21 rfl rfl ?_
  refine r_iconst (v := 0) X dX0_takeOver_24 (by decide +kernel) ?_
  refine r_sipush (v := 144) X dX0_takeOver_25 (by decide +kernel) ?_
  refine a_copy_any (a0 := 4) (a := 66) X hn lc_X0_43 dX0_takeOver_28 rfl rfl (by decide +kernel) (by decide +kernel) (by decide +kernel) (by decide +kernel) (by decide +kernel) rfl rfl (fun g17 => ?_)
  refine r_eq (h' := h0 ++ (((hga n va6 va2_4 va2_5 va2_7 va2_9 1 va59_2 va61 va62 va63 va64 va65 va66 va67 va68 va69 va70 va71 va72 va73 va74 va75 va76 va77 va78 ++ T).set 65 (eI 120 g16)).set 66 (eI 144 g17))) rfl rfl rfl ?_
  refine r_aload_n X dX0_takeOver_31 rfl ?_
  refine r_aload_n X dX0_takeOver_32 rfl ?_
  refine a_get (a := 2) X hn fg_X0_18 dX0_takeOver_33 rfl rfl ?_
  refine a_put (a := 64) X hn fp_X0_18 dX0_takeOver_36 rfl rfl rfl rfl ?_
  refine r_eq (h' := h0 ++ ((((hga n va6 va2_4 va2_5 va2_7 va2_9 1 va59_2 va61 va62 va63 va64 va65 va66 va67 va68 va69 va70 va71 va72 va73 va74 va75 va76 va77 va78 ++ T).set 64 (eO 0 [vR (n + 65), vR (n + 66), vI 0, vI (va64 1), vI (va64 2), vI (va64 3), vI (va64 4), vI (va64 5), vI (va64 6), vI (va64 7)])).set 65 (eI 120 g16)).set 66 (eI 144 g17))) rfl rfl rfl ?_
  refine r_aload_n X dX0_takeOver_39 rfl ?_
  refine r_aload_n X dX0_takeOver_40 rfl ?_
  refine a_get (a := 2) X hn fg_X0_22 dX0_takeOver_41 rfl rfl ?_
  refine a_put (a := 64) X hn fp_X0_22 dX0_takeOver_44 rfl rfl rfl rfl ?_
  refine r_eq (h' := h0 ++ ((((hga n va6 va2_4 va2_5 va2_7 va2_9 1 va59_2 va61 va62 va63 va64 va65 va66 va67 va68 va69 va70 va71 va72 va73 va74 va75 va76 va77 va78 ++ T).set 64 (eO 0 [vR (n + 65), vR (n + 66), vI 0, vI 0, vI (va64 2), vI (va64 3), vI (va64 4), vI (va64 5), vI (va64 6), vI (va64 7)])).set 65 (eI 120 g16)).set 66 (eI 144 g17))) rfl rfl rfl ?_
  refine r_aload_n X dX0_takeOver_47 rfl ?_
  refine r_aload_n X dX0_takeOver_48 rfl ?_
  refine a_get (a := 2) X hn fg_X0_25 dX0_takeOver_49 rfl rfl ?_
  refine a_put (a := 64) X hn fp_X0_25 dX0_takeOver_52 rfl rfl rfl rfl ?_
  refine r_eq (h' := h0 ++ ((((hga n va6 va2_4 va2_5 va2_7 va2_9 1 va59_2 va61 va62 va63 va64 va65 va66 va67 va68 va69 va70 va71 va72 va73 va74 va75 va76 va77 va78 ++ T).set 64 (eO 0 [vR (n + 65), vR (n + 66), vI 0, vI 0, vI va2_4, vI (va64 3), vI (va64 4), vI (va64 5), vI (va64 6), vI (va64 7)])).set 65 (eI 120 g16)).set 66 (eI 144 g17))) rfl rfl rfl ?_
  refine r_aload_n X dX0_takeOver_55 rfl ?_
  refine r_aload_n X dX0_takeOver_56 rfl ?_
  refine a_get (a := 2) X hn fg_X0_28 dX0_takeOver_57 rfl rfl ?_
  refine a_put (a := 64) X hn fp_X0_28 dX0_takeOver_60 rfl rfl rfl rfl ?_
  refine r_eq (h' := h0 ++ ((((hga n va6 va2_4 va2_5 va2_7 va2_9 1 va59_2 va61 va62 va63 va64 va65 va66 va67 va68 va69 va70 va71 va72 va73 va74 va75 va76 va77 va78 ++ T).set 64 (eO 0 [vR (n + 65), vR (n + 66), vI 0, vI 0, vI va2_4, vI va2_5, vI (va64 4), vI (va64 5), vI (va64 6), vI (va64 7)])).set 65 (eI 120 g16)).set 66 (eI 144 g17))) rfl rfl rfl ?_
  refine r_aload_n X dX0_takeOver_63 rfl ?_
  refine r_aload_n X dX0_takeOver_64 rfl ?_
  refine a_get (a := 2) X hn fg_X0_31 dX0_takeOver_65 rfl rfl ?_
  refine a_put (a := 64) X hn fp_X0_31 dX0_takeOver_68 rfl rfl rfl rfl ?_
  refine r_eq (h' := h0 ++ ((((hga n va6 va2_4 va2_5 va2_7 va2_9 1 va59_2 va61 va62 va63 va64 va65 va66 va67 va68 va69 va70 va71 va72 va73 va74 va75 va76 va77 va78 ++ T).set 64 (eO 0 [vR (n + 65), vR (n + 66), vI 0, vI 0, vI va2_4, vI va2_5, vI 0, vI (va64 5), vI (va64 6), vI (va64 7)])).set 65 (eI 120 g16)).set 66 (eI 144 g17))) rfl rfl rfl ?_
  refine r_aload_n X dX0_takeOver_71 rfl ?_
  refine r_aload_n X dX0_takeOver_72 rfl ?_
  refine a_get (a := 2) X hn fg_X0_34 dX0_takeOver_73 rfl rfl ?_
  refine a_put (a := 64) X hn fp_X0_34 dX0_takeOver_76 rfl rfl rfl rfl ?_
  refine r_eq (h' := h0 ++ ((((hga n va6 va2_4 va2_5 va2_7 va2_9 1 va59_2 va61 va62 va63 va64 va65 va66 va67 va68 va69 va70 va71 va72 va73 va74 va75 va76 va77 va78 ++ T).set 64 (eO 0 [vR (n + 65), vR (n + 66), vI 0, vI 0, vI va2_4, vI va2_5, vI 0, vI va2_7, vI (va64 6), vI (va64 7)])).set 65 (eI 120 g16)).set 66 (eI 144 g17))) rfl rfl rfl ?_
  refine r_aload_n X dX0_takeOver_79 rfl ?_
  refine r_aload_n X dX0_takeOver_80 rfl ?_
  refine a_get (a := 2) X hn fg_X0_37 dX0_takeOver_81 rfl rfl ?_
  refine a_put (a := 64) X hn fp_X0_37 dX0_takeOver_84 rfl rfl rfl rfl ?_
  refine r_eq (h' := h0 ++ ((((hga n va6 va2_4 va2_5 va2_7 va2_9 1 va59_2 va61 va62 va63 va64 va65 va66 va67 va68 va69 va70 va71 va72 va73 va74 va75 va76 va77 va78 ++ T).set 64 (eO 0 [vR (n + 65), vR (n + 66), vI 0, vI 0, vI va2_4, vI va2_5, vI 0, vI va2_7, vI 0, vI (va64 7)])).set 65 (eI 120 g16)).set 66 (eI 144 g17))) rfl rfl rfl ?_
  refine r_aload_n X dX0_takeOver_87 rfl ?_
  refine r_aload_n X dX0_takeOver_88 rfl ?_
  refine a_get (a := 2) X hn fg_X0_40 dX0_takeOver_89 rfl rfl ?_
  refine a_put (a := 64) X hn fp_X0_40 dX0_takeOver_92 rfl rfl rfl rfl ?_
  refine r_eq (h' := h0 ++ ((((hga n va6 va2_4 va2_5 va2_7 va2_9 1 va59_2 va61 va62 va63 va64 va65 va66 va67 va68 va69 va70 va71 va72 va73 va74 va75 va76 va77 va78 ++ T).set 64 (eO 0 [vR (n + 65), vR (n + 66), vI 0, vI 0, vI va2_4, vI va2_5, vI 0, vI va2_7, vI 0, vI (nI va2_9)])).set 65 (eI 120 g16)).set 66 (eI 144 g17))) rfl rfl rfl ?_
  exact r_ret_v X hr hlk dX0_takeOver_95 (Nat.le_of_ble_eq_true rfl) (Nat.le_of_ble_eq_true rfl) ⟨rfl, ⟨_, _, rfl⟩⟩
set_option maxRecDepth 100000 in
set_option maxHeartbeats 4000000 in
theorem kh17_X7_keep (l : Launch) (G : PG) (h0 : PH) (n : Nat) (hn : h0.length = n) (T : PH) (va2_4 va2_5 va2_7 va59_2 : Int32) (va6 : Nat → Int32) (va61 : Nat → Int32) (va62 : Nat → Int32) (va63 : Nat → Int32) (va64 : Nat → Int32) (va65 : Nat → Int32) (va66 : Nat → Int32) (va67 : Nat → Int32) (va68 : Nat → Int32) (va69 : Nat → Int32) (va70 : Nat → Int32) (va71 : Nat → Int32) (va72 : Nat → Int32) (va73 : Nat → Int32) (va74 : Nat → Int32) (va75 : Nat → Int32) (va76 : Nat → Int32) (va77 : Nat → Int32) (va78 : Nat → Int32) (va2_9 : Nat) (hva2_9 : va2_9 ≤ 150) : PMet l G yX7_keep cX7_keep 2 none 2 0 0 [vR (n + 59), vR (n + 2)] (h0 ++ (hga n va6 va2_4 va2_5 va2_7 va2_9 1 va59_2 va61 va62 va63 va64 va65 va66 va67 va68 va69 va70 va71 va72 va73 va74 va75 va76 va77 va78 ++ T)) (qV (fun h' => ∃ g18 g19 : Nat → Int32, h' = h0 ++ (((((hga n va6 va2_4 va2_5 va2_7 va2_9 1 va59_2 va61 va62 va63 va64 va65 va66 va67 va68 va69 va70 va71 va72 va73 va74 va75 va76 va77 va78 ++ T).set 59 (eO 7 [vR (n + 60), vI 2, vI (if (6) < (va59_2 + 1) then (6) else (va59_2 + 1))])).set 64 (eO 0 [vR (n + 65), vR (n + 66), vI 0, vI 0, vI va2_4, vI va2_5, vI 0, vI va2_7, vI 0, vI (nI va2_9)])).set 65 (eI 120 g18)).set 66 (eI 144 g19)))) := by
  refine PMet.intro (by decide) (Nat.le_of_ble_eq_true rfl) ?_
  intro p e s m args below meth c X hr hlk hnm
  refine r_aload_n X dX7_keep_0 rfl ?_
  refine a_get (a := 59) X hn fg_X7_17 dX7_keep_1 rfl rfl ?_
  refine r_if_lt_f (tgt := 16) X dX7_keep_4 rfl (by decide +kernel) ?_
  refine r_aload_n X dX7_keep_7 rfl ?_
  refine a_get (a := 59) X hn fg_X7_17 dX7_keep_8 rfl rfl ?_
  refine r_bipush (v := 6) X dX7_keep_11 (by decide +kernel) ?_
  refine r_icmp_lt_t (tgt := 17) X dX7_keep_13 rfl (by decide +kernel) ?_
  refine r_aload_n X dX7_keep_17 rfl ?_
  refine a_get (a := 59) X hn fg_X7_11 dX7_keep_18 rfl rfl ?_
  refine r_aload_n X dX7_keep_21 rfl ?_
  refine a_get (a := 59) X hn fg_X7_17 dX7_keep_22 rfl rfl ?_
  refine a_aald (a := 60) (v := vR (n + 64)) (C := RX0) X hn rfl dX7_keep_25 rfl (inK (by decide +kernel)) rfl ?_
  refine r_aload_n X dX7_keep_26 rfl ?_
  refine r_V1v X kv_X7_25 dX7_keep_27 (apG (k := 64) hn rfl) rfl (kh16_X0_takeOver l G _ _ hn _ _ _ _ _ _ _ _ _ _ _ _ _ _ _ _ _ _ _ _ _ _ _ _ _ (by omega)) rfl (fun h' hΨ => ?_)
  obtain ⟨g18, g19, rfl⟩ := hΨ
  refine r_aload_n X dX7_keep_30 rfl ?_
  refine r_aload_n X dX7_keep_31 rfl ?_
  refine a_get (a := 59) X hn fg_X7_17 dX7_keep_32 rfl rfl ?_
  refine r_iconst (v := 1) X dX7_keep_35 (by decide +kernel) ?_
  refine r_iaddE (v := 2) X dX7_keep_36 (by decide +kernel) ?_
  refine r_bipush (v := 6) X dX7_keep_37 (by decide +kernel) ?_
  refine r_icmp_ge_f (tgt := 51) X dX7_keep_39 rfl (by decide +kernel) ?_
  refine r_aload_n X dX7_keep_42 rfl ?_
  refine a_get (a := 59) X hn fg_X7_17 dX7_keep_43 rfl rfl ?_
  refine r_iconst (v := 1) X dX7_keep_46 (by decide +kernel) ?_
  refine r_iaddE (v := 2) X dX7_keep_47 (by decide +kernel) ?_
  refine r_goto (tgt := 52) X dX7_keep_48 rfl ?_
  refine a_put (a := 59) X hn fp_X7_17 dX7_keep_52 rfl rfl rfl rfl ?_
  refine r_eq (h' := h0 ++ (((((hga n va6 va2_4 va2_5 va2_7 va2_9 1 va59_2 va61 va62 va63 va64 va65 va66 va67 va68 va69 va70 va71 va72 va73 va74 va75 va76 va77 va78 ++ T).set 59 (eO 7 [vR (n + 60), vI 2, vI va59_2])).set 64 (eO 0 [vR (n + 65), vR (n + 66), vI 0, vI 0, vI va2_4, vI va2_5, vI 0, vI va2_7, vI 0, vI (nI va2_9)])).set 65 (eI 120 g18)).set 66 (eI 144 g19))) rfl rfl rfl ?_
  refine r_aload_n X dX7_keep_55 rfl ?_
  refine r_aload_n X dX7_keep_56 rfl ?_
  refine a_get (a := 59) X hn fg_X7_21 dX7_keep_57 rfl rfl ?_
  refine r_iconst (v := 1) X dX7_keep_60 (by decide +kernel) ?_
  refine r_iadd X dX7_keep_61 ?_
  refine r_bipush (v := 6) X dX7_keep_62 (by decide +kernel) ?_
  refine r_min X ks_X7_29.1.1 dX7_keep_64 rfl rfl ?_
  refine a_put (a := 59) X hn fp_X7_21 dX7_keep_67 rfl rfl rfl rfl ?_
  refine r_eq (h' := h0 ++ (((((hga n va6 va2_4 va2_5 va2_7 va2_9 1 va59_2 va61 va62 va63 va64 va65 va66 va67 va68 va69 va70 va71 va72 va73 va74 va75 va76 va77 va78 ++ T).set 59 (eO 7 [vR (n + 60), vI 2, vI (if (6) < (va59_2 + 1) then (6) else (va59_2 + 1))])).set 64 (eO 0 [vR (n + 65), vR (n + 66), vI 0, vI 0, vI va2_4, vI va2_5, vI 0, vI va2_7, vI 0, vI (nI va2_9)])).set 65 (eI 120 g18)).set 66 (eI 144 g19))) rfl rfl rfl ?_
  exact r_ret_v X hr hlk dX7_keep_70 (Nat.le_of_ble_eq_true rfl) (Nat.le_of_ble_eq_true rfl) ⟨rfl, ⟨_, _, rfl⟩⟩
set_option maxRecDepth 100000 in
set_option maxHeartbeats 4000000 in
theorem kh18_X0_takeOver (l : Launch) (G : PG) (h0 : PH) (n : Nat) (hn : h0.length = n) (T : PH) (va2_4 va2_5 va2_7 va59_2 : Int32) (va6 : Nat → Int32) (va61 : Nat → Int32) (va62 : Nat → Int32) (va63 : Nat → Int32) (va64 : Nat → Int32) (va65 : Nat → Int32) (va66 : Nat → Int32) (va67 : Nat → Int32) (va68 : Nat → Int32) (va69 : Nat → Int32) (va70 : Nat → Int32) (va71 : Nat → Int32) (va72 : Nat → Int32) (va73 : Nat → Int32) (va74 : Nat → Int32) (va75 : Nat → Int32) (va76 : Nat → Int32) (va77 : Nat → Int32) (va78 : Nat → Int32) (va2_9 : Nat) (hva2_9 : va2_9 ≤ 150) : PMet l G yX0_takeOver cX0_takeOver 2 none 1 0 0 [vR (n + 67), vR (n + 2)] (h0 ++ (hga n va6 va2_4 va2_5 va2_7 va2_9 2 va59_2 va61 va62 va63 va64 va65 va66 va67 va68 va69 va70 va71 va72 va73 va74 va75 va76 va77 va78 ++ T)) (qV (fun h' => ∃ g22 g23 : Nat → Int32, h' = h0 ++ ((((hga n va6 va2_4 va2_5 va2_7 va2_9 2 va59_2 va61 va62 va63 va64 va65 va66 va67 va68 va69 va70 va71 va72 va73 va74 va75 va76 va77 va78 ++ T).set 67 (eO 0 [vR (n + 68), vR (n + 69), vI 0, vI 0, vI va2_4, vI va2_5, vI 0, vI va2_7, vI 0, vI (nI va2_9)])).set 68 (eI 120 g22)).set 69 (eI 144 g23)))) := by
  refine PMet.intro (by decide) (Nat.le_of_ble_eq_true rfl) ?_
  intro p e s m args below meth c X hr hlk hnm
  refine r_aload_n X dX0_takeOver_0 rfl ?_
  refine a_get (a := 2) X hn fg_X0_9 dX0_takeOver_1 rfl rfl ?_
  refine r_iconst (v := 0) X dX0_takeOver_4 (by decide +kernel) ?_
  refine r_aload_n X dX0_takeOver_5 rfl ?_
  refine a_get (a := 67) X hn fg_X0_9 dX0_takeOver_6 rfl rfl ?_
  refine r_iconst (v := 0) X dX0_takeOver_9 (by decide +kernel) ?_
  refine r_bipush (v := 120) X dX0_takeOver_10 (by decide +kernel) ?_
  refine a_copy_any (a0 := 3) (a := 68) X hn lc_X0_43 dX0_takeOver_12 rfl rfl (by decide +kernel) (by decide +kernel) (by decide +kernel) (by decide +kernel) (by decide +kernel) rfl rfl (fun g22 => ?_)
  refine r_eq (h' := h0 ++ ((hga n va6 va2_4 va2_5 va2_7 va2_9 2 va59_2 va61 va62 va63 va64 va65 va66 va67 va68 va69 va70 va71 va72 va73 va74 va75 va76 va77 va78 ++ T).set 68 (eI 120 g22))) rfl rfl rfl ?_
  refine r_aload_n X dX0_takeOver_15 rfl ?_
  refine a_get (a := 2) X hn fg_X0_15 dX0_takeOver_16 rfl rfl ?_
  refine r_iconst (v := 0) X dX0_takeOver_19 (by decide +kernel) ?_
  refine r_aload_n X dX0_takeOver_20 rfl ?_
  refine a_get (a := 67) X hn fg_X0_15 dX0_takeOver_21 rfl rfl ?_
  refine r_iconst (v := 0) X dX0_takeOver_24 (by decide +kernel) ?_
  refine r_sipush (v := 144) X dX0_takeOver_25 (by decide +kernel) ?_
  refine a_copy_any (a0 := 4) (a := 69) X hn lc_X0_43 dX0_takeOver_28 rfl rfl (by decide +kernel) (by decide +kernel) (by decide +kernel) (by decide +kernel) (by decide +kernel) rfl rfl (fun g23 => ?_)
  refine r_eq (h' := h0 ++ (((hga n va6 va2_4 va2_5 va2_7 va2_9 2 va59_2 va61 va62 va63 va64 va65 va66 va67 va68 va69 va70 va71 va72 va73 va74 va75 va76 va77 va78 ++ T).set 68 (eI 120 g22)).set 69 (eI 144 g23))) rfl rfl rfl ?_
  refine r_aload_n X dX0_takeOver_31 rfl ?_
  refine r_aload_n X dX0_takeOver_32 rfl ?_
  refine a_get (a := 2) X hn fg_X0_18 dX0_takeOver_33 rfl rfl ?_
  refine a_put (a := 67) X hn fp_X0_18 dX0_takeOver_36 rfl rfl rfl rfl ?_
  refine r_eq (h' := h0 ++ ((((hga n va6 va2_4 va2_5 va2_7 va2_9 2 va59_2 va61 va62 va63 va64 va65 va66 va67 va68 va69 va70 va71 va72 va73 va74 va75 va76 va77 va78 ++ T).set 67 (eO 0 [vR (n + 68), vR (n + 69), vI 0, vI (va67 1), vI (va67 2), vI (va67 3), vI (va67 4), vI (va67 5), vI (va67 6), vI (va67 7)])).set 68 (eI 120 g22)).set 69 (eI 144 g23))) rfl rfl rfl ?_
  refine r_aload_n X dX0_takeOver_39 rfl ?_
  refine r_aload_n X dX0_takeOver_40 rfl ?_
  refine a_get (a := 2) X hn fg_X0_22 dX0_takeOver_41 rfl rfl ?_
  refine a_put (a := 67) X hn fp_X0_22 dX0_takeOver_44 rfl rfl rfl rfl ?_
  refine r_eq (h' := h0 ++ ((((hga n va6 va2_4 va2_5 va2_7 va2_9 2 va59_2 va61 va62 va63 va64 va65 va66 va67 va68 va69 va70 va71 va72 va73 va74 va75 va76 va77 va78 ++ T).set 67 (eO 0 [vR (n + 68), vR (n + 69), vI 0, vI 0, vI (va67 2), vI (va67 3), vI (va67 4), vI (va67 5), vI (va67 6), vI (va67 7)])).set 68 (eI 120 g22)).set 69 (eI 144 g23))) rfl rfl rfl ?_
  refine r_aload_n X dX0_takeOver_47 rfl ?_
  refine r_aload_n X dX0_takeOver_48 rfl ?_
  refine a_get (a := 2) X hn fg_X0_25 dX0_takeOver_49 rfl rfl ?_
  refine a_put (a := 67) X hn fp_X0_25 dX0_takeOver_52 rfl rfl rfl rfl ?_
  refine r_eq (h' := h0 ++ ((((hga n va6 va2_4 va2_5 va2_7 va2_9 2 va59_2 va61 va62 va63 va64 va65 va66 va67 va68 va69 va70 va71 va72 va73 va74 va75 va76 va77 va78 ++ T).set 67 (eO 0 [vR (n + 68), vR (n + 69), vI 0, vI 0, vI va2_4, vI (va67 3), vI (va67 4), vI (va67 5), vI (va67 6), vI (va67 7)])).set 68 (eI 120 g22)).set 69 (eI 144 g23))) rfl rfl rfl ?_
  refine r_aload_n X dX0_takeOver_55 rfl ?_
  refine r_aload_n X dX0_takeOver_56 rfl ?_
  refine a_get (a := 2) X hn fg_X0_28 dX0_takeOver_57 rfl rfl ?_
  refine a_put (a := 67) X hn fp_X0_28 dX0_takeOver_60 rfl rfl rfl rfl ?_
  refine r_eq (h' := h0 ++ ((((hga n va6 va2_4 va2_5 va2_7 va2_9 2 va59_2 va61 va62 va63 va64 va65 va66 va67 va68 va69 va70 va71 va72 va73 va74 va75 va76 va77 va78 ++ T).set 67 (eO 0 [vR (n + 68), vR (n + 69), vI 0, vI 0, vI va2_4, vI va2_5, vI (va67 4), vI (va67 5), vI (va67 6), vI (va67 7)])).set 68 (eI 120 g22)).set 69 (eI 144 g23))) rfl rfl rfl ?_
  refine r_aload_n X dX0_takeOver_63 rfl ?_
  refine r_aload_n X dX0_takeOver_64 rfl ?_
  refine a_get (a := 2) X hn fg_X0_31 dX0_takeOver_65 rfl rfl ?_
  refine a_put (a := 67) X hn fp_X0_31 dX0_takeOver_68 rfl rfl rfl rfl ?_
  refine r_eq (h' := h0 ++ ((((hga n va6 va2_4 va2_5 va2_7 va2_9 2 va59_2 va61 va62 va63 va64 va65 va66 va67 va68 va69 va70 va71 va72 va73 va74 va75 va76 va77 va78 ++ T).set 67 (eO 0 [vR (n + 68), vR (n + 69), vI 0, vI 0, vI va2_4, vI va2_5, vI 0, vI (va67 5), vI (va67 6), vI (va67 7)])).set 68 (eI 120 g22)).set 69 (eI 144 g23))) rfl rfl rfl ?_
  refine r_aload_n X dX0_takeOver_71 rfl ?_
  refine r_aload_n X dX0_takeOver_72 rfl ?_
  refine a_get (a := 2) X hn fg_X0_34 dX0_takeOver_73 rfl rfl ?_
  refine a_put (a := 67) X hn fp_X0_34 dX0_takeOver_76 rfl rfl rfl rfl ?_
  refine r_eq (h' := h0 ++ ((((hga n va6 va2_4 va2_5 va2_7 va2_9 2 va59_2 va61 va62 va63 va64 va65 va66 va67 va68 va69 va70 va71 va72 va73 va74 va75 va76 va77 va78 ++ T).set 67 (eO 0 [vR (n + 68), vR (n + 69), vI 0, vI 0, vI va2_4, vI va2_5, vI 0, vI va2_7, vI (va67 6), vI (va67 7)])).set 68 (eI 120 g22)).set 69 (eI 144 g23))) rfl rfl rfl ?_
  refine r_aload_n X dX0_takeOver_79 rfl ?_
  refine r_aload_n X dX0_takeOver_80 rfl ?_
  refine a_get (a := 2) X hn fg_X0_37 dX0_takeOver_81 rfl rfl ?_
  refine a_put (a := 67) X hn fp_X0_37 dX0_takeOver_84 rfl rfl rfl rfl ?_
  refine r_eq (h' := h0 ++ ((((hga n va6 va2_4 va2_5 va2_7 va2_9 2 va59_2 va61 va62 va63 va64 va65 va66 va67 va68 va69 va70 va71 va72 va73 va74 va75 va76 va77 va78 ++ T).set 67 (eO 0 [vR (n + 68), vR (n + 69), vI 0, vI 0, vI va2_4, vI va2_5, vI 0, vI va2_7, vI 0, vI (va67 7)])).set 68 (eI 120 g22)).set 69 (eI 144 g23))) rfl rfl rfl ?_
  refine r_aload_n X dX0_takeOver_87 rfl ?_
  refine r_aload_n X dX0_takeOver_88 rfl ?_
  refine a_get (a := 2) X hn fg_X0_40 dX0_takeOver_89 rfl rfl ?_
  refine a_put (a := 67) X hn fp_X0_40 dX0_takeOver_92 rfl rfl rfl rfl ?_
  refine r_eq (h' := h0 ++ ((((hga n va6 va2_4 va2_5 va2_7 va2_9 2 va59_2 va61 va62 va63 va64 va65 va66 va67 va68 va69 va70 va71 va72 va73 va74 va75 va76 va77 va78 ++ T).set 67 (eO 0 [vR (n + 68), vR (n + 69), vI 0, vI 0, vI va2_4, vI va2_5, vI 0, vI va2_7, vI 0, vI (nI va2_9)])).set 68 (eI 120 g22)).set 69 (eI 144 g23))) rfl rfl rfl ?_
  exact r_ret_v X hr hlk dX0_takeOver_95 (Nat.le_of_ble_eq_true rfl) (Nat.le_of_ble_eq_true rfl) ⟨rfl, ⟨_, _, rfl⟩⟩
