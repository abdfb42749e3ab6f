set_option maxRecDepth 100000 in
set_option maxHeartbeats 4000000 in
theorem kx2_X11_traitCan (l : Launch) (G : PG) (h0 : PH) (n : Nat) (hn : h0.length = n) (T : PH) (z0 : Int32) : PMet l G yX11_traitCan cX11_traitCan 2 (some .boolean) 0 0 0 [vI 0, vI z0] (h0 ++ (frC n ++ T)) (qI (fun x h' => ((z0 < 0) ∧ x = 0 ∧ h' = h0 ++ (frC n ++ T)) ∨ ((¬ z0 < 0) ∧ (255 < z0) ∧ x = 0 ∧ h' = h0 ++ (frC n ++ T)) ∨ ((¬ z0 < 0) ∧ (¬ 255 < z0) ∧ x = 1 ∧ h' = h0 ++ (frC n ++ T)))) := by
  refine PMet.intro (by decide) (Nat.le_of_ble_eq_true rfl) ?_
  intro p e s m args below meth c X hr hlk hnm
  refine r_iload_n X dX11_traitCan_0 rfl ?_
  refine r_tabIn (off := 31) (tgt := 32) X dX11_traitCan_1 (by decide +kernel) (by decide +kernel) (by decide +kernel) rfl ?_
  refine r_iload_n X dX11_traitCan_32 rfl ?_
  refine r_if_lt (tgt := 47) X dX11_traitCan_33 rfl (fun q1 => ?_) (fun q1 => ?_)
  · refine r_iconst (v := 0) X dX11_traitCan_47 (by decide +kernel) ?_
    exact r_ret_z X hr hlk (Or.inl rfl) dX11_traitCan_48 (Nat.le_of_ble_eq_true rfl) (Nat.le_of_ble_eq_true rfl) ⟨_, rfl, Or.inl ⟨q1, rfl, rfl⟩⟩
  · refine r_iload_n X dX11_traitCan_36 rfl ?_
    refine r_sipush (v := 255) X dX11_traitCan_37 (by decide +kernel) ?_
    refine r_icmp_gt (tgt := 47) X dX11_traitCan_40 rfl (fun q2 => ?_) (fun q2 => ?_)
    · refine r_iconst (v := 0) X dX11_traitCan_47 (by decide +kernel) ?_
      exact r_ret_z X hr hlk (Or.inl rfl) dX11_traitCan_48 (Nat.le_of_ble_eq_true rfl) (Nat.le_of_ble_eq_true rfl) ⟨_, rfl, Or.inr (Or.inl ⟨q1, q2, rfl, rfl⟩)⟩
    · refine r_iconst (v := 1) X dX11_traitCan_43 (by decide +kernel) ?_
      refine r_goto (tgt := 48) X dX11_traitCan_44 rfl ?_
      exact r_ret_z X hr hlk (Or.inr rfl) dX11_traitCan_48 (Nat.le_of_ble_eq_true rfl) (Nat.le_of_ble_eq_true rfl) ⟨_, rfl, Or.inr (Or.inr (⟨q1, q2, rfl, rfl⟩))⟩
set_option maxRecDepth 100000 in
set_option maxHeartbeats 4000000 in
theorem kx3_X11_traitCan (l : Launch) (G : PG) (h0 : PH) (n : Nat) (hn : h0.length = n) (T : PH) (z0 : Int32) : PMet l G yX11_traitCan cX11_traitCan 2 (some .boolean) 0 0 0 [vI 1, vI z0] (h0 ++ (frC n ++ T)) (qI (fun x h' => ((z0 < (-1)) ∧ x = 0 ∧ h' = h0 ++ (frC n ++ T)) ∨ ((¬ z0 < (-1)) ∧ (1 < z0) ∧ x = 0 ∧ h' = h0 ++ (frC n ++ T)) ∨ ((¬ z0 < (-1)) ∧ (¬ 1 < z0) ∧ x = 1 ∧ h' = h0 ++ (frC n ++ T)))) := by
  refine PMet.intro (by decide) (Nat.le_of_ble_eq_true rfl) ?_
  intro p e s m args below meth c X hr hlk hnm
  refine r_iload_n X dX11_traitCan_0 rfl ?_
  refine r_tabIn (off := 48) (tgt := 49) X dX11_traitCan_1 (by decide +kernel) (by decide +kernel) (by decide +kernel) rfl ?_
  refine r_iload_n X dX11_traitCan_49 rfl ?_
  refine r_iconst (v := -1) X dX11_traitCan_50 (by decide +kernel) ?_
  refine r_icmp_lt (tgt := 63) X dX11_traitCan_51 rfl (fun q1 => ?_) (fun q1 => ?_)
  · refine r_iconst (v := 0) X dX11_traitCan_63 (by decide +kernel) ?_
    exact r_ret_z X hr hlk (Or.inl rfl) dX11_traitCan_64 (Nat.le_of_ble_eq_true rfl) (Nat.le_of_ble_eq_true rfl) ⟨_, rfl, Or.inl ⟨q1, rfl, rfl⟩⟩
  · refine r_iload_n X dX11_traitCan_54 rfl ?_
    refine r_iconst (v := 1) X dX11_traitCan_55 (by decide +kernel) ?_
    refine r_icmp_gt (tgt := 63) X dX11_traitCan_56 rfl (fun q2 => ?_) (fun q2 => ?_)
    · refine r_iconst (v := 0) X dX11_traitCan_63 (by decide +kernel) ?_
      exact r_ret_z X hr hlk (Or.inl rfl) dX11_traitCan_64 (Nat.le_of_ble_eq_true rfl) (Nat.le_of_ble_eq_true rfl) ⟨_, rfl, Or.inr (Or.inl ⟨q1, q2, rfl, rfl⟩)⟩
    · refine r_iconst (v := 1) X dX11_traitCan_59 (by decide +kernel) ?_
      refine r_goto (tgt := 64) X dX11_traitCan_60 rfl ?_
      exact r_ret_z X hr hlk (Or.inr rfl) dX11_traitCan_64 (Nat.le_of_ble_eq_true rfl) (Nat.le_of_ble_eq_true rfl) ⟨_, rfl, Or.inr (Or.inr (⟨q1, q2, rfl, rfl⟩))⟩
set_option maxRecDepth 100000 in
set_option maxHeartbeats 4000000 in
theorem kx4_X11_traitCan (l : Launch) (G : PG) (h0 : PH) (n : Nat) (hn : h0.length = n) (T : PH) (z0 : Int32) : PMet l G yX11_traitCan cX11_traitCan 2 (some .boolean) 0 0 0 [vI 2, vI z0] (h0 ++ (frC n ++ T)) (qI (fun x h' => ((z0 < 0) ∧ x = 0 ∧ h' = h0 ++ (frC n ++ T)) ∨ ((¬ z0 < 0) ∧ (12 ≤ z0) ∧ x = 0 ∧ h' = h0 ++ (frC n ++ T)) ∨ ((¬ z0 < 0) ∧ (¬ 12 ≤ z0) ∧ x = 1 ∧ h' = h0 ++ (frC n ++ T)))) := by
  refine PMet.intro (by decide) (Nat.le_of_ble_eq_true rfl) ?_
  intro p e s m args below meth c X hr hlk hnm
  refine r_iload_n X dX11_traitCan_0 rfl ?_
  refine r_tabIn (off := 64) (tgt := 65) X dX11_traitCan_1 (by decide +kernel) (by decide +kernel) (by decide +kernel) rfl ?_
  refine r_iload_n X dX11_traitCan_65 rfl ?_
  refine r_if_lt (tgt := 79) X dX11_traitCan_66 rfl (fun q1 => ?_) (fun q1 => ?_)
  · refine r_iconst (v := 0) X dX11_traitCan_79 (by decide +kernel) ?_
    exact r_ret_z X hr hlk (Or.inl rfl) dX11_traitCan_80 (Nat.le_of_ble_eq_true rfl) (Nat.le_of_ble_eq_true rfl) ⟨_, rfl, Or.inl ⟨q1, rfl, rfl⟩⟩
  · refine r_iload_n X dX11_traitCan_69 rfl ?_
    refine r_bipush (v := 12) X dX11_traitCan_70 (by decide +kernel) ?_
    refine r_icmp_ge (tgt := 79) X dX11_traitCan_72 rfl (fun q2 => ?_) (fun q2 => ?_)
    · refine r_iconst (v := 0) X dX11_traitCan_79 (by decide +kernel) ?_
      exact r_ret_z X hr hlk (Or.inl rfl) dX11_traitCan_80 (Nat.le_of_ble_eq_true rfl) (Nat.le_of_ble_eq_true rfl) ⟨_, rfl, Or.inr (Or.inl ⟨q1, q2, rfl, rfl⟩)⟩
    · refine r_iconst (v := 1) X dX11_traitCan_75 (by decide +kernel) ?_
      refine r_goto (tgt := 80) X dX11_traitCan_76 rfl ?_
      exact r_ret_z X hr hlk (Or.inr rfl) dX11_traitCan_80 (Nat.le_of_ble_eq_true rfl) (Nat.le_of_ble_eq_true rfl) ⟨_, rfl, Or.inr (Or.inr (⟨q1, q2, rfl, rfl⟩))⟩
set_option maxRecDepth 100000 in
set_option maxHeartbeats 4000000 in
theorem kx5_X11_traitCan (l : Launch) (G : PG) (h0 : PH) (n : Nat) (hn : h0.length = n) (T : PH) (z0 : Int32) : PMet l G yX11_traitCan cX11_traitCan 2 (some .boolean) 0 0 0 [vI 3, vI z0] (h0 ++ (frC n ++ T)) (qI (fun x h' => ((z0 < 0) ∧ x = 0 ∧ h' = h0 ++ (frC n ++ T)) ∨ ((¬ z0 < 0) ∧ (9 < z0) ∧ x = 0 ∧ h' = h0 ++ (frC n ++ T)) ∨ ((¬ z0 < 0) ∧ (¬ 9 < z0) ∧ x = 1 ∧ h' = h0 ++ (frC n ++ T)))) := by
  refine PMet.intro (by decide) (Nat.le_of_ble_eq_true rfl) ?_
  intro p e s m args below meth c X hr hlk hnm
  refine r_iload_n X dX11_traitCan_0 rfl ?_
  refine r_tabIn (off := 80) (tgt := 81) X dX11_traitCan_1 (by decide +kernel) (by decide +kernel) (by decide +kernel) rfl ?_
  refine r_iload_n X dX11_traitCan_81 rfl ?_
  refine r_if_lt (tgt := 95) X dX11_traitCan_82 rfl (fun q1 => ?_) (fun q1 => ?_)
  · refine r_iconst (v := 0) X dX11_traitCan_95 (by decide +kernel) ?_
    exact r_ret_z X hr hlk (Or.inl rfl) dX11_traitCan_96 (Nat.le_of_ble_eq_true rfl) (Nat.le_of_ble_eq_true rfl) ⟨_, rfl, Or.inl ⟨q1, rfl, rfl⟩⟩
  · refine r_iload_n X dX11_traitCan_85 rfl ?_
    refine r_bipush (v := 9) X dX11_traitCan_86 (by decide +kernel) ?_
    refine r_icmp_gt (tgt := 95) X dX11_traitCan_88 rfl (fun q2 => ?_) (fun q2 => ?_)
    · refine r_iconst (v := 0) X dX11_traitCan_95 (by decide +kernel) ?_
      exact r_ret_z X hr hlk (Or.inl rfl) dX11_traitCan_96 (Nat.le_of_ble_eq_true rfl) (Nat.le_of_ble_eq_true rfl) ⟨_, rfl, Or.inr (Or.inl ⟨q1, q2, rfl, rfl⟩)⟩
    · refine r_iconst (v := 1) X dX11_traitCan_91 (by decide +kernel) ?_
      refine r_goto (tgt := 96) X dX11_traitCan_92 rfl ?_
      exact r_ret_z X hr hlk (Or.inr rfl) dX11_traitCan_96 (Nat.le_of_ble_eq_true rfl) (Nat.le_of_ble_eq_true rfl) ⟨_, rfl, Or.inr (Or.inr (⟨q1, q2, rfl, rfl⟩))⟩
set_option maxRecDepth 100000 in
set_option maxHeartbeats 4000000 in
theorem kx6_X0_has (l : Launch) (G : PG) (h0 : PH) (n : Nat) (hn : h0.length = n) (T : PH) : PMet l G yX0_has cX0_has 2 (some .boolean) 0 0 0 [vR (n + 2), vI 0] (h0 ++ ((frC n ++ T).set 2 (eO 0 [vR (n + 3), vR (n + 4), vI 1, vI 0, vI 0, vI 0, vI 0, vI 0, vI 0, vI 0]))) (qI (fun x h' => x = 1 ∧ h' = h0 ++ ((frC n ++ T).set 2 (eO 0 [vR (n + 3), vR (n + 4), vI 1, vI 0, vI 0, vI 0, vI 0, vI 0, vI 0, vI 0])))) := by
  refine PMet.intro (by decide) (Nat.le_of_ble_eq_true rfl) ?_
  intro p e s m args below meth c X hr hlk hnm
  refine r_iload_n X dX0_has_0 rfl ?_
  refine r_if_lt_f (tgt := 22) X dX0_has_1 rfl (by decide +kernel) ?_
  refine r_iload_n X dX0_has_4 rfl ?_
  refine r_aload_n X dX0_has_5 rfl ?_
  refine a_get (a := 2) X hn fg_X0_18 dX0_has_6 rfl rfl ?_
  refine r_icmp_ge_f (tgt := 22) X dX0_has_9 rfl (by decide +kernel) ?_
  refine r_iload_n X dX0_has_12 rfl ?_
  refine r_bipush (v := 20) X dX0_has_13 (by decide +kernel) ?_
  refine r_icmp_ge_f (tgt := 22) X dX0_has_15 rfl (by decide +kernel) ?_
  refine r_iconst (v := 1) X dX0_has_18 (by decide +kernel) ?_
  refine r_goto (tgt := 23) X dX0_has_19 rfl ?_
  exact r_ret_z X hr hlk (Or.inr rfl) dX0_has_23 (Nat.le_of_ble_eq_true rfl) (Nat.le_of_ble_eq_true rfl) ⟨_, rfl, ⟨rfl, rfl⟩⟩
set_option maxRecDepth 100000 in
set_option maxHeartbeats 4000000 in
theorem kx7_X0_setTrait (l : Launch) (G : PG) (h0 : PH) (n : Nat) (hn : h0.length = n) (T : PH) (z0 : Int32) : PMet l G yX0_setTrait cX0_setTrait 4 none 1 0 0 [vR (n + 2), vI 0, vI 0, vI z0] (h0 ++ ((frC n ++ T).set 2 (eO 0 [vR (n + 3), vR (n + 4), vI 1, vI 0, vI 0, vI 0, vI 0, vI 0, vI 0, vI 0]))) (qV (fun h' => h' = h0 ++ (((frC n ++ T).set 2 (eO 0 [vR (n + 3), vR (n + 4), vI 1, vI 0, vI 0, vI 0, vI 0, vI 0, vI 0, vI 0])).set 3 (eI 120 (upd (fun _ => 0) (0 : Int32).toNatClampNeg (z0)))))) := by
  refine PMet.intro (by decide) (Nat.le_of_ble_eq_true rfl) ?_
  intro p e s m args below meth c X hr hlk hnm
  refine r_aload_n X dX0_setTrait_0 rfl ?_
  refine r_iload_n X dX0_setTrait_1 rfl ?_
  refine r_V1i X kv_X0_49 dX0_setTrait_2 (apG (k := 2) hn rfl) rfl (kx6_X0_has l G _ _ hn _) rfl (fun x h' hΨ => ?_)
  obtain ⟨rfl, rfl⟩ := hΨ
  refine r_if_eq_f (tgt := 30) X dX0_setTrait_5 rfl (by decide +kernel) ?_
  refine r_iload_n X dX0_setTrait_8 rfl ?_
  refine r_if_lt_f (tgt := 30) X dX0_setTrait_9 rfl (by decide +kernel) ?_
  refine r_iload_n X dX0_setTrait_12 rfl ?_
  refine r_bipush (v := 6) X dX0_setTrait_13 (by decide +kernel) ?_
  refine r_icmp_ge_f (tgt := 30) X dX0_setTrait_15 rfl (by decide +kernel) ?_
  refine r_aload_n X dX0_setTrait_18 rfl ?_
  refine a_get (a := 2) X hn fg_X0_9 dX0_setTrait_19 rfl rfl ?_
  refine r_iload_n X dX0_setTrait_22 rfl ?_
  refine r_bipush (v := 20) X dX0_setTrait_23 (by decide +kernel) ?_
  refine r_imulE (v := 0) X dX0_setTrait_25 (by decide +kernel) ?_
  refine r_iload_n X dX0_setTrait_26 rfl ?_
  refine r_iaddE (v := 0) X dX0_setTrait_27 (by decide +kernel) ?_
  refine r_iload_n X dX0_setTrait_28 rfl ?_
  refine a_iast (a := 3) X hn dX0_setTrait_29 rfl (inK (by decide +kernel)) ?_
  exact r_ret_v X hr hlk dX0_setTrait_30 (Nat.le_of_ble_eq_true rfl) (Nat.le_of_ble_eq_true rfl) ⟨rfl, rfl⟩
set_option maxRecDepth 100000 in
set_option maxHeartbeats 4000000 in
theorem kx8_X0_has (l : Launch) (G : PG) (h0 : PH) (n : Nat) (hn : h0.length = n) (T : PH) (a : Int32) : PMet l G yX0_has cX0_has 2 (some .boolean) 0 0 0 [vR (n + 2), vI 0] (h0 ++ (((frC n ++ T).set 2 (eO 0 [vR (n + 3), vR (n + 4), vI 1, vI 0, vI 0, vI 0, vI 0, vI 0, vI 0, vI 0])).set 3 (eI 120 (upd (fun _ => 0) (0 : Int32).toNatClampNeg ((a)))))) (qI (fun x h' => x = 1 ∧ h' = h0 ++ (((frC n ++ T).set 2 (eO 0 [vR (n + 3), vR (n + 4), vI 1, vI 0, vI 0, vI 0, vI 0, vI 0, vI 0, vI 0])).set 3 (eI 120 (upd (fun _ => 0) (0 : Int32).toNatClampNeg ((a))))))) := by
  refine PMet.intro (by decide) (Nat.le_of_ble_eq_true rfl) ?_
  intro p e s m args below meth c X hr hlk hnm
  refine r_iload_n X dX0_has_0 rfl ?_
  refine r_if_lt_f (tgt := 22) X dX0_has_1 rfl (by decide +kernel) ?_
  refine r_iload_n X dX0_has_4 rfl ?_
  refine r_aload_n X dX0_has_5 rfl ?_
  refine a_get (a := 2) X hn fg_X0_18 dX0_has_6 rfl rfl ?_
  refine r_icmp_ge_f (tgt := 22) X dX0_has_9 rfl (by decide +kernel) ?_
  refine r_iload_n X dX0_has_12 rfl ?_
  refine r_bipush (v := 20) X dX0_has_13 (by decide +kernel) ?_
  refine r_icmp_ge_f (tgt := 22) X dX0_has_15 rfl (by decide +kernel) ?_
  refine r_iconst (v := 1) X dX0_has_18 (by decide +kernel) ?_
  refine r_goto (tgt := 23) X dX0_has_19 rfl ?_
  exact r_ret_z X hr hlk (Or.inr rfl) dX0_has_23 (Nat.le_of_ble_eq_true rfl) (Nat.le_of_ble_eq_true rfl) ⟨_, rfl, ⟨rfl, rfl⟩⟩
set_option maxRecDepth 100000 in
set_option maxHeartbeats 4000000 in
theorem kx9_X0_setTrait (l : Launch) (G : PG) (h0 : PH) (n : Nat) (hn : h0.length = n) (T : PH) (a z0 : Int32) : PMet l G yX0_setTrait cX0_setTrait 4 none 1 0 0 [vR (n + 2), vI 0, vI 1, vI z0] (h0 ++ (((frC n ++ T).set 2 (eO 0 [vR (n + 3), vR (n + 4), vI 1, vI 0, vI 0, vI 0, vI 0, vI 0, vI 0, vI 0])).set 3 (eI 120 (upd (fun _ => 0) (0 : Int32).toNatClampNeg ((a)))))) (qV (fun h' => h' = h0 ++ (((frC n ++ T).set 2 (eO 0 [vR (n + 3), vR (n + 4), vI 1, vI 0, vI 0, vI 0, vI 0, vI 0, vI 0, vI 0])).set 3 (eI 120 (upd (upd (fun _ => 0) (0 : Int32).toNatClampNeg ((a))) (20 : Int32).toNatClampNeg (z0)))))) := by
  refine PMet.intro (by decide) (Nat.le_of_ble_eq_true rfl) ?_
  intro p e s m args below meth c X hr hlk hnm
  refine r_aload_n X dX0_setTrait_0 rfl ?_
  refine r_iload_n X dX0_setTrait_1 rfl ?_
  refine r_V1i X kv_X0_49 dX0_setTrait_2 (apG (k := 2) hn rfl) rfl (kx8_X0_has l G _ _ hn _ _) rfl (fun x h' hΨ => ?_)
  obtain ⟨rfl, rfl⟩ := hΨ
  refine r_if_eq_f (tgt := 30) X dX0_setTrait_5 rfl (by decide +kernel) ?_
  refine r_iload_n X dX0_setTrait_8 rfl ?_
  refine r_if_lt_f (tgt := 30) X dX0_setTrait_9 rfl (by decide +kernel) ?_
  refine r_iload_n X dX0_setTrait_12 rfl ?_
  refine r_bipush (v := 6) X dX0_setTrait_13 (by decide +kernel) ?_
  refine r_icmp_ge_f (tgt := 30) X dX0_setTrait_15 rfl (by decide +kernel) ?_
  refine r_aload_n X dX0_setTrait_18 rfl ?_
  refine a_get (a := 2) X hn fg_X0_9 dX0_setTrait_19 rfl rfl ?_
  refine r_iload_n X dX0_setTrait_22 rfl ?_
  refine r_bipush (v := 20) X dX0_setTrait_23 (by decide +kernel) ?_
  refine r_imulE (v := 20) X dX0_setTrait_25 (by decide +kernel) ?_
  refine r_iload_n X dX0_setTrait_26 rfl ?_
  refine r_iaddE (v := 20) X dX0_setTrait_27 (by decide +kernel) ?_
  refine r_iload_n X dX0_setTrait_28 rfl ?_
  refine a_iast (a := 3) X hn dX0_setTrait_29 rfl (inK (by decide +kernel)) ?_
  refine r_eq (h' := h0 ++ (((frC n ++ T).set 2 (eO 0 [vR (n + 3), vR (n + 4), vI 1, vI 0, vI 0, vI 0, vI 0, vI 0, vI 0, vI 0])).set 3 (eI 120 (upd (upd (fun _ => 0) (0 : Int32).toNatClampNeg ((a))) (20 : Int32).toNatClampNeg (z0))))) rfl rfl rfl ?_
  exact r_ret_v X hr hlk dX0_setTrait_30 (Nat.le_of_ble_eq_true rfl) (Nat.le_of_ble_eq_true rfl) ⟨rfl, rfl⟩
set_option maxRecDepth 100000 in
set_option maxHeartbeats 4000000 in
theorem kx10_X0_has (l : Launch) (G : PG) (h0 : PH) (n : Nat) (hn : h0.length = n) (T : PH) (a b : Int32) : PMet l G yX0_has cX0_has 2 (some .boolean) 0 0 0 [vR (n + 2), vI 0] (h0 ++ (((frC n ++ T).set 2 (eO 0 [vR (n + 3), vR (n + 4), vI 1, vI 0, vI 0, vI 0, vI 0, vI 0, vI 0, vI 0])).set 3 (eI 120 (upd (upd (fun _ => 0) (0 : Int32).toNatClampNeg ((a))) (20 : Int32).toNatClampNeg ((b)))))) (qI (fun x h' => x = 1 ∧ h' = h0 ++ (((frC n ++ T).set 2 (eO 0 [vR (n + 3), vR (n + 4), vI 1, vI 0, vI 0, vI 0, vI 0, vI 0, vI 0, vI 0])).set 3 (eI 120 (upd (upd (fun _ => 0) (0 : Int32).toNatClampNeg ((a))) (20 : Int32).toNatClampNeg ((b))))))) := by
  refine PMet.intro (by decide) (Nat.le_of_ble_eq_true rfl) ?_
  intro p e s m args below meth c X hr hlk hnm
  refine r_iload_n X dX0_has_0 rfl ?_
  refine r_if_lt_f (tgt := 22) X dX0_has_1 rfl (by decide +kernel) ?_
  refine r_iload_n X dX0_has_4 rfl ?_
  refine r_aload_n X dX0_has_5 rfl ?_
  refine a_get (a := 2) X hn fg_X0_18 dX0_has_6 rfl rfl ?_
  refine r_icmp_ge_f (tgt := 22) X dX0_has_9 rfl (by decide +kernel) ?_
  refine r_iload_n X dX0_has_12 rfl ?_
  refine r_bipush (v := 20) X dX0_has_13 (by decide +kernel) ?_
  refine r_icmp_ge_f (tgt := 22) X dX0_has_15 rfl (by decide +kernel) ?_
  refine r_iconst (v := 1) X dX0_has_18 (by decide +kernel) ?_
  refine r_goto (tgt := 23) X dX0_has_19 rfl ?_
  exact r_ret_z X hr hlk (Or.inr rfl) dX0_has_23 (Nat.le_of_ble_eq_true rfl) (Nat.le_of_ble_eq_true rfl) ⟨_, rfl, ⟨rfl, rfl⟩⟩
set_option maxRecDepth 100000 in
set_option maxHeartbeats 4000000 in
theorem kx11_X0_setTrait (l : Launch) (G : PG) (h0 : PH) (n : Nat) (hn : h0.length = n) (T : PH) (a b z0 : Int32) : PMet l G yX0_setTrait cX0_setTrait 4 none 1 0 0 [vR (n + 2), vI 0, vI 2, vI z0] (h0 ++ (((frC n ++ T).set 2 (eO 0 [vR (n + 3), vR (n + 4), vI 1, vI 0, vI 0, vI 0, vI 0, vI 0, vI 0, vI 0])).set 3 (eI 120 (upd (upd (fun _ => 0) (0 : Int32).toNatClampNeg ((a))) (20 : Int32).toNatClampNeg ((b)))))) (qV (fun h' => h' = h0 ++ (((frC n ++ T).set 2 (eO 0 [vR (n + 3), vR (n + 4), vI 1, vI 0, vI 0, vI 0, vI 0, vI 0, vI 0, vI 0])).set 3 (eI 120 (upd (upd (upd (fun _ => 0) (0 : Int32).toNatClampNeg ((a))) (20 : Int32).toNatClampNeg ((b))) (40 : Int32).toNatClampNeg (z0)))))) := by
  refine PMet.intro (by decide) (Nat.le_of_ble_eq_true rfl) ?_
  intro p e s m args below meth c X hr hlk hnm
  refine r_aload_n X dX0_setTrait_0 rfl ?_
  refine r_iload_n X dX0_setTrait_1 rfl ?_
  refine r_V1i X kv_X0_49 dX0_setTrait_2 (apG (k := 2) hn rfl) rfl (kx10_X0_has l G _ _ hn _ _ _) rfl (fun x h' hΨ => ?_)
  obtain ⟨rfl, rfl⟩ := hΨ
  refine r_if_eq_f (tgt := 30) X dX0_setTrait_5 rfl (by decide +kernel) ?_
  refine r_iload_n X dX0_setTrait_8 rfl ?_
  refine r_if_lt_f (tgt := 30) X dX0_setTrait_9 rfl (by decide +kernel) ?_
  refine r_iload_n X dX0_setTrait_12 rfl ?_
  refine r_bipush (v := 6) X dX0_setTrait_13 (by decide +kernel) ?_
  refine r_icmp_ge_f (tgt := 30) X dX0_setTrait_15 rfl (by decide +kernel) ?_
  refine r_aload_n X dX0_setTrait_18 rfl ?_
  refine a_get (a := 2) X hn fg_X0_9 dX0_setTrait_19 rfl rfl ?_
  refine r_iload_n X dX0_setTrait_22 rfl ?_
  refine r_bipush (v := 20) X dX0_setTrait_23 (by decide +kernel) ?_
  refine r_imulE (v := 40) X dX0_setTrait_25 (by decide +kernel) ?_
  refine r_iload_n X dX0_setTrait_26 rfl ?_
  refine r_iaddE (v := 40) X dX0_setTrait_27 (by decide +kernel) ?_
  refine r_iload_n X dX0_setTrait_28 rfl ?_
  refine a_iast (a := 3) X hn dX0_setTrait_29 rfl (inK (by decide +kernel)) ?_
  refine r_eq (h' := h0 ++ (((frC n ++ T).set 2 (eO 0 [vR (n + 3), vR (n + 4), vI 1, vI 0, vI 0, vI 0, vI 0, vI 0, vI 0, vI 0])).set 3 (eI 120 (upd (upd (upd (fun _ => 0) (0 : Int32).toNatClampNeg ((a))) (20 : Int32).toNatClampNeg ((b))) (40 : Int32).toNatClampNeg (z0))))) rfl rfl rfl ?_
  exact r_ret_v X hr hlk dX0_setTrait_30 (Nat.le_of_ble_eq_true rfl) (Nat.le_of_ble_eq_true rfl) ⟨rfl, rfl⟩
set_option maxRecDepth 100000 in
set_option maxHeartbeats 4000000 in
theorem kx12_X0_has (l : Launch) (G : PG) (h0 : PH) (n : Nat) (hn : h0.length = n) (T : PH) (a b c0 : Int32) : PMet l G yX0_has cX0_has 2 (some .boolean) 0 0 0 [vR (n + 2), vI 0] (h0 ++ (((frC n ++ T).set 2 (eO 0 [vR (n + 3), vR (n + 4), vI 1, vI 0, vI 0, vI 0, vI 0, vI 0, vI 0, vI 0])).set 3 (eI 120 (upd (upd (upd (fun _ => 0) (0 : Int32).toNatClampNeg ((a))) (20 : Int32).toNatClampNeg ((b))) (40 : Int32).toNatClampNeg ((c0)))))) (qI (fun x h' => x = 1 ∧ h' = h0 ++ (((frC n ++ T).set 2 (eO 0 [vR (n + 3), vR (n + 4), vI 1, vI 0, vI 0, vI 0, vI 0, vI 0, vI 0, vI 0])).set 3 (eI 120 (upd (upd (upd (fun _ => 0) (0 : Int32).toNatClampNeg ((a))) (20 : Int32).toNatClampNeg ((b))) (40 : Int32).toNatClampNeg ((c0))))))) := by
  refine PMet.intro (by decide) (Nat.le_of_ble_eq_true rfl) ?_
  intro p e s m args below meth c X hr hlk hnm
  refine r_iload_n X dX0_has_0 rfl ?_
  refine r_if_lt_f (tgt := 22) X dX0_has_1 rfl (by decide +kernel) ?_
  refine r_iload_n X dX0_has_4 rfl ?_
  refine r_aload_n X dX0_has_5 rfl ?_
  refine a_get (a := 2) X hn fg_X0_18 dX0_has_6 rfl rfl ?_
  refine r_icmp_ge_f (tgt := 22) X dX0_has_9 rfl (by decide +kernel) ?_
  refine r_iload_n X dX0_has_12 rfl ?_
  refine r_bipush (v := 20) X dX0_has_13 (by decide +kernel) ?_
  refine r_icmp_ge_f (tgt := 22) X dX0_has_15 rfl (by decide +kernel) ?_
  refine r_iconst (v := 1) X dX0_has_18 (by decide +kernel) ?_
  refine r_goto (tgt := 23) X dX0_has_19 rfl ?_
  exact r_ret_z X hr hlk (Or.inr rfl) dX0_has_23 (Nat.le_of_ble_eq_true rfl) (Nat.le_of_ble_eq_true rfl) ⟨_, rfl, ⟨rfl, rfl⟩⟩
set_option maxRecDepth 100000 in
set_option maxHeartbeats 4000000 in
theorem kx13_X0_setTrait (l : Launch) (G : PG) (h0 : PH) (n : Nat) (hn : h0.length = n) (T : PH) (a b c0 z0 : Int32) : PMet l G yX0_setTrait cX0_setTrait 4 none 1 0 0 [vR (n + 2), vI 0, vI 3, vI z0] (h0 ++ (((frC n ++ T).set 2 (eO 0 [vR (n + 3), vR (n + 4), vI 1, vI 0, vI 0, vI 0, vI 0, vI 0, vI 0, vI 0])).set 3 (eI 120 (upd (upd (upd (fun _ => 0) (0 : Int32).toNatClampNeg ((a))) (20 : Int32).toNatClampNeg ((b))) (40 : Int32).toNatClampNeg ((c0)))))) (qV (fun h' => h' = h0 ++ (((frC n ++ T).set 2 (eO 0 [vR (n + 3), vR (n + 4), vI 1, vI 0, vI 0, vI 0, vI 0, vI 0, vI 0, vI 0])).set 3 (eI 120 (upd (upd (upd (upd (fun _ => 0) (0 : Int32).toNatClampNeg ((a))) (20 : Int32).toNatClampNeg ((b))) (40 : Int32).toNatClampNeg ((c0))) (60 : Int32).toNatClampNeg (z0)))))) := by
  refine PMet.intro (by decide) (Nat.le_of_ble_eq_true rfl) ?_
  intro p e s m args below meth c X hr hlk hnm
  refine r_aload_n X dX0_setTrait_0 rfl ?_
  refine r_iload_n X dX0_setTrait_1 rfl ?_
  refine r_V1i X kv_X0_49 dX0_setTrait_2 (apG (k := 2) hn rfl) rfl (kx12_X0_has l G _ _ hn _ _ _ _) rfl (fun x h' hΨ => ?_)
  obtain ⟨rfl, rfl⟩ := hΨ
  refine r_if_eq_f (tgt := 30) X dX0_setTrait_5 rfl (by decide +kernel) ?_
  refine r_iload_n X dX0_setTrait_8 rfl ?_
  refine r_if_lt_f (tgt := 30) X dX0_setTrait_9 rfl (by decide +kernel) ?_
  refine r_iload_n X dX0_setTrait_12 rfl ?_
  refine r_bipush (v := 6) X dX0_setTrait_13 (by decide +kernel) ?_
  refine r_icmp_ge_f (tgt := 30) X dX0_setTrait_15 rfl (by decide +kernel) ?_
  refine r_aload_n X dX0_setTrait_18 rfl ?_
  refine a_get (a := 2) X hn fg_X0_9 dX0_setTrait_19 rfl rfl ?_
  refine r_iload_n X dX0_setTrait_22 rfl ?_
  refine r_bipush (v := 20) X dX0_setTrait_23 (by decide +kernel) ?_
  refine r_imulE (v := 60) X dX0_setTrait_25 (by decide +kernel) ?_
  refine r_iload_n X dX0_setTrait_26 rfl ?_
  refine r_iaddE (v := 60) X dX0_setTrait_27 (by decide +kernel) ?_
  refine r_iload_n X dX0_setTrait_28 rfl ?_
  refine a_iast (a := 3) X hn dX0_setTrait_29 rfl (inK (by decide +kernel)) ?_
  refine r_eq (h' := h0 ++ (((frC n ++ T).set 2 (eO 0 [vR (n + 3), vR (n + 4), vI 1, vI 0, vI 0, vI 0, vI 0, vI 0, vI 0, vI 0])).set 3 (eI 120 (upd (upd (upd (upd (fun _ => 0) (0 : Int32).toNatClampNeg ((a))) (20 : Int32).toNatClampNeg ((b))) (40 : Int32).toNatClampNeg ((c0))) (60 : Int32).toNatClampNeg (z0))))) rfl rfl rfl ?_
  exact r_ret_v X hr hlk dX0_setTrait_30 (Nat.le_of_ble_eq_true rfl) (Nat.le_of_ble_eq_true rfl) ⟨rfl, rfl⟩
set_option maxRecDepth 100000 in
set_option maxHeartbeats 4000000 in
theorem kx14_X0_has (l : Launch) (G : PG) (h0 : PH) (n : Nat) (hn : h0.length = n) (T : PH) (a b c0 d : Int32) : PMet l G yX0_has cX0_has 2 (some .boolean) 0 0 0 [vR (n + 2), vI 0] (h0 ++ (((frC n ++ T).set 2 (eO 0 [vR (n + 3), vR (n + 4), vI 1, vI 0, vI 0, vI 0, vI 0, vI 0, vI 0, vI 0])).set 3 (eI 120 (upd (upd (upd (upd (fun _ => 0) (0 : Int32).toNatClampNeg ((a))) (20 : Int32).toNatClampNeg ((b))) (40 : Int32).toNatClampNeg ((c0))) (60 : Int32).toNatClampNeg ((d)))))) (qI (fun x h' => x = 1 ∧ h' = h0 ++ (((frC n ++ T).set 2 (eO 0 [vR (n + 3), vR (n + 4), vI 1, vI 0, vI 0, vI 0, vI 0, vI 0, vI 0, vI 0])).set 3 (eI 120 (upd (upd (upd (upd (fun _ => 0) (0 : Int32).toNatClampNeg ((a))) (20 : Int32).toNatClampNeg ((b))) (40 : Int32).toNatClampNeg ((c0))) (60 : Int32).toNatClampNeg ((d))))))) := by
  refine PMet.intro (by decide) (Nat.le_of_ble_eq_true rfl) ?_
  intro p e s m args below meth c X hr hlk hnm
  refine r_iload_n X dX0_has_0 rfl ?_
  refine r_if_lt_f (tgt := 22) X dX0_has_1 rfl (by decide +kernel) ?_
  refine r_iload_n X dX0_has_4 rfl ?_
  refine r_aload_n X dX0_has_5 rfl ?_
  refine a_get (a := 2) X hn fg_X0_18 dX0_has_6 rfl rfl ?_
  refine r_icmp_ge_f (tgt := 22) X dX0_has_9 rfl (by decide +kernel) ?_
  refine r_iload_n X dX0_has_12 rfl ?_
  refine r_bipush (v := 20) X dX0_has_13 (by decide +kernel) ?_
  refine r_icmp_ge_f (tgt := 22) X dX0_has_15 rfl (by decide +kernel) ?_
  refine r_iconst (v := 1) X dX0_has_18 (by decide +kernel) ?_
  refine r_goto (tgt := 23) X dX0_has_19 rfl ?_
  exact r_ret_z X hr hlk (Or.inr rfl) dX0_has_23 (Nat.le_of_ble_eq_true rfl) (Nat.le_of_ble_eq_true rfl) ⟨_, rfl, ⟨rfl, rfl⟩⟩
set_option maxRecDepth 100000 in
set_option maxHeartbeats 4000000 in
theorem kx15_X0_setTrait (l : Launch) (G : PG) (h0 : PH) (n : Nat) (hn : h0.length = n) (T : PH) (a b c0 d : Int32) : PMet l G yX0_setTrait cX0_setTrait 4 none 1 0 0 [vR (n + 2), vI 0, vI 4, vI 0] (h0 ++ (((frC n ++ T).set 2 (eO 0 [vR (n + 3), vR (n + 4), vI 1, vI 0, vI 0, vI 0, vI 0, vI 0, vI 0, vI 0])).set 3 (eI 120 (upd (upd (upd (upd (fun _ => 0) (0 : Int32).toNatClampNeg ((a))) (20 : Int32).toNatClampNeg ((b))) (40 : Int32).toNatClampNeg ((c0))) (60 : Int32).toNatClampNeg ((d)))))) (qV (fun h' => h' = h0 ++ (((frC n ++ T).set 2 (eO 0 [vR (n + 3), vR (n + 4), vI 1, vI 0, vI 0, vI 0, vI 0, vI 0, vI 0, vI 0])).set 3 (eI 120 (upd (upd (upd (upd (upd (fun _ => 0) (0 : Int32).toNatClampNeg ((a))) (20 : Int32).toNatClampNeg ((b))) (40 : Int32).toNatClampNeg ((c0))) (60 : Int32).toNatClampNeg ((d))) (80 : Int32).toNatClampNeg (0)))))) := by
  refine PMet.intro (by decide) (Nat.le_of_ble_eq_true rfl) ?_
  intro p e s m args below meth c X hr hlk hnm
  refine r_aload_n X dX0_setTrait_0 rfl ?_
  refine r_iload_n X dX0_setTrait_1 rfl ?_
  refine r_V1i X kv_X0_49 dX0_setTrait_2 (apG (k := 2) hn rfl) rfl (kx14_X0_has l G _ _ hn _ _ _ _ _) rfl (fun x h' hΨ => ?_)
  obtain ⟨rfl, rfl⟩ := hΨ
  refine r_if_eq_f (tgt := 30) X dX0_setTrait_5 rfl (by decide +kernel) ?_
  refine r_iload_n X dX0_setTrait_8 rfl ?_
  refine r_if_lt_f (tgt := 30) X dX0_setTrait_9 rfl (by decide +kernel) ?_
  refine r_iload_n X dX0_setTrait_12 rfl ?_
  refine r_bipush (v := 6) X dX0_setTrait_13 (by decide +kernel) ?_
  refine r_icmp_ge_f (tgt := 30) X dX0_setTrait_15 rfl (by decide +kernel) ?_
  refine r_aload_n X dX0_setTrait_18 rfl ?_
  refine a_get (a := 2) X hn fg_X0_9 dX0_setTrait_19 rfl rfl ?_
  refine r_iload_n X dX0_setTrait_22 rfl ?_
  refine r_bipush (v := 20) X dX0_setTrait_23 (by decide +kernel) ?_
  refine r_imulE (v := 80) X dX0_setTrait_25 (by decide +kernel) ?_
  refine r_iload_n X dX0_setTrait_26 rfl ?_
  refine r_iaddE (v := 80) X dX0_setTrait_27 (by decide +kernel) ?_
  refine r_iload_n X dX0_setTrait_28 rfl ?_
  refine a_iast (a := 3) X hn dX0_setTrait_29 rfl (inK (by decide +kernel)) ?_
  refine r_eq (h' := h0 ++ (((frC n ++ T).set 2 (eO 0 [vR (n + 3), vR (n + 4), vI 1, vI 0, vI 0, vI 0, vI 0, vI 0, vI 0, vI 0])).set 3 (eI 120 (upd (upd (upd (upd (upd (fun _ => 0) (0 : Int32).toNatClampNeg ((a))) (20 : Int32).toNatClampNeg ((b))) (40 : Int32).toNatClampNeg ((c0))) (60 : Int32).toNatClampNeg ((d))) (80 : Int32).toNatClampNeg (0))))) rfl rfl rfl ?_
  exact r_ret_v X hr hlk dX0_setTrait_30 (Nat.le_of_ble_eq_true rfl) (Nat.le_of_ble_eq_true rfl) ⟨rfl, rfl⟩
set_option maxRecDepth 100000 in
set_option maxHeartbeats 4000000 in
theorem kx16_X0_has (l : Launch) (G : PG) (h0 : PH) (n : Nat) (hn : h0.length = n) (T : PH) (a b c0 d : Int32) : PMet l G yX0_has cX0_has 2 (some .boolean) 0 0 0 [vR (n + 2), vI 0] (h0 ++ (((frC n ++ T).set 2 (eO 0 [vR (n + 3), vR (n + 4), vI 1, vI 0, vI 0, vI 0, vI 0, vI 0, vI 0, vI 0])).set 3 (eI 120 (upd (upd (upd (upd (upd (fun _ => 0) (0 : Int32).toNatClampNeg ((a))) (20 : Int32).toNatClampNeg ((b))) (40 : Int32).toNatClampNeg ((c0))) (60 : Int32).toNatClampNeg ((d))) (80 : Int32).toNatClampNeg (0))))) (qI (fun x h' => x = 1 ∧ h' = h0 ++ (((frC n ++ T).set 2 (eO 0 [vR (n + 3), vR (n + 4), vI 1, vI 0, vI 0, vI 0, vI 0, vI 0, vI 0, vI 0])).set 3 (eI 120 (upd (upd (upd (upd (upd (fun _ => 0) (0 : Int32).toNatClampNeg ((a))) (20 : Int32).toNatClampNeg ((b))) (40 : Int32).toNatClampNeg ((c0))) (60 : Int32).toNatClampNeg ((d))) (80 : Int32).toNatClampNeg (0)))))) := by
  refine PMet.intro (by decide) (Nat.le_of_ble_eq_true rfl) ?_
  intro p e s m args below meth c X hr hlk hnm
  refine r_iload_n X dX0_has_0 rfl ?_
  refine r_if_lt_f (tgt := 22) X dX0_has_1 rfl (by decide +kernel) ?_
  refine r_iload_n X dX0_has_4 rfl ?_
  refine r_aload_n X dX0_has_5 rfl ?_
  refine a_get (a := 2) X hn fg_X0_18 dX0_has_6 rfl rfl ?_
  refine r_icmp_ge_f (tgt := 22) X dX0_has_9 rfl (by decide +kernel) ?_
  refine r_iload_n X dX0_has_12 rfl ?_
  refine r_bipush (v := 20) X dX0_has_13 (by decide +kernel) ?_
  refine r_icmp_ge_f (tgt := 22) X dX0_has_15 rfl (by decide +kernel) ?_
  refine r_iconst (v := 1) X dX0_has_18 (by decide +kernel) ?_
  refine r_goto (tgt := 23) X dX0_has_19 rfl ?_
  exact r_ret_z X hr hlk (Or.inr rfl) dX0_has_23 (Nat.le_of_ble_eq_true rfl) (Nat.le_of_ble_eq_true rfl) ⟨_, rfl, ⟨rfl, rfl⟩⟩
set_option maxRecDepth 100000 in
set_option maxHeartbeats 4000000 in
theorem kx17_X0_setTrait (l : Launch) (G : PG) (h0 : PH) (n : Nat) (hn : h0.length = n) (T : PH) (a b c0 d : Int32) : PMet l G yX0_setTrait cX0_setTrait 4 none 1 0 0 [vR (n + 2), vI 0, vI 5, vI 0] (h0 ++ (((frC n ++ T).set 2 (eO 0 [vR (n + 3), vR (n + 4), vI 1, vI 0, vI 0, vI 0, vI 0, vI 0, vI 0, vI 0])).set 3 (eI 120 (upd (upd (upd (upd (upd (fun _ => 0) (0 : Int32).toNatClampNeg ((a))) (20 : Int32).toNatClampNeg ((b))) (40 : Int32).toNatClampNeg ((c0))) (60 : Int32).toNatClampNeg ((d))) (80 : Int32).toNatClampNeg (0))))) (qV (fun h' => h' = h0 ++ (((frC n ++ T).set 2 (eO 0 [vR (n + 3), vR (n + 4), vI 1, vI 0, vI 0, vI 0, vI 0, vI 0, vI 0, vI 0])).set 3 (eI 120 (upd (upd (upd (upd (upd (upd (fun _ => 0) (0 : Int32).toNatClampNeg ((a))) (20 : Int32).toNatClampNeg ((b))) (40 : Int32).toNatClampNeg ((c0))) (60 : Int32).toNatClampNeg ((d))) (80 : Int32).toNatClampNeg (0)) (100 : Int32).toNatClampNeg (0)))))) := by
  refine PMet.intro (by decide) (Nat.le_of_ble_eq_true rfl) ?_
  intro p e s m args below meth c X hr hlk hnm
  refine r_aload_n X dX0_setTrait_0 rfl ?_
  refine r_iload_n X dX0_setTrait_1 rfl ?_
  refine r_V1i X kv_X0_49 dX0_setTrait_2 (apG (k := 2) hn rfl) rfl (kx16_X0_has l G _ _ hn _ _ _ _ _) rfl (fun x h' hΨ => ?_)
  obtain ⟨rfl, rfl⟩ := hΨ
  refine r_if_eq_f (tgt := 30) X dX0_setTrait_5 rfl (by decide +kernel) ?_
  refine r_iload_n X dX0_setTrait_8 rfl ?_
  refine r_if_lt_f (tgt := 30) X dX0_setTrait_9 rfl (by decide +kernel) ?_
  refine r_iload_n X dX0_setTrait_12 rfl ?_
  refine r_bipush (v := 6) X dX0_setTrait_13 (by decide +kernel) ?_
  refine r_icmp_ge_f (tgt := 30) X dX0_setTrait_15 rfl (by decide +kernel) ?_
  refine r_aload_n X dX0_setTrait_18 rfl ?_
  refine a_get (a := 2) X hn fg_X0_9 dX0_setTrait_19 rfl rfl ?_
  refine r_iload_n X dX0_setTrait_22 rfl ?_
  refine r_bipush (v := 20) X dX0_setTrait_23 (by decide +kernel) ?_
  refine r_imulE (v := 100) X dX0_setTrait_25 (by decide +kernel) ?_
  refine r_iload_n X dX0_setTrait_26 rfl ?_
  refine r_iaddE (v := 100) X dX0_setTrait_27 (by decide +kernel) ?_
  refine r_iload_n X dX0_setTrait_28 rfl ?_
  refine a_iast (a := 3) X hn dX0_setTrait_29 rfl (inK (by decide +kernel)) ?_
  refine r_eq (h' := h0 ++ (((frC n ++ T).set 2 (eO 0 [vR (n + 3), vR (n + 4), vI 1, vI 0, vI 0, vI 0, vI 0, vI 0, vI 0, vI 0])).set 3 (eI 120 (upd (upd (upd (upd (upd (upd (fun _ => 0) (0 : Int32).toNatClampNeg ((a))) (20 : Int32).toNatClampNeg ((b))) (40 : Int32).toNatClampNeg ((c0))) (60 : Int32).toNatClampNeg ((d))) (80 : Int32).toNatClampNeg (0)) (100 : Int32).toNatClampNeg (0))))) rfl rfl rfl ?_
  exact r_ret_v X hr hlk dX0_setTrait_30 (Nat.le_of_ble_eq_true rfl) (Nat.le_of_ble_eq_true rfl) ⟨rfl, rfl⟩
set_option maxRecDepth 100000 in
set_option maxHeartbeats 4000000 in
theorem kx18_X7_forget (l : Launch) (G : PG) (h0 : PH) (n : Nat) (hn : h0.length = n) (T : PH) (a b c0 d : Int32) : PMet l G yX7_forget cX7_forget 1 none 0 0 0 [vR (n + 59)] (h0 ++ (((frC n ++ T).set 2 (eO 0 [vR (n + 3), vR (n + 4), vI 1, vI 0, vI 0, vI 0, vI 0, vI 0, vI 0, vI 0])).set 3 (eI 120 (upd (upd (upd (upd (upd (upd (fun _ => 0) (0 : Int32).toNatClampNeg ((a))) (20 : Int32).toNatClampNeg ((b))) (40 : Int32).toNatClampNeg ((c0))) (60 : Int32).toNatClampNeg ((d))) (80 : Int32).toNatClampNeg (0)) (100 : Int32).toNatClampNeg (0))))) (qV (fun h' => h' = h0 ++ (((frC n ++ T).set 2 (eO 0 [vR (n + 3), vR (n + 4), vI 1, vI 0, vI 0, vI 0, vI 0, vI 0, vI 0, vI 0])).set 3 (eI 120 (upd (upd (upd (upd (upd (upd (fun _ => 0) (0 : Int32).toNatClampNeg ((a))) (20 : Int32).toNatClampNeg ((b))) (40 : Int32).toNatClampNeg ((c0))) (60 : Int32).toNatClampNeg ((d))) (80 : Int32).toNatClampNeg (0)) (100 : Int32).toNatClampNeg (0)))))) := by
  refine PMet.intro (by decide) (Nat.le_of_ble_eq_true rfl) ?_
  intro p e s m args below meth c X hr hlk hnm
  refine r_aload_n X dX7_forget_0 rfl ?_
  refine r_iconst (v := 0) X dX7_forget_1 (by decide +kernel) ?_
  refine a_put (a := 59) X hn fp_X7_21 dX7_forget_2 rfl rfl rfl rfl ?_
  refine r_eq (h' := h0 ++ (((frC n ++ T).set 2 (eO 0 [vR (n + 3), vR (n + 4), vI 1, vI 0, vI 0, vI 0, vI 0, vI 0, vI 0, vI 0])).set 3 (eI 120 (upd (upd (upd (upd (upd (upd (fun _ => 0) (0 : Int32).toNatClampNeg ((a))) (20 : Int32).toNatClampNeg ((b))) (40 : Int32).toNatClampNeg ((c0))) (60 : Int32).toNatClampNeg ((d))) (80 : Int32).toNatClampNeg (0)) (100 : Int32).toNatClampNeg (0))))) rfl rfl rfl ?_
  exact r_ret_v X hr hlk dX7_forget_5 (Nat.le_of_ble_eq_true rfl) (Nat.le_of_ble_eq_true rfl) ⟨rfl, rfl⟩
set_option maxRecDepth 100000 in
set_option maxHeartbeats 4000000 in
theorem x_voter (l : Launch) (G : PG) (h0 : PH) (n : Nat) (hn : h0.length = n) (T : PH) (a b c0 d : Int32) : PMet l G yX11_voter cX11_voter 7 (some .int) 2 0 0 [vR (n + 0), vI a, vI b, vI c0, vI d] (h0 ++ (frC n ++ T)) (qI (fun x h' => x = sp_voter a b c0 d ∧ kp n 103 T h')) := by
  refine PMet.intro (by decide) (Nat.le_of_ble_eq_true rfl) ?_
  intro p e s m args below meth c X hr hlk hnm
  refine r_iconst (v := 0) X dX11_voter_0 (by decide +kernel) ?_
  refine r_iload_n X dX11_voter_1 rfl ?_
  refine r_S2i X ks_X11_95 dX11_voter_2 (kx2_X11_traitCan l G _ _ hn _ _) rfl (fun x h' hΨ => ?_)
  rcases hΨ with ⟨q1, rfl, rfl⟩ | ⟨q2, q3, rfl, rfl⟩ | ⟨q4, q5, rfl, rfl⟩
  · refine r_if_eq_t (tgt := 37) X dX11_voter_5 rfl (by decide +kernel) ?_
    refine r_iconst (v := 0) X dX11_voter_37 (by decide +kernel) ?_
    refine r_istore X dX11_voter_38 (by decide) ?_
    refine r_iload X dX11_voter_40 rfl ?_
    refine r_if_eq_t (tgt := 60) X dX11_voter_42 rfl (by decide +kernel) ?_
    refine r_iconst (v := -1) X dX11_voter_60 (by decide +kernel) ?_
    exact r_ret_i X hr hlk dX11_voter_61 (Nat.le_of_ble_eq_true rfl) (Nat.le_of_ble_eq_true rfl) ⟨_, rfl, by unfold sp_voter; (repeat' split) <;> first | rfl | (exfalso; have e0 : (-1 : Int32).toInt = -1 := (by decide); have e1 : (0 : Int32).toInt = 0 := (by decide); have e2 : (1 : Int32).toInt = 1 := (by decide); have e3 : (11 : Int32).toInt = 11 := (by decide); have e4 : (255 : Int32).toInt = 255 := (by decide); have e5 : (9 : Int32).toInt = 9 := (by decide); simp only [inR, Int32.lt_iff_toInt_lt, Int32.le_iff_toInt_le, ← Int32.toInt_inj, true_or, or_true, not_true_eq_false, and_true, true_and, false_or, or_false, false_and, and_false, not_false_eq_true] at * <;> omega), kp_of hn rfl rfl⟩
  · refine r_if_eq_t (tgt := 37) X dX11_voter_5 rfl (by decide +kernel) ?_
    refine r_iconst (v := 0) X dX11_voter_37 (by decide +kernel) ?_
    refine r_istore X dX11_voter_38 (by decide) ?_
    refine r_iload X dX11_voter_40 rfl ?_
    refine r_if_eq_t (tgt := 60) X dX11_voter_42 rfl (by decide +kernel) ?_
    refine r_iconst (v := -1) X dX11_voter_60 (by decide +kernel) ?_
    exact r_ret_i X hr hlk dX11_voter_61 (Nat.le_of_ble_eq_true rfl) (Nat.le_of_ble_eq_true rfl) ⟨_, rfl, by unfold sp_voter; (repeat' split) <;> first | rfl | (exfalso; have e0 : (-1 : Int32).toInt = -1 := (by decide); have e1 : (0 : Int32).toInt = 0 := (by decide); have e2 : (1 : Int32).toInt = 1 := (by decide); have e3 : (11 : Int32).toInt = 11 := (by decide); have e4 : (255 : Int32).toInt = 255 := (by decide); have e5 : (9 : Int32).toInt = 9 := (by decide); simp only [inR, Int32.lt_iff_toInt_lt, Int32.le_iff_toInt_le, ← Int32.toInt_inj, true_or, or_true, not_true_eq_false, and_true, true_and, false_or, or_false, false_and, and_false, not_false_eq_true] at * <;> omega), kp_of hn rfl rfl⟩
  · refine r_if_eq_f (tgt := 37) X dX11_voter_5 rfl (by decide +kernel) ?_
    refine r_iconst (v := 1) X dX11_voter_8 (by decide +kernel) ?_
    refine r_iload_n X dX11_voter_9 rfl ?_
    refine r_S2i X ks_X11_95 dX11_voter_10 (kx3_X11_traitCan l G _ _ hn _ _) rfl (fun x h' hΨ => ?_)
    rcases hΨ with ⟨q6, rfl, rfl⟩ | ⟨q7, q8, rfl, rfl⟩ | ⟨q9, q10, rfl, rfl⟩
    · refine r_if_eq_t (tgt := 37) X dX11_voter_13 rfl (by decide +kernel) ?_
      refine r_iconst (v := 0) X dX11_voter_37 (by decide +kernel) ?_
      refine r_istore X dX11_voter_38 (by decide) ?_
      refine r_iload X dX11_voter_40 rfl ?_
      refine r_if_eq_t (tgt := 60) X dX11_voter_42 rfl (by decide +kernel) ?_
      refine r_iconst (v := -1) X dX11_voter_60 (by decide +kernel) ?_
      exact r_ret_i X hr hlk dX11_voter_61 (Nat.le_of_ble_eq_true rfl) (Nat.le_of_ble_eq_true rfl) ⟨_, rfl, by unfold sp_voter; (repeat' split) <;> first | rfl | (exfalso; have e0 : (-1 : Int32).toInt = -1 := (by decide); have e1 : (0 : Int32).toInt = 0 := (by decide); have e2 : (1 : Int32).toInt = 1 := (by decide); have e3 : (11 : Int32).toInt = 11 := (by decide); have e4 : (255 : Int32).toInt = 255 := (by decide); have e5 : (9 : Int32).toInt = 9 := (by decide); simp only [inR, Int32.lt_iff_toInt_lt, Int32.le_iff_toInt_le, ← Int32.toInt_inj, true_or, or_true, not_true_eq_false, and_true, true_and, false_or, or_false, false_and, and_false, not_false_eq_true] at * <;> omega), kp_of hn rfl rfl⟩
    · refine r_if_eq_t (tgt := 37) X dX11_voter_13 rfl (by decide +kernel) ?_
      refine r_iconst (v := 0) X dX11_voter_37 (by decide +kernel) ?_
      refine r_istore X dX11_voter_38 (by decide) ?_
      refine r_iload X dX11_voter_40 rfl ?_
      refine r_if_eq_t (tgt := 60) X dX11_voter_42 rfl (by decide +kernel) ?_
      refine r_iconst (v := -1) X dX11_voter_60 (by decide +kernel) ?_
      exact r_ret_i X hr hlk dX11_voter_61 (Nat.le_of_ble_eq_true rfl) (Nat.le_of_ble_eq_true rfl) ⟨_, rfl, by unfold sp_voter; (repeat' split) <;> first | rfl | (exfalso; have e0 : (-1 : Int32).toInt = -1 := (by decide); have e1 : (0 : Int32).toInt = 0 := (by decide); have e2 : (1 : Int32).toInt = 1 := (by decide); have e3 : (11 : Int32).toInt = 11 := (by decide); have e4 : (255 : Int32).toInt = 255 := (by decide); have e5 : (9 : Int32).toInt = 9 := (by decide); simp only [inR, Int32.lt_iff_toInt_lt, Int32.le_iff_toInt_le, ← Int32.toInt_inj, true_or, or_true, not_true_eq_false, and_true, true_and, false_or, or_false, false_and, and_false, not_false_eq_true] at * <;> omega), kp_of hn rfl rfl⟩
    · refine r_if_eq_f (tgt := 37) X dX11_voter_13 rfl (by decide +kernel) ?_
      refine r_iconst (v := 2) X dX11_voter_16 (by decide +kernel) ?_
      refine r_iload_n X dX11_voter_17 rfl ?_
      refine r_S2i X ks_X11_95 dX11_voter_18 (kx4_X11_traitCan l G _ _ hn _ _) rfl (fun x h' hΨ => ?_)
      rcases hΨ with ⟨q11, rfl, rfl⟩ | ⟨q12, q13, rfl, rfl⟩ | ⟨q14, q15, rfl, rfl⟩
      · refine r_if_eq_t (tgt := 37) X dX11_voter_21 rfl (by decide +kernel) ?_
        refine r_iconst (v := 0) X dX11_voter_37 (by decide +kernel) ?_
        refine r_istore X dX11_voter_38 (by decide) ?_
        refine r_iload X dX11_voter_40 rfl ?_
        refine r_if_eq_t (tgt := 60) X dX11_voter_42 rfl (by decide +kernel) ?_
        refine r_iconst (v := -1) X dX11_voter_60 (by decide +kernel) ?_
        exact r_ret_i X hr hlk dX11_voter_61 (Nat.le_of_ble_eq_true rfl) (Nat.le_of_ble_eq_true rfl) ⟨_, rfl, by unfold sp_voter; (repeat' split) <;> first | rfl | (exfalso; have e0 : (-1 : Int32).toInt = -1 := (by decide); have e1 : (0 : Int32).toInt = 0 := (by decide); have e2 : (1 : Int32).toInt = 1 := (by decide); have e3 : (11 : Int32).toInt = 11 := (by decide); have e4 : (255 : Int32).toInt = 255 := (by decide); have e5 : (9 : Int32).toInt = 9 := (by decide); simp only [inR, Int32.lt_iff_toInt_lt, Int32.le_iff_toInt_le, ← Int32.toInt_inj, true_or, or_true, not_true_eq_false, and_true, true_and, false_or, or_false, false_and, and_false, not_false_eq_true] at * <;> omega), kp_of hn rfl rfl⟩
      · refine r_if_eq_t (tgt := 37) X dX11_voter_21 rfl (by decide +kernel) ?_
        refine r_iconst (v := 0) X dX11_voter_37 (by decide +kernel) ?_
        refine r_istore X dX11_voter_38 (by decide) ?_
        refine r_iload X dX11_voter_40 rfl ?_
        refine r_if_eq_t (tgt := 60) X dX11_voter_42 rfl (by decide +kernel) ?_
        refine r_iconst (v := -1) X dX11_voter_60 (by decide +kernel) ?_
        exact r_ret_i X hr hlk dX11_voter_61 (Nat.le_of_ble_eq_true rfl) (Nat.le_of_ble_eq_true rfl) ⟨_, rfl, by unfold sp_voter; (repeat' split) <;> first | rfl | (exfalso; have e0 : (-1 : Int32).toInt = -1 := (by decide); have e1 : (0 : Int32).toInt = 0 := (by decide); have e2 : (1 : Int32).toInt = 1 := (by decide); have e3 : (11 : Int32).toInt = 11 := (by decide); have e4 : (12 : Int32).toInt = 12 := (by decide); have e5 : (255 : Int32).toInt = 255 := (by decide); have e6 : (9 : Int32).toInt = 9 := (by decide); simp only [inR, Int32.lt_iff_toInt_lt, Int32.le_iff_toInt_le, ← Int32.toInt_inj, true_or, or_true, not_true_eq_false, and_true, true_and, false_or, or_false, false_and, and_false, not_false_eq_true] at * <;> omega), kp_of hn rfl rfl⟩
      · refine r_if_eq_f (tgt := 37) X dX11_voter_21 rfl (by decide +kernel) ?_
        refine r_iconst (v := 3) X dX11_voter_24 (by decide +kernel) ?_
        refine r_iload X dX11_voter_25 rfl ?_
        refine r_S2i X ks_X11_95 dX11_voter_27 (kx5_X11_traitCan l G _ _ hn _ _) rfl (fun x h' hΨ => ?_)
        rcases hΨ with ⟨q16, rfl, rfl⟩ | ⟨q17, q18, rfl, rfl⟩ | ⟨q19, q20, rfl, rfl⟩
        · refine r_if_eq_t (tgt := 37) X dX11_voter_30 rfl (by decide +kernel) ?_
          refine r_iconst (v := 0) X dX11_voter_37 (by decide +kernel) ?_
          refine r_istore X dX11_voter_38 (by decide) ?_
          refine r_iload X dX11_voter_40 rfl ?_
          refine r_if_eq_t (tgt := 60) X dX11_voter_42 rfl (by decide +kernel) ?_
          refine r_iconst (v := -1) X dX11_voter_60 (by decide +kernel) ?_
          exact r_ret_i X hr hlk dX11_voter_61 (Nat.le_of_ble_eq_true rfl) (Nat.le_of_ble_eq_true rfl) ⟨_, rfl, by unfold sp_voter; (repeat' split) <;> first | rfl | (exfalso; have e0 : (-1 : Int32).toInt = -1 := (by decide); have e1 : (0 : Int32).toInt = 0 := (by decide); have e2 : (1 : Int32).toInt = 1 := (by decide); have e3 : (11 : Int32).toInt = 11 := (by decide); have e4 : (12 : Int32).toInt = 12 := (by decide); have e5 : (255 : Int32).toInt = 255 := (by decide); have e6 : (9 : Int32).toInt = 9 := (by decide); simp only [inR, Int32.lt_iff_toInt_lt, Int32.le_iff_toInt_le, ← Int32.toInt_inj, true_or, or_true, not_true_eq_false, and_true, true_and, false_or, or_false, false_and, and_false, not_false_eq_true] at * <;> omega), kp_of hn rfl rfl⟩
        · refine r_if_eq_t (tgt := 37) X dX11_voter_30 rfl (by decide +kernel) ?_
          refine r_iconst (v := 0) X dX11_voter_37 (by decide +kernel) ?_
          refine r_istore X dX11_voter_38 (by decide) ?_
          refine r_iload X dX11_voter_40 rfl ?_
          refine r_if_eq_t (tgt := 60) X dX11_voter_42 rfl (by decide +kernel) ?_
          refine r_iconst (v := -1) X dX11_voter_60 (by decide +kernel) ?_
          exact r_ret_i X hr hlk dX11_voter_61 (Nat.le_of_ble_eq_true rfl) (Nat.le_of_ble_eq_true rfl) ⟨_, rfl, by unfold sp_voter; (repeat' split) <;> first | rfl | (exfalso; have e0 : (-1 : Int32).toInt = -1 := (by decide); have e1 : (0 : Int32).toInt = 0 := (by decide); have e2 : (1 : Int32).toInt = 1 := (by decide); have e3 : (11 : Int32).toInt = 11 := (by decide); have e4 : (12 : Int32).toInt = 12 := (by decide); have e5 : (255 : Int32).toInt = 255 := (by decide); have e6 : (9 : Int32).toInt = 9 := (by decide); simp only [inR, Int32.lt_iff_toInt_lt, Int32.le_iff_toInt_le, ← Int32.toInt_inj, true_or, or_true, not_true_eq_false, and_true, true_and, false_or, or_false, false_and, and_false, not_false_eq_true] at * <;> omega), kp_of hn rfl rfl⟩
        · refine r_if_eq_f (tgt := 37) X dX11_voter_30 rfl (by decide +kernel) ?_
          refine r_iconst (v := 1) X dX11_voter_33 (by decide +kernel) ?_
          refine r_goto (tgt := 38) X dX11_voter_34 rfl ?_
          refine r_istore X dX11_voter_38 (by decide) ?_
          refine r_iload X dX11_voter_40 rfl ?_
          refine r_if_eq_f (tgt := 60) X dX11_voter_42 rfl (by decide +kernel) ?_
          refine r_aload_n X dX11_voter_45 rfl ?_
          refine a_get (a := 0) X hn fg_X11_12 dX11_voter_46 rfl rfl ?_
          refine a_get (a := 1) X hn fg_X11_67 dX11_voter_49 rfl rfl ?_
          refine a_get (a := 2) X hn fg_X11_99 dX11_voter_52 rfl rfl ?_
          refine r_bipush (v := 20) X dX11_voter_55 (by decide +kernel) ?_
          refine r_icmp_lt_t (tgt := 62) X dX11_voter_57 rfl (by decide +kernel) ?_
          refine r_aload_n X dX11_voter_62 rfl ?_
          refine a_get (a := 0) X hn fg_X11_12 dX11_voter_63 rfl rfl ?_
          refine a_get (a := 1) X hn fg_X11_67 dX11_voter_66 rfl rfl ?_
          refine a_get (a := 2) X hn fg_X11_99 dX11_voter_69 rfl rfl ?_
          refine r_istore X dX11_voter_72 (by decide) ?_
          refine r_aload_n X dX11_voter_74 rfl ?_
          refine a_get (a := 0) X hn fg_X11_12 dX11_voter_75 rfl rfl ?_
          refine a_get (a := 1) X hn fg_X11_67 dX11_voter_78 rfl rfl ?_
          refine r_iload X dX11_voter_81 rfl ?_
          refine r_iconst (v := 1) X dX11_voter_83 (by decide +kernel) ?_
          refine r_iaddE (v := 1) X dX11_voter_84 (by decide +kernel) ?_
          refine a_put (a := 2) X hn fp_X11_99 dX11_voter_85 rfl rfl rfl rfl ?_
          refine r_aload_n X dX11_voter_88 rfl ?_
          refine a_get (a := 0) X hn fg_X11_12 dX11_voter_89 rfl rfl ?_
          refine a_get (a := 1) X hn fg_X11_67 dX11_voter_92 rfl rfl ?_
          refine r_iload X dX11_voter_95 rfl ?_
          refine r_iconst (v := 0) X dX11_voter_97 (by decide +kernel) ?_
          refine r_iload_n X dX11_voter_98 rfl ?_
          refine r_V3v X kv_X11_102 dX11_voter_99 (apG (k := 2) hn rfl) rfl (kx7_X0_setTrait l G _ _ hn _ _) rfl (fun h' hΨ => ?_)
          obtain rfl := hΨ
          refine r_aload_n X dX11_voter_102 rfl ?_
          refine a_get (a := 0) X hn fg_X11_12 dX11_voter_103 rfl rfl ?_
          refine a_get (a := 1) X hn fg_X11_67 dX11_voter_106 rfl rfl ?_
          refine r_iload X dX11_voter_109 rfl ?_
          refine r_iconst (v := 1) X dX11_voter_111 (by decide +kernel) ?_
          refine r_iload_n X dX11_voter_112 rfl ?_
          refine r_V3v X kv_X11_102 dX11_voter_113 (apG (k := 2) hn rfl) rfl (kx9_X0_setTrait l G _ _ hn _ _ _) rfl (fun h' hΨ => ?_)
          obtain rfl := hΨ
          refine r_aload_n X dX11_voter_116 rfl ?_
          refine a_get (a := 0) X hn fg_X11_12 dX11_voter_117 rfl rfl ?_
          refine a_get (a := 1) X hn fg_X11_67 dX11_voter_120 rfl rfl ?_
          refine r_iload X dX11_voter_123 rfl ?_
          refine r_iconst (v := 2) X dX11_voter_125 (by decide +kernel) ?_
          refine r_iload_n X dX11_voter_126 rfl ?_
          refine r_V3v X kv_X11_102 dX11_voter_127 (apG (k := 2) hn rfl) rfl (kx11_X0_setTrait l G _ _ hn _ _ _ _) rfl (fun h' hΨ => ?_)
          obtain rfl := hΨ
          refine r_aload_n X dX11_voter_130 rfl ?_
          refine a_get (a := 0) X hn fg_X11_12 dX11_voter_131 rfl rfl ?_
          refine a_get (a := 1) X hn fg_X11_67 dX11_voter_134 rfl rfl ?_
          refine r_iload X dX11_voter_137 rfl ?_
          refine r_iconst (v := 3) X dX11_voter_139 (by decide +kernel) ?_
          refine r_iload X dX11_voter_140 rfl ?_
          refine r_V3v X kv_X11_102 dX11_voter_142 (apG (k := 2) hn rfl) rfl (kx13_X0_setTrait l G _ _ hn _ _ _ _ _) rfl (fun h' hΨ => ?_)
          obtain rfl := hΨ
          refine r_aload_n X dX11_voter_145 rfl ?_
          refine a_get (a := 0) X hn fg_X11_12 dX11_voter_146 rfl rfl ?_
          refine a_get (a := 1) X hn fg_X11_67 dX11_voter_149 rfl rfl ?_
          refine r_iload X dX11_voter_152 rfl ?_
          refine r_iconst (v := 4) X dX11_voter_154 (by decide +kernel) ?_
          refine r_iconst (v := 0) X dX11_voter_155 (by decide +kernel) ?_
          refine r_V3v X kv_X11_102 dX11_voter_156 (apG (k := 2) hn rfl) rfl (kx15_X0_setTrait l G _ _ hn _ _ _ _ _) rfl (fun h' hΨ => ?_)
          obtain rfl := hΨ
          refine r_aload_n X dX11_voter_159 rfl ?_
          refine a_get (a := 0) X hn fg_X11_12 dX11_voter_160 rfl rfl ?_
          refine a_get (a := 1) X hn fg_X11_67 dX11_voter_163 rfl rfl ?_
          refine r_iload X dX11_voter_166 rfl ?_
          refine r_iconst (v := 5) X dX11_voter_168 (by decide +kernel) ?_
          refine r_iconst (v := 0) X dX11_voter_169 (by decide +kernel) ?_
          refine r_V3v X kv_X11_102 dX11_voter_170 (apG (k := 2) hn rfl) rfl (kx17_X0_setTrait l G _ _ hn _ _ _ _ _) rfl (fun h' hΨ => ?_)
          obtain rfl := hΨ
          refine r_aload_n X dX11_voter_173 rfl ?_
          refine a_get (a := 0) X hn fg_X11_26 dX11_voter_174 rfl rfl ?_
          refine r_V0v X kv_X11_92 dX11_voter_177 (apG (k := 59) hn rfl) rfl (kx18_X7_forget l G _ _ hn _ _ _ _ _) rfl (fun h' hΨ => ?_)
          obtain rfl := hΨ
          refine r_iload X dX11_voter_180 rfl ?_
          exact r_ret_i X hr hlk dX11_voter_182 (Nat.le_of_ble_eq_true rfl) (Nat.le_of_ble_eq_true rfl) ⟨_, rfl, by unfold sp_voter; (repeat' split) <;> first | rfl | (exfalso; have e0 : (-1 : Int32).toInt = -1 := (by decide); have e1 : (0 : Int32).toInt = 0 := (by decide); have e2 : (1 : Int32).toInt = 1 := (by decide); have e3 : (11 : Int32).toInt = 11 := (by decide); have e4 : (12 : Int32).toInt = 12 := (by decide); have e5 : (255 : Int32).toInt = 255 := (by decide); have e6 : (9 : Int32).toInt = 9 := (by decide); simp only [inR, Int32.lt_iff_toInt_lt, Int32.le_iff_toInt_le, ← Int32.toInt_inj, true_or, or_true, not_true_eq_false, and_true, true_and, false_or, or_false, false_and, and_false, not_false_eq_true] at * <;> omega), kp_of hn rfl rfl⟩
