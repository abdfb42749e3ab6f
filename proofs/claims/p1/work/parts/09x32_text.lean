set_option maxRecDepth 100000 in
set_option maxHeartbeats 4000000 in
theorem kt1_X5_step (l : Launch) (G : PG) (h0 : PH) (n : Nat) (hn : h0.length = n) (wf : Nat → Int32) : PMet l G yX5_step cX5_step 1 none 0 0 0 [vR (n + 79)] (h0 ++ (frC n ++ frM (n + 103) wf)) (qV (fun h' => h' = h0 ++ (frC n ++ frM (n + 103) wf))) := by
  refine PMet.intro (by decide) (Nat.le_of_ble_eq_true rfl) ?_
  intro p e s m args below meth c X hr hlk hnm
  refine r_aload_n X dX5_step_0 rfl ?_
  refine a_get (a := 79) X hn fg_X5_25 dX5_step_1 rfl rfl ?_
  refine r_aload_n X dX5_step_4 rfl ?_
  refine a_get (a := 79) X hn fg_X5_19 dX5_step_5 rfl rfl ?_
  refine r_icmp_ge_t (tgt := 52) X dX5_step_8 rfl (by decide +kernel) ?_
  refine r_aload_n X dX5_step_52 rfl ?_
  refine r_aload_n X dX5_step_53 rfl ?_
  refine a_get (a := 79) X hn fg_X5_25 dX5_step_54 rfl rfl ?_
  refine a_put (a := 79) X hn fp_X5_22 dX5_step_57 rfl rfl rfl rfl ?_
  refine r_eq (h' := h0 ++ (frC n ++ frM (n + 103) wf)) rfl rfl rfl ?_
  refine r_aload_n X dX5_step_60 rfl ?_
  refine a_get (a := 79) X hn fg_X5_25 dX5_step_61 rfl rfl ?_
  refine r_aload_n X dX5_step_64 rfl ?_
  refine a_get (a := 79) X hn fg_X5_19 dX5_step_65 rfl rfl ?_
  refine r_icmp_lt_f (tgt := 79) X dX5_step_68 rfl (by decide +kernel) ?_
  refine r_aload_n X dX5_step_71 rfl ?_
  refine r_iconst (v := 2) X dX5_step_72 (by decide +kernel) ?_
  refine a_put (a := 79) X hn fp_X5_28 dX5_step_73 rfl rfl rfl rfl ?_
  refine r_eq (h' := h0 ++ (frC n ++ frM (n + 103) wf)) rfl rfl rfl ?_
  refine r_goto (tgt := 315) X dX5_step_76 rfl ?_
  exact r_ret_v X hr hlk dX5_step_315 (Nat.le_of_ble_eq_true rfl) (Nat.le_of_ble_eq_true rfl) ⟨rfl, rfl⟩
set_option maxRecDepth 100000 in
set_option maxHeartbeats 4000000 in
theorem kt2_J7_copyOf_59c91 (l : Launch) (G : PG) (h0 : PH) (n : Nat) (hn : h0.length = n) (wf : Nat → Int32) : PMet l G yJ7_copyOf_59c91 cJ7_copyOf_59c91 3 (some (.array .int)) 1 1 0 [vR (n + 81), vI 0] (h0 ++ ((frC n ++ frM (n + 103) wf) ++ [eO 8 [vN, vI 0, vN]])) (qA (fun x h' => x = some (n + 147) ∧ h' = h0 ++ (((frC n ++ frM (n + 103) wf) ++ [eO 8 [vN, vI 0, vN]]) ++ [eI 0 (fun _ => 0)]))) := by
  refine PMet.intro (by decide) (Nat.le_of_ble_eq_true rfl) ?_
  intro p e s m args below meth c X hr hlk hnm
  refine r_iload_n X dJ7_copyOf_59c91_0 rfl ?_
  refine r_aload_n X dJ7_copyOf_59c91_1 rfl ?_
  refine a_alen (a := 81) (v := 80) X hn dJ7_copyOf_59c91_2 rfl (by decide +kernel) ?_
  refine r_icmp_ne_t (tgt := 14) X dJ7_copyOf_59c91_3 rfl (by decide +kernel) ?_
  refine r_iload_n X dJ7_copyOf_59c91_14 rfl ?_
  refine a_newi (N := 0) (k := 147) X hn dJ7_copyOf_59c91_15 (by decide +kernel) (by decide +kernel) rfl rfl rfl rfl ?_
  refine r_astore_n X dJ7_copyOf_59c91_17 (by decide) ?_
  refine r_aload_n X dJ7_copyOf_59c91_18 rfl ?_
  refine r_iconst (v := 0) X dJ7_copyOf_59c91_19 (by decide +kernel) ?_
  refine r_aload_n X dJ7_copyOf_59c91_20 rfl ?_
  refine r_iconst (v := 0) X dJ7_copyOf_59c91_21 (by decide +kernel) ?_
  refine r_aload_n X dJ7_copyOf_59c91_22 rfl ?_
  refine a_alen (a := 81) (v := 80) X hn dJ7_copyOf_59c91_23 rfl (by decide +kernel) ?_
  refine r_iload_n X dJ7_copyOf_59c91_24 rfl ?_
  refine r_min (v := 0) X ks_J7_304.1.1 dJ7_copyOf_59c91_25 rfl (by decide +kernel) ?_
  refine a_copy (a0 := 81) (a := 147) (f' := (fun _ => 0)) X hn lc_J7_150 dJ7_copyOf_59c91_28 rfl rfl (by decide +kernel) (by decide +kernel) (by decide +kernel) (by decide +kernel) (by decide +kernel) rfl rfl (cpy_0 _ _ _ _) ?_
  refine r_eq (h' := h0 ++ (((frC n ++ frM (n + 103) wf) ++ [eO 8 [vN, vI 0, vN]]) ++ [eI 0 (fun _ => 0)])) rfl rfl rfl ?_
  refine r_aload_n X dJ7_copyOf_59c91_31 rfl ?_
  exact r_ret_a X hr (Or.inr ⟨_, rfl⟩) hlk dJ7_copyOf_59c91_32 (Nat.le_of_ble_eq_true rfl) (Nat.le_of_ble_eq_true rfl) ⟨_, rfl, ⟨rfl, rfl⟩⟩
set_option maxRecDepth 100000 in
set_option maxHeartbeats 4000000 in
theorem kt3_J7_copyOf_59c91 (l : Launch) (G : PG) (h0 : PH) (n : Nat) (hn : h0.length = n) (wf : Nat → Int32) : PMet l G yJ7_copyOf_59c91 cJ7_copyOf_59c91 3 (some (.array .int)) 1 1 0 [vR (n + 82), vI 0] (h0 ++ (((frC n ++ frM (n + 103) wf) ++ [eO 8 [vN, vI 0, vN]]) ++ [eI 0 (fun _ => 0)])) (qA (fun x h' => x = some (n + 148) ∧ h' = h0 ++ ((((frC n ++ frM (n + 103) wf) ++ [eO 8 [vN, vI 0, vN]]) ++ [eI 0 (fun _ => 0)]) ++ [eI 0 (fun _ => 0)]))) := by
  refine PMet.intro (by decide) (Nat.le_of_ble_eq_true rfl) ?_
  intro p e s m args below meth c X hr hlk hnm
  refine r_iload_n X dJ7_copyOf_59c91_0 rfl ?_
  refine r_aload_n X dJ7_copyOf_59c91_1 rfl ?_
  refine a_alen (a := 82) (v := 400) X hn dJ7_copyOf_59c91_2 rfl (by decide +kernel) ?_
  refine r_icmp_ne_t (tgt := 14) X dJ7_copyOf_59c91_3 rfl (by decide +kernel) ?_
  refine r_iload_n X dJ7_copyOf_59c91_14 rfl ?_
  refine a_newi (N := 0) (k := 148) X hn dJ7_copyOf_59c91_15 (by decide +kernel) (by decide +kernel) rfl rfl rfl rfl ?_
  refine r_astore_n X dJ7_copyOf_59c91_17 (by decide) ?_
  refine r_aload_n X dJ7_copyOf_59c91_18 rfl ?_
  refine r_iconst (v := 0) X dJ7_copyOf_59c91_19 (by decide +kernel) ?_
  refine r_aload_n X dJ7_copyOf_59c91_20 rfl ?_
  refine r_iconst (v := 0) X dJ7_copyOf_59c91_21 (by decide +kernel) ?_
  refine r_aload_n X dJ7_copyOf_59c91_22 rfl ?_
  refine a_alen (a := 82) (v := 400) X hn dJ7_copyOf_59c91_23 rfl (by decide +kernel) ?_
  refine r_iload_n X dJ7_copyOf_59c91_24 rfl ?_
  refine r_min (v := 0) X ks_J7_304.1.1 dJ7_copyOf_59c91_25 rfl (by decide +kernel) ?_
  refine a_copy (a0 := 82) (a := 148) (f' := (fun _ => 0)) X hn lc_J7_150 dJ7_copyOf_59c91_28 rfl rfl (by decide +kernel) (by decide +kernel) (by decide +kernel) (by decide +kernel) (by decide +kernel) rfl rfl (cpy_0 _ _ _ _) ?_
  refine r_eq (h' := h0 ++ ((((frC n ++ frM (n + 103) wf) ++ [eO 8 [vN, vI 0, vN]]) ++ [eI 0 (fun _ => 0)]) ++ [eI 0 (fun _ => 0)])) rfl rfl rfl ?_
  refine r_aload_n X dJ7_copyOf_59c91_31 rfl ?_
  exact r_ret_a X hr (Or.inr ⟨_, rfl⟩) hlk dJ7_copyOf_59c91_32 (Nat.le_of_ble_eq_true rfl) (Nat.le_of_ble_eq_true rfl) ⟨_, rfl, ⟨rfl, rfl⟩⟩
set_option maxRecDepth 100000 in
set_option maxHeartbeats 4000000 in
theorem kt4_X8_init (l : Launch) (G : PG) (h0 : PH) (n : Nat) (hn : h0.length = n) (wf : Nat → Int32) : PMet l G yX8_init cX8_init 4 none 1 0 0 [vR (n + 146), vR (n + 147), vI 0, vR (n + 148)] (h0 ++ ((((frC n ++ frM (n + 103) wf) ++ [eO 8 [vN, vI 0, vN]]) ++ [eI 0 (fun _ => 0)]) ++ [eI 0 (fun _ => 0)])) (qV (fun h' => h' = h0 ++ (((((frC n ++ frM (n + 103) wf) ++ [eO 8 [vN, vI 0, vN]]) ++ [eI 0 (fun _ => 0)]) ++ [eI 0 (fun _ => 0)]).set 146 (eO 8 [vR (n + 147), vI 0, vR (n + 148)])))) := by
  refine PMet.intro (by decide) (Nat.le_of_ble_eq_true rfl) ?_
  intro p e s m args below meth c X hr hlk hnm
  refine r_aload_n X dX8_init_0 rfl ?_
  refine r_obji X lo_X8_3 w_oi w_oc dX8_init_1 (Nat.le_of_ble_eq_true rfl) (Nat.le_of_ble_eq_true rfl) ?_
  refine r_aload_n X dX8_init_4 rfl ?_
  refine r_aload_n X dX8_init_5 rfl ?_
  refine a_putF (a := 146) X hn ff_X8_9 hnm dX8_init_6 rfl rfl rfl rfl ?_
  refine r_aload_n X dX8_init_9 rfl ?_
  refine r_iload_n X dX8_init_10 rfl ?_
  refine a_putF (a := 146) X hn ff_X8_15 hnm dX8_init_11 rfl rfl rfl rfl ?_
  refine r_eq (h' := h0 ++ (((((frC n ++ frM (n + 103) wf) ++ [eO 8 [vN, vI 0, vN]]) ++ [eI 0 (fun _ => 0)]) ++ [eI 0 (fun _ => 0)]).set 146 (eO 8 [vR (n + 147), vI 0, vN]))) rfl rfl rfl ?_
  refine r_aload_n X dX8_init_14 rfl ?_
  refine r_aload_n X dX8_init_15 rfl ?_
  refine a_putF (a := 146) X hn ff_X8_19 hnm dX8_init_16 rfl rfl rfl rfl ?_
  refine r_eq (h' := h0 ++ (((((frC n ++ frM (n + 103) wf) ++ [eO 8 [vN, vI 0, vN]]) ++ [eI 0 (fun _ => 0)]) ++ [eI 0 (fun _ => 0)]).set 146 (eO 8 [vR (n + 147), vI 0, vR (n + 148)]))) rfl rfl rfl ?_
  exact r_ret_v X hr hlk dX8_init_19 (Nat.le_of_ble_eq_true rfl) (Nat.le_of_ble_eq_true rfl) ⟨rfl, rfl⟩
set_option maxRecDepth 100000 in
set_option maxHeartbeats 4000000 in
theorem kt5_X5_readTape (l : Launch) (G : PG) (h0 : PH) (n : Nat) (hn : h0.length = n) (wf : Nat → Int32) (z0 : Int32) : PMet l G yX5_readTape cX5_readTape 5 (some (.object "ThumbBallot$Text")) 2 3 3 [vR (n + 79), vI z0, vI 0] (h0 ++ (frC n ++ frM (n + 103) wf)) (qA (fun x h' => ((z0 < 0) ∧ x = none ∧ h' = h0 ++ (frC n ++ frM (n + 103) wf)) ∨ ((¬ z0 < 0) ∧ (z0 < 4) ∧ x = some (n + 146) ∧ h' = h0 ++ (((((frC n ++ frM (n + 103) wf) ++ [eO 8 [vN, vI 0, vN]]) ++ [eI 0 (fun _ => 0)]) ++ [eI 0 (fun _ => 0)]).set 146 (eO 8 [vR (n + 147), vI 0, vR (n + 148)]))) ∨ ((¬ z0 < 0) ∧ (¬ z0 < 4) ∧ x = none ∧ h' = h0 ++ (frC n ++ frM (n + 103) wf)))) := by
  refine PMet.intro (by decide) (Nat.le_of_ble_eq_true rfl) ?_
  intro p e s m args below meth c X hr hlk hnm
  refine r_aload_n X dX5_readTape_0 rfl ?_
  refine r_aload_n X dX5_readTape_1 rfl ?_
  refine a_get (a := 79) X hn fg_X5_15 dX5_readTape_2 rfl rfl ?_
  refine a_put (a := 79) X hn fp_X5_19 dX5_readTape_5 rfl rfl rfl rfl ?_
  refine r_eq (h' := h0 ++ (frC n ++ frM (n + 103) wf)) rfl rfl rfl ?_
  refine r_aload_n X dX5_readTape_8 rfl ?_
  refine r_iconst (v := 0) X dX5_readTape_9 (by decide +kernel) ?_
  refine a_put (a := 79) X hn fp_X5_15 dX5_readTape_10 rfl rfl rfl rfl ?_
  refine r_eq (h' := h0 ++ (frC n ++ frM (n + 103) wf)) rfl rfl rfl ?_
  refine r_aload_n X dX5_readTape_13 rfl ?_
  refine r_iconst (v := 0) X dX5_readTape_14 (by decide +kernel) ?_
  refine a_put (a := 79) X hn fp_X5_25 dX5_readTape_15 rfl rfl rfl rfl ?_
  refine r_eq (h' := h0 ++ (frC n ++ frM (n + 103) wf)) rfl rfl rfl ?_
  refine r_aload_n X dX5_readTape_18 rfl ?_
  refine r_iconst (v := 0) X dX5_readTape_19 (by decide +kernel) ?_
  refine a_put (a := 79) X hn fp_X5_46 dX5_readTape_20 rfl rfl rfl rfl ?_
  refine r_eq (h' := h0 ++ (frC n ++ frM (n + 103) wf)) rfl rfl rfl ?_
  refine r_aload_n X dX5_readTape_23 rfl ?_
  refine r_iconst (v := 0) X dX5_readTape_24 (by decide +kernel) ?_
  refine a_put (a := 79) X hn fp_X5_52 dX5_readTape_25 rfl rfl rfl rfl ?_
  refine r_eq (h' := h0 ++ (frC n ++ frM (n + 103) wf)) rfl rfl rfl ?_
  refine r_aload_n X dX5_readTape_28 rfl ?_
  refine r_iload_n X dX5_readTape_29 rfl ?_
  refine a_put (a := 79) X hn fp_X5_40 dX5_readTape_30 rfl rfl rfl rfl ?_
  refine r_eq (h' := h0 ++ (frC n ++ frM (n + 103) wf)) rfl rfl rfl ?_
  refine r_aload_n X dX5_readTape_33 rfl ?_
  refine r_iconst (v := 0) X dX5_readTape_34 (by decide +kernel) ?_
  refine a_put (a := 79) X hn fp_X5_34 dX5_readTape_35 rfl rfl rfl rfl ?_
  refine r_eq (h' := h0 ++ (frC n ++ frM (n + 103) wf)) rfl rfl rfl ?_
  refine r_aload_n X dX5_readTape_38 rfl ?_
  refine r_iconst (v := -1) X dX5_readTape_39 (by decide +kernel) ?_
  refine a_put (a := 79) X hn fp_X5_37 dX5_readTape_40 rfl rfl rfl rfl ?_
  refine r_eq (h' := h0 ++ (frC n ++ frM (n + 103) wf)) rfl rfl rfl ?_
  refine r_iload_n X dX5_readTape_43 rfl ?_
  refine r_if_lt (tgt := 52) X dX5_readTape_44 rfl (fun q1 => ?_) (fun q1 => ?_)
  · refine r_null X dX5_readTape_52 ?_
    exact r_ret_a (v := none) X hr (Or.inl ⟨_, rfl⟩) hlk dX5_readTape_53 (Nat.le_of_ble_eq_true rfl) (Nat.le_of_ble_eq_true rfl) ⟨_, rfl, Or.inl ⟨q1, rfl, rfl⟩⟩
  · refine r_iload_n X dX5_readTape_47 rfl ?_
    refine r_iconst (v := 4) X dX5_readTape_48 (by decide +kernel) ?_
    refine r_icmp_lt (tgt := 54) X dX5_readTape_49 rfl (fun q2 => ?_) (fun q2 => ?_)
    · refine r_aload_n X dX5_readTape_54 rfl ?_
      refine r_V0v X kv_X5_55 dX5_readTape_55 (apG (k := 79) hn rfl) rfl (kt1_X5_step l G _ _ hn _) rfl (fun h' hΨ => ?_)
      obtain rfl := hΨ
      refine r_iconst (v := 1) X dX5_readTape_58 (by decide +kernel) ?_
      refine r_istore_n X dX5_readTape_59 (by decide) ?_
      refine r_iconst (v := 0) X dX5_readTape_60 (by decide +kernel) ?_
      refine r_istore X dX5_readTape_61 (by decide) ?_
      refine r_iload X dX5_readTape_63 rfl ?_
      refine r_bipush (v := 16) X dX5_readTape_65 (by decide +kernel) ?_
      refine r_icmp_gt_f (tgt := 143) X dX5_readTape_67 rfl (by decide +kernel) ?_
      refine r_iload_n X dX5_readTape_70 rfl ?_
      refine r_if_eq_f (tgt := 143) X dX5_readTape_71 rfl (by decide +kernel) ?_
      refine r_aload_n X dX5_readTape_74 rfl ?_
      refine a_get (a := 79) X hn fg_X5_28 dX5_readTape_75 rfl rfl ?_
      refine r_iconst (v := 2) X dX5_readTape_78 (by decide +kernel) ?_
      refine r_icmp_eq_t (tgt := 143) X dX5_readTape_79 rfl (by decide +kernel) ?_
      refine r_iload_n X dX5_readTape_143 rfl ?_
      refine r_if_ne_t (tgt := 149) X dX5_readTape_144 rfl (by decide +kernel) ?_
      refine a_new (k := 146) X hn nk_X5_72 dX5_readTape_149 rfl rfl rfl ?_
      refine r_dup X dX5_readTape_152 ?_
      refine r_aload_n X dX5_readTape_153 rfl ?_
      refine a_get (a := 79) X hn fg_X5_43 dX5_readTape_154 rfl rfl ?_
      refine r_aload_n X dX5_readTape_157 rfl ?_
      refine a_get (a := 79) X hn fg_X5_46 dX5_readTape_158 rfl rfl ?_
      refine r_iconst (v := 5) X dX5_readTape_161 (by decide +kernel) ?_
      refine r_imulE (v := 0) X dX5_readTape_162 (by decide +kernel) ?_
      refine r_S2a X ks_X5_74 dX5_readTape_163 (kt2_J7_copyOf_59c91 l G _ _ hn _) rfl (fun x h' hΨ => ?_)
      obtain ⟨rfl, rfl⟩ := hΨ
      refine r_aload_n X dX5_readTape_166 rfl ?_
      refine a_get (a := 79) X hn fg_X5_46 dX5_readTape_167 rfl rfl ?_
      refine r_aload_n X dX5_readTape_170 rfl ?_
      refine a_get (a := 79) X hn fg_X5_49 dX5_readTape_171 rfl rfl ?_
      refine r_aload_n X dX5_readTape_174 rfl ?_
      refine a_get (a := 79) X hn fg_X5_52 dX5_readTape_175 rfl rfl ?_
      refine r_S2a X ks_X5_74 dX5_readTape_178 (kt3_J7_copyOf_59c91 l G _ _ hn _) rfl (fun x h' hΨ => ?_)
      obtain ⟨rfl, rfl⟩ := hΨ
      refine r_I3v X ki_X5_80 dX5_readTape_181 (kt4_X8_init l G _ _ hn _) rfl (fun h' hΨ => ?_)
      obtain rfl := hΨ
      exact r_ret_a (v := _) X hr (Or.inl ⟨_, rfl⟩) hlk dX5_readTape_184 (Nat.le_of_ble_eq_true rfl) (Nat.le_of_ble_eq_true rfl) ⟨_, rfl, Or.inr (Or.inl ⟨q1, q2, rfl, rfl⟩)⟩
    · refine r_null X dX5_readTape_52 ?_
      exact r_ret_a (v := none) X hr (Or.inl ⟨_, rfl⟩) hlk dX5_readTape_53 (Nat.le_of_ble_eq_true rfl) (Nat.le_of_ble_eq_true rfl) ⟨_, rfl, Or.inr (Or.inr (⟨q1, q2, rfl, rfl⟩))⟩
set_option maxRecDepth 100000 in
set_option maxHeartbeats 4000000 in
theorem kt6_X5_readTape (l : Launch) (G : PG) (h0 : PH) (n : Nat) (hn : h0.length = n) (wf : Nat → Int32) : PMet l G yX5_readTape cX5_readTape 5 (some (.object "ThumbBallot$Text")) 2 3 3 [vR (n + 79), vI 0, vI 0] (h0 ++ (frC n ++ frM (n + 103) wf)) (qA (fun x h' => x = some (n + 146) ∧ h' = h0 ++ (((((frC n ++ frM (n + 103) wf) ++ [eO 8 [vN, vI 0, vN]]) ++ [eI 0 (fun _ => 0)]) ++ [eI 0 (fun _ => 0)]).set 146 (eO 8 [vR (n + 147), vI 0, vR (n + 148)])))) := by
  refine PMet.intro (by decide) (Nat.le_of_ble_eq_true rfl) ?_
  intro p e s m args below meth c X hr hlk hnm
  refine r_aload_n X dX5_readTape_0 rfl ?_
  refine r_aload_n X dX5_readTape_1 rfl ?_
  refine a_get (a := 79) X hn fg_X5_15 dX5_readTape_2 rfl rfl ?_
  refine a_put (a := 79) X hn fp_X5_19 dX5_readTape_5 rfl rfl rfl rfl ?_
  refine r_eq (h' := h0 ++ (frC n ++ frM (n + 103) wf)) rfl rfl rfl ?_
  refine r_aload_n X dX5_readTape_8 rfl ?_
  refine r_iconst (v := 0) X dX5_readTape_9 (by decide +kernel) ?_
  refine a_put (a := 79) X hn fp_X5_15 dX5_readTape_10 rfl rfl rfl rfl ?_
  refine r_eq (h' := h0 ++ (frC n ++ frM (n + 103) wf)) rfl rfl rfl ?_
  refine r_aload_n X dX5_readTape_13 rfl ?_
  refine r_iconst (v := 0) X dX5_readTape_14 (by decide +kernel) ?_
  refine a_put (a := 79) X hn fp_X5_25 dX5_readTape_15 rfl rfl rfl rfl ?_
  refine r_eq (h' := h0 ++ (frC n ++ frM (n + 103) wf)) rfl rfl rfl ?_
  refine r_aload_n X dX5_readTape_18 rfl ?_
  refine r_iconst (v := 0) X dX5_readTape_19 (by decide +kernel) ?_
  refine a_put (a := 79) X hn fp_X5_46 dX5_readTape_20 rfl rfl rfl rfl ?_
  refine r_eq (h' := h0 ++ (frC n ++ frM (n + 103) wf)) rfl rfl rfl ?_
  refine r_aload_n X dX5_readTape_23 rfl ?_
  refine r_iconst (v := 0) X dX5_readTape_24 (by decide +kernel) ?_
  refine a_put (a := 79) X hn fp_X5_52 dX5_readTape_25 rfl rfl rfl rfl ?_
  refine r_eq (h' := h0 ++ (frC n ++ frM (n + 103) wf)) rfl rfl rfl ?_
  refine r_aload_n X dX5_readTape_28 rfl ?_
  refine r_iload_n X dX5_readTape_29 rfl ?_
  refine a_put (a := 79) X hn fp_X5_40 dX5_readTape_30 rfl rfl rfl rfl ?_
  refine r_eq (h' := h0 ++ (frC n ++ frM (n + 103) wf)) rfl rfl rfl ?_
  refine r_aload_n X dX5_readTape_33 rfl ?_
  refine r_iconst (v := 0) X dX5_readTape_34 (by decide +kernel) ?_
  refine a_put (a := 79) X hn fp_X5_34 dX5_readTape_35 rfl rfl rfl rfl ?_
  refine r_eq (h' := h0 ++ (frC n ++ frM (n + 103) wf)) rfl rfl rfl ?_
  refine r_aload_n X dX5_readTape_38 rfl ?_
  refine r_iconst (v := -1) X dX5_readTape_39 (by decide +kernel) ?_
  refine a_put (a := 79) X hn fp_X5_37 dX5_readTape_40 rfl rfl rfl rfl ?_
  refine r_eq (h' := h0 ++ (frC n ++ frM (n + 103) wf)) rfl rfl rfl ?_
  refine r_iload_n X dX5_readTape_43 rfl ?_
  refine r_if_lt_f (tgt := 52) X dX5_readTape_44 rfl (by decide +kernel) ?_
  refine r_iload_n X dX5_readTape_47 rfl ?_
  refine r_iconst (v := 4) X dX5_readTape_48 (by decide +kernel) ?_
  refine r_icmp_lt_t (tgt := 54) X dX5_readTape_49 rfl (by decide +kernel) ?_
  refine r_aload_n X dX5_readTape_54 rfl ?_
  refine r_V0v X kv_X5_55 dX5_readTape_55 (apG (k := 79) hn rfl) rfl (kt1_X5_step l G _ _ hn _) rfl (fun h' hΨ => ?_)
  obtain rfl := hΨ
  refine r_iconst (v := 1) X dX5_readTape_58 (by decide +kernel) ?_
  refine r_istore_n X dX5_readTape_59 (by decide) ?_
  refine r_iconst (v := 0) X dX5_readTape_60 (by decide +kernel) ?_
  refine r_istore X dX5_readTape_61 (by decide) ?_
  refine r_iload X dX5_readTape_63 rfl ?_
  refine r_bipush (v := 16) X dX5_readTape_65 (by decide +kernel) ?_
  refine r_icmp_gt_f (tgt := 143) X dX5_readTape_67 rfl (by decide +kernel) ?_
  refine r_iload_n X dX5_readTape_70 rfl ?_
  refine r_if_eq_f (tgt := 143) X dX5_readTape_71 rfl (by decide +kernel) ?_
  refine r_aload_n X dX5_readTape_74 rfl ?_
  refine a_get (a := 79) X hn fg_X5_28 dX5_readTape_75 rfl rfl ?_
  refine r_iconst (v := 2) X dX5_readTape_78 (by decide +kernel) ?_
  refine r_icmp_eq_t (tgt := 143) X dX5_readTape_79 rfl (by decide +kernel) ?_
  refine r_iload_n X dX5_readTape_143 rfl ?_
  refine r_if_ne_t (tgt := 149) X dX5_readTape_144 rfl (by decide +kernel) ?_
  refine a_new (k := 146) X hn nk_X5_72 dX5_readTape_149 rfl rfl rfl ?_
  refine r_dup X dX5_readTape_152 ?_
  refine r_aload_n X dX5_readTape_153 rfl ?_
  refine a_get (a := 79) X hn fg_X5_43 dX5_readTape_154 rfl rfl ?_
  refine r_aload_n X dX5_readTape_157 rfl ?_
  refine a_get (a := 79) X hn fg_X5_46 dX5_readTape_158 rfl rfl ?_
  refine r_iconst (v := 5) X dX5_readTape_161 (by decide +kernel) ?_
  refine r_imulE (v := 0) X dX5_readTape_162 (by decide +kernel) ?_
  refine r_S2a X ks_X5_74 dX5_readTape_163 (kt2_J7_copyOf_59c91 l G _ _ hn _) rfl (fun x h' hΨ => ?_)
  obtain ⟨rfl, rfl⟩ := hΨ
  refine r_aload_n X dX5_readTape_166 rfl ?_
  refine a_get (a := 79) X hn fg_X5_46 dX5_readTape_167 rfl rfl ?_
  refine r_aload_n X dX5_readTape_170 rfl ?_
  refine a_get (a := 79) X hn fg_X5_49 dX5_readTape_171 rfl rfl ?_
  refine r_aload_n X dX5_readTape_174 rfl ?_
  refine a_get (a := 79) X hn fg_X5_52 dX5_readTape_175 rfl rfl ?_
  refine r_S2a X ks_X5_74 dX5_readTape_178 (kt3_J7_copyOf_59c91 l G _ _ hn _) rfl (fun x h' hΨ => ?_)
  obtain ⟨rfl, rfl⟩ := hΨ
  refine r_I3v X ki_X5_80 dX5_readTape_181 (kt4_X8_init l G _ _ hn _) rfl (fun h' hΨ => ?_)
  obtain rfl := hΨ
  exact r_ret_a (v := _) X hr (Or.inl ⟨_, rfl⟩) hlk dX5_readTape_184 (Nat.le_of_ble_eq_true rfl) (Nat.le_of_ble_eq_true rfl) ⟨_, rfl, ⟨rfl, rfl⟩⟩
set_option maxRecDepth 100000 in
set_option maxHeartbeats 4000000 in
theorem kt7_X5_readTape (l : Launch) (G : PG) (h0 : PH) (n : Nat) (hn : h0.length = n) (wf : Nat → Int32) : PMet l G yX5_readTape cX5_readTape 5 (some (.object "ThumbBallot$Text")) 2 3 3 [vR (n + 79), vI 1, vI 0] (h0 ++ (frC n ++ frM (n + 103) wf)) (qA (fun x h' => x = some (n + 146) ∧ h' = h0 ++ (((((frC n ++ frM (n + 103) wf) ++ [eO 8 [vN, vI 0, vN]]) ++ [eI 0 (fun _ => 0)]) ++ [eI 0 (fun _ => 0)]).set 146 (eO 8 [vR (n + 147), vI 0, vR (n + 148)])))) := by
  refine PMet.intro (by decide) (Nat.le_of_ble_eq_true rfl) ?_
  intro p e s m args below meth c X hr hlk hnm
  refine r_aload_n X dX5_readTape_0 rfl ?_
  refine r_aload_n X dX5_readTape_1 rfl ?_
  refine a_get (a := 79) X hn fg_X5_15 dX5_readTape_2 rfl rfl ?_
  refine a_put (a := 79) X hn fp_X5_19 dX5_readTape_5 rfl rfl rfl rfl ?_
  refine r_eq (h' := h0 ++ (frC n ++ frM (n + 103) wf)) rfl rfl rfl ?_
  refine r_aload_n X dX5_readTape_8 rfl ?_
  refine r_iconst (v := 0) X dX5_readTape_9 (by decide +kernel) ?_
  refine a_put (a := 79) X hn fp_X5_15 dX5_readTape_10 rfl rfl rfl rfl ?_
  refine r_eq (h' := h0 ++ (frC n ++ frM (n + 103) wf)) rfl rfl rfl ?_
  refine r_aload_n X dX5_readTape_13 rfl ?_
  refine r_iconst (v := 0) X dX5_readTape_14 (by decide +kernel) ?_
  refine a_put (a := 79) X hn fp_X5_25 dX5_readTape_15 rfl rfl rfl rfl ?_
  refine r_eq (h' := h0 ++ (frC n ++ frM (n + 103) wf)) rfl rfl rfl ?_
  refine r_aload_n X dX5_readTape_18 rfl ?_
  refine r_iconst (v := 0) X dX5_readTape_19 (by decide +kernel) ?_
  refine a_put (a := 79) X hn fp_X5_46 dX5_readTape_20 rfl rfl rfl rfl ?_
  refine r_eq (h' := h0 ++ (frC n ++ frM (n + 103) wf)) rfl rfl rfl ?_
  refine r_aload_n X dX5_readTape_23 rfl ?_
  refine r_iconst (v := 0) X dX5_readTape_24 (by decide +kernel) ?_
  refine a_put (a := 79) X hn fp_X5_52 dX5_readTape_25 rfl rfl rfl rfl ?_
  refine r_eq (h' := h0 ++ (frC n ++ frM (n + 103) wf)) rfl rfl rfl ?_
  refine r_aload_n X dX5_readTape_28 rfl ?_
  refine r_iload_n X dX5_readTape_29 rfl ?_
  refine a_put (a := 79) X hn fp_X5_40 dX5_readTape_30 rfl rfl rfl rfl ?_
  refine r_eq (h' := h0 ++ (frC n ++ frM (n + 103) wf)) rfl rfl rfl ?_
  refine r_aload_n X dX5_readTape_33 rfl ?_
  refine r_iconst (v := 0) X dX5_readTape_34 (by decide +kernel) ?_
  refine a_put (a := 79) X hn fp_X5_34 dX5_readTape_35 rfl rfl rfl rfl ?_
  refine r_eq (h' := h0 ++ (frC n ++ frM (n + 103) wf)) rfl rfl rfl ?_
  refine r_aload_n X dX5_readTape_38 rfl ?_
  refine r_iconst (v := -1) X dX5_readTape_39 (by decide +kernel) ?_
  refine a_put (a := 79) X hn fp_X5_37 dX5_readTape_40 rfl rfl rfl rfl ?_
  refine r_eq (h' := h0 ++ (frC n ++ frM (n + 103) wf)) rfl rfl rfl ?_
  refine r_iload_n X dX5_readTape_43 rfl ?_
  refine r_if_lt_f (tgt := 52) X dX5_readTape_44 rfl (by decide +kernel) ?_
  refine r_iload_n X dX5_readTape_47 rfl ?_
  refine r_iconst (v := 4) X dX5_readTape_48 (by decide +kernel) ?_
  refine r_icmp_lt_t (tgt := 54) X dX5_readTape_49 rfl (by decide +kernel) ?_
  refine r_aload_n X dX5_readTape_54 rfl ?_
  refine r_V0v X kv_X5_55 dX5_readTape_55 (apG (k := 79) hn rfl) rfl (kt1_X5_step l G _ _ hn _) rfl (fun h' hΨ => ?_)
  obtain rfl := hΨ
  refine r_iconst (v := 1) X dX5_readTape_58 (by decide +kernel) ?_
  refine r_istore_n X dX5_readTape_59 (by decide) ?_
  refine r_iconst (v := 0) X dX5_readTape_60 (by decide +kernel) ?_
  refine r_istore X dX5_readTape_61 (by decide) ?_
  refine r_iload X dX5_readTape_63 rfl ?_
  refine r_bipush (v := 16) X dX5_readTape_65 (by decide +kernel) ?_
  refine r_icmp_gt_f (tgt := 143) X dX5_readTape_67 rfl (by decide +kernel) ?_
  refine r_iload_n X dX5_readTape_70 rfl ?_
  refine r_if_eq_f (tgt := 143) X dX5_readTape_71 rfl (by decide +kernel) ?_
  refine r_aload_n X dX5_readTape_74 rfl ?_
  refine a_get (a := 79) X hn fg_X5_28 dX5_readTape_75 rfl rfl ?_
  refine r_iconst (v := 2) X dX5_readTape_78 (by decide +kernel) ?_
  refine r_icmp_eq_t (tgt := 143) X dX5_readTape_79 rfl (by decide +kernel) ?_
  refine r_iload_n X dX5_readTape_143 rfl ?_
  refine r_if_ne_t (tgt := 149) X dX5_readTape_144 rfl (by decide +kernel) ?_
  refine a_new (k := 146) X hn nk_X5_72 dX5_readTape_149 rfl rfl rfl ?_
  refine r_dup X dX5_readTape_152 ?_
  refine r_aload_n X dX5_readTape_153 rfl ?_
  refine a_get (a := 79) X hn fg_X5_43 dX5_readTape_154 rfl rfl ?_
  refine r_aload_n X dX5_readTape_157 rfl ?_
  refine a_get (a := 79) X hn fg_X5_46 dX5_readTape_158 rfl rfl ?_
  refine r_iconst (v := 5) X dX5_readTape_161 (by decide +kernel) ?_
  refine r_imulE (v := 0) X dX5_readTape_162 (by decide +kernel) ?_
  refine r_S2a X ks_X5_74 dX5_readTape_163 (kt2_J7_copyOf_59c91 l G _ _ hn _) rfl (fun x h' hΨ => ?_)
  obtain ⟨rfl, rfl⟩ := hΨ
  refine r_aload_n X dX5_readTape_166 rfl ?_
  refine a_get (a := 79) X hn fg_X5_46 dX5_readTape_167 rfl rfl ?_
  refine r_aload_n X dX5_readTape_170 rfl ?_
  refine a_get (a := 79) X hn fg_X5_49 dX5_readTape_171 rfl rfl ?_
  refine r_aload_n X dX5_readTape_174 rfl ?_
  refine a_get (a := 79) X hn fg_X5_52 dX5_readTape_175 rfl rfl ?_
  refine r_S2a X ks_X5_74 dX5_readTape_178 (kt3_J7_copyOf_59c91 l G _ _ hn _) rfl (fun x h' hΨ => ?_)
  obtain ⟨rfl, rfl⟩ := hΨ
  refine r_I3v X ki_X5_80 dX5_readTape_181 (kt4_X8_init l G _ _ hn _) rfl (fun h' hΨ => ?_)
  obtain rfl := hΨ
  exact r_ret_a (v := _) X hr (Or.inl ⟨_, rfl⟩) hlk dX5_readTape_184 (Nat.le_of_ble_eq_true rfl) (Nat.le_of_ble_eq_true rfl) ⟨_, rfl, ⟨rfl, rfl⟩⟩
set_option maxRecDepth 100000 in
set_option maxHeartbeats 4000000 in
theorem kt8_X7_forget (l : Launch) (G : PG) (h0 : PH) (n : Nat) (hn : h0.length = n) (wf : Nat → Int32) : PMet l G yX7_forget cX7_forget 1 none 0 0 0 [vR (n + 59)] (h0 ++ ((((((frC n ++ frM (n + 103) wf) ++ [eO 8 [vN, vI 0, vN]]) ++ [eI 0 (fun _ => 0)]) ++ [eI 0 (fun _ => 0)]).set 7 (eR 2 4 (va_up (va_up (va_up (va_up (va_up (fun _ => none) (0 : Int32).toNatClampNeg (some (n + 9))) (1 : Int32).toNatClampNeg (some (n + 9))) (2 : Int32).toNatClampNeg (some (n + 9))) (3 : Int32).toNatClampNeg (some (n + 9))) (1 : Int32).toNatClampNeg (some (n + 146))))).set 146 (eO 8 [vR (n + 147), vI 0, vR (n + 148)]))) (qV (fun h' => h' = h0 ++ ((((((frC n ++ frM (n + 103) wf) ++ [eO 8 [vN, vI 0, vN]]) ++ [eI 0 (fun _ => 0)]) ++ [eI 0 (fun _ => 0)]).set 7 (eR 2 4 (va_up (va_up (va_up (va_up (va_up (fun _ => none) (0 : Int32).toNatClampNeg (some (n + 9))) (1 : Int32).toNatClampNeg (some (n + 9))) (2 : Int32).toNatClampNeg (some (n + 9))) (3 : Int32).toNatClampNeg (some (n + 9))) (1 : Int32).toNatClampNeg (some (n + 146))))).set 146 (eO 8 [vR (n + 147), vI 0, vR (n + 148)])))) := by
  refine PMet.intro (by decide) (Nat.le_of_ble_eq_true rfl) ?_
  intro p e s m args below meth c X hr hlk hnm
  refine r_aload_n X dX7_forget_0 rfl ?_
  refine r_iconst (v := 0) X dX7_forget_1 (by decide +kernel) ?_
  refine a_put (a := 59) X hn fp_X7_21 dX7_forget_2 rfl rfl rfl rfl ?_
  refine r_eq (h' := h0 ++ ((((((frC n ++ frM (n + 103) wf) ++ [eO 8 [vN, vI 0, vN]]) ++ [eI 0 (fun _ => 0)]) ++ [eI 0 (fun _ => 0)]).set 7 (eR 2 4 (va_up (va_up (va_up (va_up (va_up (fun _ => none) (0 : Int32).toNatClampNeg (some (n + 9))) (1 : Int32).toNatClampNeg (some (n + 9))) (2 : Int32).toNatClampNeg (some (n + 9))) (3 : Int32).toNatClampNeg (some (n + 9))) (1 : Int32).toNatClampNeg (some (n + 146))))).set 146 (eO 8 [vR (n + 147), vI 0, vR (n + 148)]))) rfl rfl rfl ?_
  exact r_ret_v X hr hlk dX7_forget_5 (Nat.le_of_ble_eq_true rfl) (Nat.le_of_ble_eq_true rfl) ⟨rfl, rfl⟩
set_option maxRecDepth 100000 in
set_option maxHeartbeats 4000000 in
theorem kt9_X5_readTape (l : Launch) (G : PG) (h0 : PH) (n : Nat) (hn : h0.length = n) (wf : Nat → Int32) : PMet l G yX5_readTape cX5_readTape 5 (some (.object "ThumbBallot$Text")) 2 3 3 [vR (n + 79), vI 2, vI 0] (h0 ++ (frC n ++ frM (n + 103) wf)) (qA (fun x h' => x = some (n + 146) ∧ h' = h0 ++ (((((frC n ++ frM (n + 103) wf) ++ [eO 8 [vN, vI 0, vN]]) ++ [eI 0 (fun _ => 0)]) ++ [eI 0 (fun _ => 0)]).set 146 (eO 8 [vR (n + 147), vI 0, vR (n + 148)])))) := by
  refine PMet.intro (by decide) (Nat.le_of_ble_eq_true rfl) ?_
  intro p e s m args below meth c X hr hlk hnm
  refine r_aload_n X dX5_readTape_0 rfl ?_
  refine r_aload_n X dX5_readTape_1 rfl ?_
  refine a_get (a := 79) X hn fg_X5_15 dX5_readTape_2 rfl rfl ?_
  refine a_put (a := 79) X hn fp_X5_19 dX5_readTape_5 rfl rfl rfl rfl ?_
  refine r_eq (h' := h0 ++ (frC n ++ frM (n + 103) wf)) rfl rfl rfl ?_
  refine r_aload_n X dX5_readTape_8 rfl ?_
  refine r_iconst (v := 0) X dX5_readTape_9 (by decide +kernel) ?_
  refine a_put (a := 79) X hn fp_X5_15 dX5_readTape_10 rfl rfl rfl rfl ?_
  refine r_eq (h' := h0 ++ (frC n ++ frM (n + 103) wf)) rfl rfl rfl ?_
  refine r_aload_n X dX5_readTape_13 rfl ?_
  refine r_iconst (v := 0) X dX5_readTape_14 (by decide +kernel) ?_
  refine a_put (a := 79) X hn fp_X5_25 dX5_readTape_15 rfl rfl rfl rfl ?_
  refine r_eq (h' := h0 ++ (frC n ++ frM (n + 103) wf)) rfl rfl rfl ?_
  refine r_aload_n X dX5_readTape_18 rfl ?_
  refine r_iconst (v := 0) X dX5_readTape_19 (by decide +kernel) ?_
  refine a_put (a := 79) X hn fp_X5_46 dX5_readTape_20 rfl rfl rfl rfl ?_
  refine r_eq (h' := h0 ++ (frC n ++ frM (n + 103) wf)) rfl rfl rfl ?_
  refine r_aload_n X dX5_readTape_23 rfl ?_
  refine r_iconst (v := 0) X dX5_readTape_24 (by decide +kernel) ?_
  refine a_put (a := 79) X hn fp_X5_52 dX5_readTape_25 rfl rfl rfl rfl ?_
  refine r_eq (h' := h0 ++ (frC n ++ frM (n + 103) wf)) rfl rfl rfl ?_
  refine r_aload_n X dX5_readTape_28 rfl ?_
  refine r_iload_n X dX5_readTape_29 rfl ?_
  refine a_put (a := 79) X hn fp_X5_40 dX5_readTape_30 rfl rfl rfl rfl ?_
  refine r_eq (h' := h0 ++ (frC n ++ frM (n + 103) wf)) rfl rfl rfl ?_
  refine r_aload_n X dX5_readTape_33 rfl ?_
  refine r_iconst (v := 0) X dX5_readTape_34 (by decide +kernel) ?_
  refine a_put (a := 79) X hn fp_X5_34 dX5_readTape_35 rfl rfl rfl rfl ?_
  refine r_eq (h' := h0 ++ (frC n ++ frM (n + 103) wf)) rfl rfl rfl ?_
  refine r_aload_n X dX5_readTape_38 rfl ?_
  refine r_iconst (v := -1) X dX5_readTape_39 (by decide +kernel) ?_
  refine a_put (a := 79) X hn fp_X5_37 dX5_readTape_40 rfl rfl rfl rfl ?_
  refine r_eq (h' := h0 ++ (frC n ++ frM (n + 103) wf)) rfl rfl rfl ?_
  refine r_iload_n X dX5_readTape_43 rfl ?_
  refine r_if_lt_f (tgt := 52) X dX5_readTape_44 rfl (by decide +kernel) ?_
  refine r_iload_n X dX5_readTape_47 rfl ?_
  refine r_iconst (v := 4) X dX5_readTape_48 (by decide +kernel) ?_
  refine r_icmp_lt_t (tgt := 54) X dX5_readTape_49 rfl (by decide +kernel) ?_
  refine r_aload_n X dX5_readTape_54 rfl ?_
  refine r_V0v X kv_X5_55 dX5_readTape_55 (apG (k := 79) hn rfl) rfl (kt1_X5_step l G _ _ hn _) rfl (fun h' hΨ => ?_)
  obtain rfl := hΨ
  refine r_iconst (v := 1) X dX5_readTape_58 (by decide +kernel) ?_
  refine r_istore_n X dX5_readTape_59 (by decide) ?_
  refine r_iconst (v := 0) X dX5_readTape_60 (by decide +kernel) ?_
  refine r_istore X dX5_readTape_61 (by decide) ?_
  refine r_iload X dX5_readTape_63 rfl ?_
  refine r_bipush (v := 16) X dX5_readTape_65 (by decide +kernel) ?_
  refine r_icmp_gt_f (tgt := 143) X dX5_readTape_67 rfl (by decide +kernel) ?_
  refine r_iload_n X dX5_readTape_70 rfl ?_
  refine r_if_eq_f (tgt := 143) X dX5_readTape_71 rfl (by decide +kernel) ?_
  refine r_aload_n X dX5_readTape_74 rfl ?_
  refine a_get (a := 79) X hn fg_X5_28 dX5_readTape_75 rfl rfl ?_
  refine r_iconst (v := 2) X dX5_readTape_78 (by decide +kernel) ?_
  refine r_icmp_eq_t (tgt := 143) X dX5_readTape_79 rfl (by decide +kernel) ?_
  refine r_iload_n X dX5_readTape_143 rfl ?_
  refine r_if_ne_t (tgt := 149) X dX5_readTape_144 rfl (by decide +kernel) ?_
  refine a_new (k := 146) X hn nk_X5_72 dX5_readTape_149 rfl rfl rfl ?_
  refine r_dup X dX5_readTape_152 ?_
  refine r_aload_n X dX5_readTape_153 rfl ?_
  refine a_get (a := 79) X hn fg_X5_43 dX5_readTape_154 rfl rfl ?_
  refine r_aload_n X dX5_readTape_157 rfl ?_
  refine a_get (a := 79) X hn fg_X5_46 dX5_readTape_158 rfl rfl ?_
  refine r_iconst (v := 5) X dX5_readTape_161 (by decide +kernel) ?_
  refine r_imulE (v := 0) X dX5_readTape_162 (by decide +kernel) ?_
  refine r_S2a X ks_X5_74 dX5_readTape_163 (kt2_J7_copyOf_59c91 l G _ _ hn _) rfl (fun x h' hΨ => ?_)
  obtain ⟨rfl, rfl⟩ := hΨ
  refine r_aload_n X dX5_readTape_166 rfl ?_
  refine a_get (a := 79) X hn fg_X5_46 dX5_readTape_167 rfl rfl ?_
  refine r_aload_n X dX5_readTape_170 rfl ?_
  refine a_get (a := 79) X hn fg_X5_49 dX5_readTape_171 rfl rfl ?_
  refine r_aload_n X dX5_readTape_174 rfl ?_
  refine a_get (a := 79) X hn fg_X5_52 dX5_readTape_175 rfl rfl ?_
  refine r_S2a X ks_X5_74 dX5_readTape_178 (kt3_J7_copyOf_59c91 l G _ _ hn _) rfl (fun x h' hΨ => ?_)
  obtain ⟨rfl, rfl⟩ := hΨ
  refine r_I3v X ki_X5_80 dX5_readTape_181 (kt4_X8_init l G _ _ hn _) rfl (fun h' hΨ => ?_)
  obtain rfl := hΨ
  exact r_ret_a (v := _) X hr (Or.inl ⟨_, rfl⟩) hlk dX5_readTape_184 (Nat.le_of_ble_eq_true rfl) (Nat.le_of_ble_eq_true rfl) ⟨_, rfl, ⟨rfl, rfl⟩⟩
set_option maxRecDepth 100000 in
set_option maxHeartbeats 4000000 in
theorem kt10_X7_forget (l : Launch) (G : PG) (h0 : PH) (n : Nat) (hn : h0.length = n) (wf : Nat → Int32) : PMet l G yX7_forget cX7_forget 1 none 0 0 0 [vR (n + 59)] (h0 ++ ((((((frC n ++ frM (n + 103) wf) ++ [eO 8 [vN, vI 0, vN]]) ++ [eI 0 (fun _ => 0)]) ++ [eI 0 (fun _ => 0)]).set 7 (eR 2 4 (va_up (va_up (va_up (va_up (va_up (fun _ => none) (0 : Int32).toNatClampNeg (some (n + 9))) (1 : Int32).toNatClampNeg (some (n + 9))) (2 : Int32).toNatClampNeg (some (n + 9))) (3 : Int32).toNatClampNeg (some (n + 9))) (2 : Int32).toNatClampNeg (some (n + 146))))).set 146 (eO 8 [vR (n + 147), vI 0, vR (n + 148)]))) (qV (fun h' => h' = h0 ++ ((((((frC n ++ frM (n + 103) wf) ++ [eO 8 [vN, vI 0, vN]]) ++ [eI 0 (fun _ => 0)]) ++ [eI 0 (fun _ => 0)]).set 7 (eR 2 4 (va_up (va_up (va_up (va_up (va_up (fun _ => none) (0 : Int32).toNatClampNeg (some (n + 9))) (1 : Int32).toNatClampNeg (some (n + 9))) (2 : Int32).toNatClampNeg (some (n + 9))) (3 : Int32).toNatClampNeg (some (n + 9))) (2 : Int32).toNatClampNeg (some (n + 146))))).set 146 (eO 8 [vR (n + 147), vI 0, vR (n + 148)])))) := by
  refine PMet.intro (by decide) (Nat.le_of_ble_eq_true rfl) ?_
  intro p e s m args below meth c X hr hlk hnm
  refine r_aload_n X dX7_forget_0 rfl ?_
  refine r_iconst (v := 0) X dX7_forget_1 (by decide +kernel) ?_
  refine a_put (a := 59) X hn fp_X7_21 dX7_forget_2 rfl rfl rfl rfl ?_
  refine r_eq (h' := h0 ++ ((((((frC n ++ frM (n + 103) wf) ++ [eO 8 [vN, vI 0, vN]]) ++ [eI 0 (fun _ => 0)]) ++ [eI 0 (fun _ => 0)]).set 7 (eR 2 4 (va_up (va_up (va_up (va_up (va_up (fun _ => none) (0 : Int32).toNatClampNeg (some (n + 9))) (1 : Int32).toNatClampNeg (some (n + 9))) (2 : Int32).toNatClampNeg (some (n + 9))) (3 : Int32).toNatClampNeg (some (n + 9))) (2 : Int32).toNatClampNeg (some (n + 146))))).set 146 (eO 8 [vR (n + 147), vI 0, vR (n + 148)]))) rfl rfl rfl ?_
  exact r_ret_v X hr hlk dX7_forget_5 (Nat.le_of_ble_eq_true rfl) (Nat.le_of_ble_eq_true rfl) ⟨rfl, rfl⟩
set_option maxRecDepth 100000 in
set_option maxHeartbeats 4000000 in
theorem kt11_X5_readTape (l : Launch) (G : PG) (h0 : PH) (n : Nat) (hn : h0.length = n) (wf : Nat → Int32) : PMet l G yX5_readTape cX5_readTape 5 (some (.object "ThumbBallot$Text")) 2 3 3 [vR (n + 79), vI 3, vI 0] (h0 ++ (frC n ++ frM (n + 103) wf)) (qA (fun x h' => x = some (n + 146) ∧ h' = h0 ++ (((((frC n ++ frM (n + 103) wf) ++ [eO 8 [vN, vI 0, vN]]) ++ [eI 0 (fun _ => 0)]) ++ [eI 0 (fun _ => 0)]).set 146 (eO 8 [vR (n + 147), vI 0, vR (n + 148)])))) := by
  refine PMet.intro (by decide) (Nat.le_of_ble_eq_true rfl) ?_
  intro p e s m args below meth c X hr hlk hnm
  refine r_aload_n X dX5_readTape_0 rfl ?_
  refine r_aload_n X dX5_readTape_1 rfl ?_
  refine a_get (a := 79) X hn fg_X5_15 dX5_readTape_2 rfl rfl ?_
  refine a_put (a := 79) X hn fp_X5_19 dX5_readTape_5 rfl rfl rfl rfl ?_
  refine r_eq (h' := h0 ++ (frC n ++ frM (n + 103) wf)) rfl rfl rfl ?_
  refine r_aload_n X dX5_readTape_8 rfl ?_
  refine r_iconst (v := 0) X dX5_readTape_9 (by decide +kernel) ?_
  refine a_put (a := 79) X hn fp_X5_15 dX5_readTape_10 rfl rfl rfl rfl ?_
  refine r_eq (h' := h0 ++ (frC n ++ frM (n + 103) wf)) rfl rfl rfl ?_
  refine r_aload_n X dX5_readTape_13 rfl ?_
  refine r_iconst (v := 0) X dX5_readTape_14 (by decide +kernel) ?_
  refine a_put (a := 79) X hn fp_X5_25 dX5_readTape_15 rfl rfl rfl rfl ?_
  refine r_eq (h' := h0 ++ (frC n ++ frM (n + 103) wf)) rfl rfl rfl ?_
  refine r_aload_n X dX5_readTape_18 rfl ?_
  refine r_iconst (v := 0) X dX5_readTape_19 (by decide +kernel) ?_
  refine a_put (a := 79) X hn fp_X5_46 dX5_readTape_20 rfl rfl rfl rfl ?_
  refine r_eq (h' := h0 ++ (frC n ++ frM (n + 103) wf)) rfl rfl rfl ?_
  refine r_aload_n X dX5_readTape_23 rfl ?_
  refine r_iconst (v := 0) X dX5_readTape_24 (by decide +kernel) ?_
  refine a_put (a := 79) X hn fp_X5_52 dX5_readTape_25 rfl rfl rfl rfl ?_
  refine r_eq (h' := h0 ++ (frC n ++ frM (n + 103) wf)) rfl rfl rfl ?_
  refine r_aload_n X dX5_readTape_28 rfl ?_
  refine r_iload_n X dX5_readTape_29 rfl ?_
  refine a_put (a := 79) X hn fp_X5_40 dX5_readTape_30 rfl rfl rfl rfl ?_
  refine r_eq (h' := h0 ++ (frC n ++ frM (n + 103) wf)) rfl rfl rfl ?_
  refine r_aload_n X dX5_readTape_33 rfl ?_
  refine r_iconst (v := 0) X dX5_readTape_34 (by decide +kernel) ?_
  refine a_put (a := 79) X hn fp_X5_34 dX5_readTape_35 rfl rfl rfl rfl ?_
  refine r_eq (h' := h0 ++ (frC n ++ frM (n + 103) wf)) rfl rfl rfl ?_
  refine r_aload_n X dX5_readTape_38 rfl ?_
  refine r_iconst (v := -1) X dX5_readTape_39 (by decide +kernel) ?_
  refine a_put (a := 79) X hn fp_X5_37 dX5_readTape_40 rfl rfl rfl rfl ?_
  refine r_eq (h' := h0 ++ (frC n ++ frM (n + 103) wf)) rfl rfl rfl ?_
  refine r_iload_n X dX5_readTape_43 rfl ?_
  refine r_if_lt_f (tgt := 52) X dX5_readTape_44 rfl (by decide +kernel) ?_
  refine r_iload_n X dX5_readTape_47 rfl ?_
  refine r_iconst (v := 4) X dX5_readTape_48 (by decide +kernel) ?_
  refine r_icmp_lt_t (tgt := 54) X dX5_readTape_49 rfl (by decide +kernel) ?_
  refine r_aload_n X dX5_readTape_54 rfl ?_
  refine r_V0v X kv_X5_55 dX5_readTape_55 (apG (k := 79) hn rfl) rfl (kt1_X5_step l G _ _ hn _) rfl (fun h' hΨ => ?_)
  obtain rfl := hΨ
  refine r_iconst (v := 1) X dX5_readTape_58 (by decide +kernel) ?_
  refine r_istore_n X dX5_readTape_59 (by decide) ?_
  refine r_iconst (v := 0) X dX5_readTape_60 (by decide +kernel) ?_
  refine r_istore X dX5_readTape_61 (by decide) ?_
  refine r_iload X dX5_readTape_63 rfl ?_
  refine r_bipush (v := 16) X dX5_readTape_65 (by decide +kernel) ?_
  refine r_icmp_gt_f (tgt := 143) X dX5_readTape_67 rfl (by decide +kernel) ?_
  refine r_iload_n X dX5_readTape_70 rfl ?_
  refine r_if_eq_f (tgt := 143) X dX5_readTape_71 rfl (by decide +kernel) ?_
  refine r_aload_n X dX5_readTape_74 rfl ?_
  refine a_get (a := 79) X hn fg_X5_28 dX5_readTape_75 rfl rfl ?_
  refine r_iconst (v := 2) X dX5_readTape_78 (by decide +kernel) ?_
  refine r_icmp_eq_t (tgt := 143) X dX5_readTape_79 rfl (by decide +kernel) ?_
  refine r_iload_n X dX5_readTape_143 rfl ?_
  refine r_if_ne_t (tgt := 149) X dX5_readTape_144 rfl (by decide +kernel) ?_
  refine a_new (k := 146) X hn nk_X5_72 dX5_readTape_149 rfl rfl rfl ?_
  refine r_dup X dX5_readTape_152 ?_
  refine r_aload_n X dX5_readTape_153 rfl ?_
  refine a_get (a := 79) X hn fg_X5_43 dX5_readTape_154 rfl rfl ?_
  refine r_aload_n X dX5_readTape_157 rfl ?_
  refine a_get (a := 79) X hn fg_X5_46 dX5_readTape_158 rfl rfl ?_
  refine r_iconst (v := 5) X dX5_readTape_161 (by decide +kernel) ?_
  refine r_imulE (v := 0) X dX5_readTape_162 (by decide +kernel) ?_
  refine r_S2a X ks_X5_74 dX5_readTape_163 (kt2_J7_copyOf_59c91 l G _ _ hn _) rfl (fun x h' hΨ => ?_)
  obtain ⟨rfl, rfl⟩ := hΨ
  refine r_aload_n X dX5_readTape_166 rfl ?_
  refine a_get (a := 79) X hn fg_X5_46 dX5_readTape_167 rfl rfl ?_
  refine r_aload_n X dX5_readTape_170 rfl ?_
  refine a_get (a := 79) X hn fg_X5_49 dX5_readTape_171 rfl rfl ?_
  refine r_aload_n X dX5_readTape_174 rfl ?_
  refine a_get (a := 79) X hn fg_X5_52 dX5_readTape_175 rfl rfl ?_
  refine r_S2a X ks_X5_74 dX5_readTape_178 (kt3_J7_copyOf_59c91 l G _ _ hn _) rfl (fun x h' hΨ => ?_)
  obtain ⟨rfl, rfl⟩ := hΨ
  refine r_I3v X ki_X5_80 dX5_readTape_181 (kt4_X8_init l G _ _ hn _) rfl (fun h' hΨ => ?_)
  obtain rfl := hΨ
  exact r_ret_a (v := _) X hr (Or.inl ⟨_, rfl⟩) hlk dX5_readTape_184 (Nat.le_of_ble_eq_true rfl) (Nat.le_of_ble_eq_true rfl) ⟨_, rfl, ⟨rfl, rfl⟩⟩
set_option maxRecDepth 100000 in
set_option maxHeartbeats 4000000 in
theorem x_text (l : Launch) (G : PG) (h0 : PH) (n : Nat) (hn : h0.length = n) (wf : Nat → Int32) (a : Int32) : PMet l G yX11_text cX11_text 3 (some .int) 3 3 3 [vR (n + 0), vI a] (h0 ++ (frC n ++ frM (n + 103) wf)) (qI (fun x h' => x = sp_text a ∧ kp2 n 103 (frM (n + 103) wf) h')) := by
  refine PMet.intro (by decide) (Nat.le_of_ble_eq_true rfl) ?_
  intro p e s m args below meth c X hr hlk hnm
  rcases tabc a 0 3 (by decide) with q1 | ⟨q1j, q1l, q1e⟩
  · have q1_0 : ¬ a = 0 := by rintro rfl; revert q1; decide
    have q1_1 : ¬ a = 1 := by rintro rfl; revert q1; decide
    have q1_2 : ¬ a = 2 := by rintro rfl; revert q1; decide
    have q1_3 : ¬ a = 3 := by rintro rfl; revert q1; decide
    refine r_aload_n X dX11_text_0 rfl ?_
    refine a_get (a := 0) X hn fg_X11_33 dX11_text_1 rfl rfl ?_
    refine r_iload_n X dX11_text_4 rfl ?_
    refine r_aload_n X dX11_text_5 rfl ?_
    refine a_get (a := 0) X hn fg_X11_12 dX11_text_6 rfl rfl ?_
    refine a_get (a := 1) X hn fg_X11_67 dX11_text_9 rfl rfl ?_
    refine a_get (a := 2) X hn fg_X11_99 dX11_text_12 rfl rfl ?_
    refine r_V2a X kv_X11_154 dX11_text_15 (apG (k := 79) hn rfl) rfl (kt5_X5_readTape l G _ _ hn _ _) rfl (fun x h' hΨ => ?_)
    rcases hΨ with ⟨q2, rfl, rfl⟩ | ⟨q3, q4, rfl, rfl⟩ | ⟨q5, q6, rfl, rfl⟩
    · refine r_astore_nN X dX11_text_18 (by decide) ?_
      refine r_aload_nN X dX11_text_19 rfl ?_
      refine r_ifnull_n (tgt := 32) X dX11_text_20 rfl ?_
      refine r_iconst (v := -1) X dX11_text_32 (by decide +kernel) ?_
      exact r_ret_i X hr hlk dX11_text_33 (Nat.le_of_ble_eq_true rfl) (Nat.le_of_ble_eq_true rfl) ⟨_, rfl, by unfold sp_text; (repeat' split) <;> first | rfl | (exfalso; have e0 : (-1 : Int32).toInt = -1 := (by decide); have e1 : (0 : Int32).toInt = 0 := (by decide); have e2 : (1 : Int32).toInt = 1 := (by decide); have e3 : (2 : Int32).toInt = 2 := (by decide); have e4 : (3 : Int32).toInt = 3 := (by decide); simp only [inR, Int32.lt_iff_toInt_lt, Int32.le_iff_toInt_le, ← Int32.toInt_inj, true_or, or_true, not_true_eq_false, and_true, true_and, false_or, or_false, false_and, and_false, not_false_eq_true] at * <;> omega), kp_of2 (L1 := []) hn rfl rfl⟩
    · exact absurd (by have e1 : (0 : Int32).toInt = 0 := (by decide); have e2 : (1 : Int32).toInt = 1 := (by decide); have e3 : (2 : Int32).toInt = 2 := (by decide); have e4 : (3 : Int32).toInt = 3 := (by decide); have e5 : (4 : Int32).toInt = 4 := (by decide); simp only [Int32.lt_iff_toInt_lt, Int32.le_iff_toInt_le, ← Int32.toInt_inj] at q1_0 q1_1 q1_2 q1_3 q3 q4; omega) (id : ¬ False)
    · refine r_astore_nN X dX11_text_18 (by decide) ?_
      refine r_aload_nN X dX11_text_19 rfl ?_
      refine r_ifnull_n (tgt := 32) X dX11_text_20 rfl ?_
      refine r_iconst (v := -1) X dX11_text_32 (by decide +kernel) ?_
      exact r_ret_i X hr hlk dX11_text_33 (Nat.le_of_ble_eq_true rfl) (Nat.le_of_ble_eq_true rfl) ⟨_, rfl, by unfold sp_text; (repeat' split) <;> first | rfl | (exfalso; have e0 : (-1 : Int32).toInt = -1 := (by decide); have e1 : (0 : Int32).toInt = 0 := (by decide); have e2 : (1 : Int32).toInt = 1 := (by decide); have e3 : (2 : Int32).toInt = 2 := (by decide); have e4 : (3 : Int32).toInt = 3 := (by decide); have e5 : (4 : Int32).toInt = 4 := (by decide); simp only [inR, Int32.lt_iff_toInt_lt, Int32.le_iff_toInt_le, ← Int32.toInt_inj, true_or, or_true, not_true_eq_false, and_true, true_and, false_or, or_false, false_and, and_false, not_false_eq_true] at * <;> omega), kp_of2 (L1 := []) hn rfl rfl⟩
  · rcases (show q1j = 0 ∨ q1j = 1 ∨ q1j = 2 ∨ q1j = 3 by omega) with rfl | rfl | rfl | rfl
    · obtain rfl : a = 0 := q1e.trans (by decide +kernel)
      refine r_aload_n X dX11_text_0 rfl ?_
      refine a_get (a := 0) X hn fg_X11_33 dX11_text_1 rfl rfl ?_
      refine r_iload_n X dX11_text_4 rfl ?_
      refine r_aload_n X dX11_text_5 rfl ?_
      refine a_get (a := 0) X hn fg_X11_12 dX11_text_6 rfl rfl ?_
      refine a_get (a := 1) X hn fg_X11_67 dX11_text_9 rfl rfl ?_
      refine a_get (a := 2) X hn fg_X11_99 dX11_text_12 rfl rfl ?_
      refine r_V2a X kv_X11_154 dX11_text_15 (apG (k := 79) hn rfl) rfl (kt6_X5_readTape l G _ _ hn _) rfl (fun x h' hΨ => ?_)
      obtain ⟨rfl, rfl⟩ := hΨ
      refine r_astore_n X dX11_text_18 (by decide) ?_
      refine r_aload_n X dX11_text_19 rfl ?_
      refine r_ifnull_r X dX11_text_20 ?_
      refine r_iload_n X dX11_text_23 rfl ?_
      refine r_if_lt_f (tgt := 32) X dX11_text_24 rfl (by decide +kernel) ?_
      refine r_iload_n X dX11_text_27 rfl ?_
      refine r_iconst (v := 4) X dX11_text_28 (by decide +kernel) ?_
      refine r_icmp_lt_t (tgt := 34) X dX11_text_29 rfl (by decide +kernel) ?_
      refine r_aload_n X dX11_text_34 rfl ?_
      refine a_get (a := 0) X hn fg_X11_12 dX11_text_35 rfl rfl ?_
      refine a_get (a := 1) X hn fg_X11_70 dX11_text_38 rfl rfl ?_
      refine r_iload_n X dX11_text_41 rfl ?_
      refine r_aload_n X dX11_text_42 rfl ?_
      refine a_aast (a := 7) (b := 146) (C := RX8) X hn rfl rfl dX11_text_43 rfl rfl (inK (by decide +kernel)) ?_
      refine r_eq (h' := h0 ++ ((((((frC n ++ frM (n + 103) wf) ++ [eO 8 [vN, vI 0, vN]]) ++ [eI 0 (fun _ => 0)]) ++ [eI 0 (fun _ => 0)]).set 7 (eR 2 4 (va_up (va_up (va_up (va_up (va_up (fun _ => none) (0 : Int32).toNatClampNeg (some (n + 9))) (1 : Int32).toNatClampNeg (some (n + 9))) (2 : Int32).toNatClampNeg (some (n + 9))) (3 : Int32).toNatClampNeg (some (n + 9))) (0 : Int32).toNatClampNeg (some (n + 146))))).set 146 (eO 8 [vR (n + 147), vI 0, vR (n + 148)]))) rfl rfl rfl ?_
      refine r_iload_n X dX11_text_44 rfl ?_
      refine r_iconst (v := 1) X dX11_text_45 (by decide +kernel) ?_
      refine r_icmp_eq_f (tgt := 54) X dX11_text_46 rfl (by decide +kernel) ?_
      refine r_iload_n X dX11_text_49 rfl ?_
      refine r_iconst (v := 2) X dX11_text_50 (by decide +kernel) ?_
      refine r_icmp_ne_t (tgt := 61) X dX11_text_51 rfl (by decide +kernel) ?_
      refine r_aload_n X dX11_text_61 rfl ?_
      refine a_get (a := 146) X hn fg_X11_158 dX11_text_62 rfl rfl ?_
      exact r_ret_i X hr hlk dX11_text_65 (Nat.le_of_ble_eq_true rfl) (Nat.le_of_ble_eq_true rfl) ⟨_, rfl, by unfold sp_text; (repeat' split) <;> first | rfl | (exfalso; have e0 : (-1 : Int32).toInt = -1 := (by decide); have e1 : (0 : Int32).toInt = 0 := (by decide); have e2 : (3 : Int32).toInt = 3 := (by decide); simp only [inR, Int32.lt_iff_toInt_lt, Int32.le_iff_toInt_le, ← Int32.toInt_inj, true_or, or_true, not_true_eq_false, and_true, true_and, false_or, or_false, false_and, and_false, not_false_eq_true] at * <;> omega), kp_of2 (L1 := [eO 8 [vR (n + 147), vI 0, vR (n + 148)], eI 0 (fun _ => 0), eI 0 (fun _ => 0)]) hn rfl rfl⟩
    · obtain rfl : a = 1 := q1e.trans (by decide +kernel)
      refine r_aload_n X dX11_text_0 rfl ?_
      refine a_get (a := 0) X hn fg_X11_33 dX11_text_1 rfl rfl ?_
      refine r_iload_n X dX11_text_4 rfl ?_
      refine r_aload_n X dX11_text_5 rfl ?_
      refine a_get (a := 0) X hn fg_X11_12 dX11_text_6 rfl rfl ?_
      refine a_get (a := 1) X hn fg_X11_67 dX11_text_9 rfl rfl ?_
      refine a_get (a := 2) X hn fg_X11_99 dX11_text_12 rfl rfl ?_
      refine r_V2a X kv_X11_154 dX11_text_15 (apG (k := 79) hn rfl) rfl (kt7_X5_readTape l G _ _ hn _) rfl (fun x h' hΨ => ?_)
      obtain ⟨rfl, rfl⟩ := hΨ
      refine r_astore_n X dX11_text_18 (by decide) ?_
      refine r_aload_n X dX11_text_19 rfl ?_
      refine r_ifnull_r X dX11_text_20 ?_
      refine r_iload_n X dX11_text_23 rfl ?_
      refine r_if_lt_f (tgt := 32) X dX11_text_24 rfl (by decide +kernel) ?_
      refine r_iload_n X dX11_text_27 rfl ?_
      refine r_iconst (v := 4) X dX11_text_28 (by decide +kernel) ?_
      refine r_icmp_lt_t (tgt := 34) X dX11_text_29 rfl (by decide +kernel) ?_
      refine r_aload_n X dX11_text_34 rfl ?_
      refine a_get (a := 0) X hn fg_X11_12 dX11_text_35 rfl rfl ?_
      refine a_get (a := 1) X hn fg_X11_70 dX11_text_38 rfl rfl ?_
      refine r_iload_n X dX11_text_41 rfl ?_
      refine r_aload_n X dX11_text_42 rfl ?_
      refine a_aast (a := 7) (b := 146) (C := RX8) X hn rfl rfl dX11_text_43 rfl rfl (inK (by decide +kernel)) ?_
      refine r_eq (h' := h0 ++ ((((((frC n ++ frM (n + 103) wf) ++ [eO 8 [vN, vI 0, vN]]) ++ [eI 0 (fun _ => 0)]) ++ [eI 0 (fun _ => 0)]).set 7 (eR 2 4 (va_up (va_up (va_up (va_up (va_up (fun _ => none) (0 : Int32).toNatClampNeg (some (n + 9))) (1 : Int32).toNatClampNeg (some (n + 9))) (2 : Int32).toNatClampNeg (some (n + 9))) (3 : Int32).toNatClampNeg (some (n + 9))) (1 : Int32).toNatClampNeg (some (n + 146))))).set 146 (eO 8 [vR (n + 147), vI 0, vR (n + 148)]))) rfl rfl rfl ?_
      refine r_iload_n X dX11_text_44 rfl ?_
      refine r_iconst (v := 1) X dX11_text_45 (by decide +kernel) ?_
      refine r_icmp_eq_t (tgt := 54) X dX11_text_46 rfl (by decide +kernel) ?_
      refine r_aload_n X dX11_text_54 rfl ?_
      refine a_get (a := 0) X hn fg_X11_26 dX11_text_55 rfl rfl ?_
      refine r_V0v X kv_X11_92 dX11_text_58 (apG (k := 59) hn rfl) rfl (kt8_X7_forget l G _ _ hn _) rfl (fun h' hΨ => ?_)
      obtain rfl := hΨ
      refine r_aload_n X dX11_text_61 rfl ?_
      refine a_get (a := 146) X hn fg_X11_158 dX11_text_62 rfl rfl ?_
      exact r_ret_i X hr hlk dX11_text_65 (Nat.le_of_ble_eq_true rfl) (Nat.le_of_ble_eq_true rfl) ⟨_, rfl, by unfold sp_text; (repeat' split) <;> first | rfl | (exfalso; have e0 : (-1 : Int32).toInt = -1 := (by decide); have e1 : (0 : Int32).toInt = 0 := (by decide); have e2 : (1 : Int32).toInt = 1 := (by decide); have e3 : (3 : Int32).toInt = 3 := (by decide); simp only [inR, Int32.lt_iff_toInt_lt, Int32.le_iff_toInt_le, ← Int32.toInt_inj, true_or, or_true, not_true_eq_false, and_true, true_and, false_or, or_false, false_and, and_false, not_false_eq_true] at * <;> omega), kp_of2 (L1 := [eO 8 [vR (n + 147), vI 0, vR (n + 148)], eI 0 (fun _ => 0), eI 0 (fun _ => 0)]) hn rfl rfl⟩
    · obtain rfl : a = 2 := q1e.trans (by decide +kernel)
      refine r_aload_n X dX11_text_0 rfl ?_
      refine a_get (a := 0) X hn fg_X11_33 dX11_text_1 rfl rfl ?_
      refine r_iload_n X dX11_text_4 rfl ?_
      refine r_aload_n X dX11_text_5 rfl ?_
      refine a_get (a := 0) X hn fg_X11_12 dX11_text_6 rfl rfl ?_
      refine a_get (a := 1) X hn fg_X11_67 dX11_text_9 rfl rfl ?_
      refine a_get (a := 2) X hn fg_X11_99 dX11_text_12 rfl rfl ?_
      refine r_V2a X kv_X11_154 dX11_text_15 (apG (k := 79) hn rfl) rfl (kt9_X5_readTape l G _ _ hn _) rfl (fun x h' hΨ => ?_)
      obtain ⟨rfl, rfl⟩ := hΨ
      refine r_astore_n X dX11_text_18 (by decide) ?_
      refine r_aload_n X dX11_text_19 rfl ?_
      refine r_ifnull_r X dX11_text_20 ?_
      refine r_iload_n X dX11_text_23 rfl ?_
      refine r_if_lt_f (tgt := 32) X dX11_text_24 rfl (by decide +kernel) ?_
      refine r_iload_n X dX11_text_27 rfl ?_
      refine r_iconst (v := 4) X dX11_text_28 (by decide +kernel) ?_
      refine r_icmp_lt_t (tgt := 34) X dX11_text_29 rfl (by decide +kernel) ?_
      refine r_aload_n X dX11_text_34 rfl ?_
      refine a_get (a := 0) X hn fg_X11_12 dX11_text_35 rfl rfl ?_
      refine a_get (a := 1) X hn fg_X11_70 dX11_text_38 rfl rfl ?_
      refine r_iload_n X dX11_text_41 rfl ?_
      refine r_aload_n X dX11_text_42 rfl ?_
      refine a_aast (a := 7) (b := 146) (C := RX8) X hn rfl rfl dX11_text_43 rfl rfl (inK (by decide +kernel)) ?_
      refine r_eq (h' := h0 ++ ((((((frC n ++ frM (n + 103) wf) ++ [eO 8 [vN, vI 0, vN]]) ++ [eI 0 (fun _ => 0)]) ++ [eI 0 (fun _ => 0)]).set 7 (eR 2 4 (va_up (va_up (va_up (va_up (va_up (fun _ => none) (0 : Int32).toNatClampNeg (some (n + 9))) (1 : Int32).toNatClampNeg (some (n + 9))) (2 : Int32).toNatClampNeg (some (n + 9))) (3 : Int32).toNatClampNeg (some (n + 9))) (2 : Int32).toNatClampNeg (some (n + 146))))).set 146 (eO 8 [vR (n + 147), vI 0, vR (n + 148)]))) rfl rfl rfl ?_
      refine r_iload_n X dX11_text_44 rfl ?_
      refine r_iconst (v := 1) X dX11_text_45 (by decide +kernel) ?_
      refine r_icmp_eq_f (tgt := 54) X dX11_text_46 rfl (by decide +kernel) ?_
      refine r_iload_n X dX11_text_49 rfl ?_
      refine r_iconst (v := 2) X dX11_text_50 (by decide +kernel) ?_
      refine r_icmp_ne_f (tgt := 61) X dX11_text_51 rfl (by decide +kernel) ?_
      refine r_aload_n X dX11_text_54 rfl ?_
      refine a_get (a := 0) X hn fg_X11_26 dX11_text_55 rfl rfl ?_
      refine r_V0v X kv_X11_92 dX11_text_58 (apG (k := 59) hn rfl) rfl (kt10_X7_forget l G _ _ hn _) rfl (fun h' hΨ => ?_)
      obtain rfl := hΨ
      refine r_aload_n X dX11_text_61 rfl ?_
      refine a_get (a := 146) X hn fg_X11_158 dX11_text_62 rfl rfl ?_
      exact r_ret_i X hr hlk dX11_text_65 (Nat.le_of_ble_eq_true rfl) (Nat.le_of_ble_eq_true rfl) ⟨_, rfl, by unfold sp_text; (repeat' split) <;> first | rfl | (exfalso; have e0 : (-1 : Int32).toInt = -1 := (by decide); have e1 : (0 : Int32).toInt = 0 := (by decide); have e2 : (2 : Int32).toInt = 2 := (by decide); have e3 : (3 : Int32).toInt = 3 := (by decide); simp only [inR, Int32.lt_iff_toInt_lt, Int32.le_iff_toInt_le, ← Int32.toInt_inj, true_or, or_true, not_true_eq_false, and_true, true_and, false_or, or_false, false_and, and_false, not_false_eq_true] at * <;> omega), kp_of2 (L1 := [eO 8 [vR (n + 147), vI 0, vR (n + 148)], eI 0 (fun _ => 0), eI 0 (fun _ => 0)]) hn rfl rfl⟩
    · obtain rfl : a = 3 := q1e.trans (by decide +kernel)
      refine r_aload_n X dX11_text_0 rfl ?_
      refine a_get (a := 0) X hn fg_X11_33 dX11_text_1 rfl rfl ?_
      refine r_iload_n X dX11_text_4 rfl ?_
      refine r_aload_n X dX11_text_5 rfl ?_
      refine a_get (a := 0) X hn fg_X11_12 dX11_text_6 rfl rfl ?_
      refine a_get (a := 1) X hn fg_X11_67 dX11_text_9 rfl rfl ?_
      refine a_get (a := 2) X hn fg_X11_99 dX11_text_12 rfl rfl ?_
      refine r_V2a X kv_X11_154 dX11_text_15 (apG (k := 79) hn rfl) rfl (kt11_X5_readTape l G _ _ hn _) rfl (fun x h' hΨ => ?_)
      obtain ⟨rfl, rfl⟩ := hΨ
      refine r_astore_n X dX11_text_18 (by decide) ?_
      refine r_aload_n X dX11_text_19 rfl ?_
      refine r_ifnull_r X dX11_text_20 ?_
      refine r_iload_n X dX11_text_23 rfl ?_
      refine r_if_lt_f (tgt := 32) X dX11_text_24 rfl (by decide +kernel) ?_
      refine r_iload_n X dX11_text_27 rfl ?_
      refine r_iconst (v := 4) X dX11_text_28 (by decide +kernel) ?_
      refine r_icmp_lt_t (tgt := 34) X dX11_text_29 rfl (by decide +kernel) ?_
      refine r_aload_n X dX11_text_34 rfl ?_
      refine a_get (a := 0) X hn fg_X11_12 dX11_text_35 rfl rfl ?_
      refine a_get (a := 1) X hn fg_X11_70 dX11_text_38 rfl rfl ?_
      refine r_iload_n X dX11_text_41 rfl ?_
      refine r_aload_n X dX11_text_42 rfl ?_
      refine a_aast (a := 7) (b := 146) (C := RX8) X hn rfl rfl dX11_text_43 rfl rfl (inK (by decide +kernel)) ?_
      refine r_eq (h' := h0 ++ ((((((frC n ++ frM (n + 103) wf) ++ [eO 8 [vN, vI 0, vN]]) ++ [eI 0 (fun _ => 0)]) ++ [eI 0 (fun _ => 0)]).set 7 (eR 2 4 (va_up (va_up (va_up (va_up (va_up (fun _ => none) (0 : Int32).toNatClampNeg (some (n + 9))) (1 : Int32).toNatClampNeg (some (n + 9))) (2 : Int32).toNatClampNeg (some (n + 9))) (3 : Int32).toNatClampNeg (some (n + 9))) (3 : Int32).toNatClampNeg (some (n + 146))))).set 146 (eO 8 [vR (n + 147), vI 0, vR (n + 148)]))) rfl rfl rfl ?_
      refine r_iload_n X dX11_text_44 rfl ?_
      refine r_iconst (v := 1) X dX11_text_45 (by decide +kernel) ?_
      refine r_icmp_eq_f (tgt := 54) X dX11_text_46 rfl (by decide +kernel) ?_
      refine r_iload_n X dX11_text_49 rfl ?_
      refine r_iconst (v := 2) X dX11_text_50 (by decide +kernel) ?_
      refine r_icmp_ne_t (tgt := 61) X dX11_text_51 rfl (by decide +kernel) ?_
      refine r_aload_n X dX11_text_61 rfl ?_
      refine a_get (a := 146) X hn fg_X11_158 dX11_text_62 rfl rfl ?_
      exact r_ret_i X hr hlk dX11_text_65 (Nat.le_of_ble_eq_true rfl) (Nat.le_of_ble_eq_true rfl) ⟨_, rfl, by unfold sp_text; (repeat' split) <;> first | rfl | (exfalso; have e0 : (-1 : Int32).toInt = -1 := (by decide); have e1 : (0 : Int32).toInt = 0 := (by decide); have e2 : (3 : Int32).toInt = 3 := (by decide); simp only [inR, Int32.lt_iff_toInt_lt, Int32.le_iff_toInt_le, ← Int32.toInt_inj, true_or, or_true, not_true_eq_false, and_true, true_and, false_or, or_false, false_and, and_false, not_false_eq_true] at * <;> omega), kp_of2 (L1 := [eO 8 [vR (n + 147), vI 0, vR (n + 148)], eI 0 (fun _ => 0), eI 0 (fun _ => 0)]) hn rfl rfl⟩
