set_option maxRecDepth 100000 in
set_option maxHeartbeats 4000000 in
theorem ku1_X12_isIn (l : Launch) (G : PG) (h0 : PH) (n : Nat) (hn : h0.length = n) (wf : Nat → Int32) (T : PH) (z0 : Int32) : PMet l G yX12_isIn cX12_isIn 4 (some .boolean) 0 0 0 [vR (n + 0), vI z0, vI 0, vI 3] (h0 ++ (frM n wf ++ T)) (qI (fun x h' => ((z0 < 0) ∧ x = 0 ∧ h' = h0 ++ (frM n wf ++ T)) ∨ ((¬ z0 < 0) ∧ (3 < z0) ∧ x = 0 ∧ h' = h0 ++ (frM n wf ++ T)) ∨ ((¬ z0 < 0) ∧ (¬ 3 < z0) ∧ x = 1 ∧ h' = h0 ++ (frM n wf ++ T)))) := by
  refine PMet.intro (by decide) (Nat.le_of_ble_eq_true rfl) ?_
  intro p e s m args below meth c X hr hlk hnm
  refine r_iload_n X dX12_isIn_0 rfl ?_
  refine r_iload_n X dX12_isIn_1 rfl ?_
  refine r_icmp_lt (tgt := 14) X dX12_isIn_2 rfl (fun q1 => ?_) (fun q1 => ?_)
  · refine r_iconst (v := 0) X dX12_isIn_14 (by decide +kernel) ?_
    exact r_ret_z X hr hlk (Or.inl rfl) dX12_isIn_15 (Nat.le_of_ble_eq_true rfl) (Nat.le_of_ble_eq_true rfl) ⟨_, rfl, Or.inl ⟨q1, rfl, rfl⟩⟩
  · refine r_iload_n X dX12_isIn_5 rfl ?_
    refine r_iload_n X dX12_isIn_6 rfl ?_
    refine r_icmp_gt (tgt := 14) X dX12_isIn_7 rfl (fun q2 => ?_) (fun q2 => ?_)
    · refine r_iconst (v := 0) X dX12_isIn_14 (by decide +kernel) ?_
      exact r_ret_z X hr hlk (Or.inl rfl) dX12_isIn_15 (Nat.le_of_ble_eq_true rfl) (Nat.le_of_ble_eq_true rfl) ⟨_, rfl, Or.inr (Or.inl ⟨q1, q2, rfl, rfl⟩)⟩
    · refine r_iconst (v := 1) X dX12_isIn_10 (by decide +kernel) ?_
      refine r_goto (tgt := 15) X dX12_isIn_11 rfl ?_
      exact r_ret_z X hr hlk (Or.inr rfl) dX12_isIn_15 (Nat.le_of_ble_eq_true rfl) (Nat.le_of_ble_eq_true rfl) ⟨_, rfl, Or.inr (Or.inr (⟨q1, q2, rfl, rfl⟩))⟩
set_option maxRecDepth 100000 in
set_option maxHeartbeats 4000000 in
theorem ku2_X12_raw (l : Launch) (G : PG) (h0 : PH) (n : Nat) (hn : h0.length = n) (wf : Nat → Int32) (T : PH) : PMet l G yX12_raw cX12_raw 2 (some .int) 0 0 0 [vR (n + 0), vI 0] (h0 ++ (frM n wf ++ T)) (qI (fun x h' => x = (-1) ∧ h' = h0 ++ (frM n wf ++ T))) := by
  refine PMet.intro (by decide) (Nat.le_of_ble_eq_true rfl) ?_
  intro p e s m args below meth c X hr hlk hnm
  refine r_iload_n X dX12_raw_0 rfl ?_
  refine r_aload_n X dX12_raw_1 rfl ?_
  refine a_get (a := 0) X hn fg_X12_166 dX12_raw_2 rfl rfl ?_
  refine r_icmp_ge_t (tgt := 17) X dX12_raw_5 rfl (by decide +kernel) ?_
  refine r_iconst (v := -1) X dX12_raw_17 (by decide +kernel) ?_
  exact r_ret_i X hr hlk dX12_raw_18 (Nat.le_of_ble_eq_true rfl) (Nat.le_of_ble_eq_true rfl) ⟨_, rfl, ⟨rfl, rfl⟩⟩
set_option maxRecDepth 100000 in
set_option maxHeartbeats 4000000 in
theorem ku3_X12_raw (l : Launch) (G : PG) (h0 : PH) (n : Nat) (hn : h0.length = n) (wf : Nat → Int32) (T : PH) : PMet l G yX12_raw cX12_raw 2 (some .int) 0 0 0 [vR (n + 0), vI 0] (h0 ++ ((frM n wf ++ T).set 0 (eO 12 [vI 0, vR (n + 1), vR (n + 2), vI 0, vR (n + 3), vI 0, vI 0, vR (n + 4), vR (n + 5), vR (n + 6), vR (n + 7), vR (n + 8), vI 0, vI 0, vI 0, vI 1, vI 0, vR (n + 9), vR (n + 10), vR (n + 11), vR (n + 12), vR (n + 13), vR (n + 14), vR (n + 15), vR (n + 16), vI 0, vI 0, vI 0, vR (n + 17), vI 0, vI 0, vI 0, vI 0, vI ((-1)), vI 0, vR (n + 18), vI 0, vR (n + 19), vI 0, vR (n + 20), vR (n + 21), vR (n + 22), vR (n + 23), vI 0, vR (n + 24), vR (n + 25), vI 0, vR (n + 26), vR (n + 27), vR (n + 28), vI 0, vR (n + 29), vI 0, vR (n + 30), vI 0, vR (n + 31), vR (n + 32), vI 0, vR (n + 33), vR (n + 34), vR (n + 35), vI 0, vR (n + 36), vI 0, vR (n + 37), vI 0, vR (n + 38), vR (n + 39), vR (n + 40), vR (n + 41), vI 0, vI 0, vI 0, vI 0, vI 0, vR (n + 42)]))) (qI (fun x h' => x = (-1) ∧ h' = h0 ++ ((frM n wf ++ T).set 0 (eO 12 [vI 0, vR (n + 1), vR (n + 2), vI 0, vR (n + 3), vI 0, vI 0, vR (n + 4), vR (n + 5), vR (n + 6), vR (n + 7), vR (n + 8), vI 0, vI 0, vI 0, vI 1, vI 0, vR (n + 9), vR (n + 10), vR (n + 11), vR (n + 12), vR (n + 13), vR (n + 14), vR (n + 15), vR (n + 16), vI 0, vI 0, vI 0, vR (n + 17), vI 0, vI 0, vI 0, vI 0, vI ((-1)), vI 0, vR (n + 18), vI 0, vR (n + 19), vI 0, vR (n + 20), vR (n + 21), vR (n + 22), vR (n + 23), vI 0, vR (n + 24), vR (n + 25), vI 0, vR (n + 26), vR (n + 27), vR (n + 28), vI 0, vR (n + 29), vI 0, vR (n + 30), vI 0, vR (n + 31), vR (n + 32), vI 0, vR (n + 33), vR (n + 34), vR (n + 35), vI 0, vR (n + 36), vI 0, vR (n + 37), vI 0, vR (n + 38), vR (n + 39), vR (n + 40), vR (n + 41), vI 0, vI 0, vI 0, vI 0, vI 0, vR (n + 42)])))) := by
  refine PMet.intro (by decide) (Nat.le_of_ble_eq_true rfl) ?_
  intro p e s m args below meth c X hr hlk hnm
  refine r_iload_n X dX12_raw_0 rfl ?_
  refine r_aload_n X dX12_raw_1 rfl ?_
  refine a_get (a := 0) X hn fg_X12_166 dX12_raw_2 rfl rfl ?_
  refine r_icmp_ge_t (tgt := 17) X dX12_raw_5 rfl (by decide +kernel) ?_
  refine r_iconst (v := -1) X dX12_raw_17 (by decide +kernel) ?_
  exact r_ret_i X hr hlk dX12_raw_18 (Nat.le_of_ble_eq_true rfl) (Nat.le_of_ble_eq_true rfl) ⟨_, rfl, ⟨rfl, rfl⟩⟩
set_option maxRecDepth 100000 in
set_option maxHeartbeats 4000000 in
theorem ku4_X12_reads (l : Launch) (G : PG) (h0 : PH) (n : Nat) (hn : h0.length = n) (wf : Nat → Int32) (T : PH) : PMet l G yX12_reads cX12_reads 2 none 1 0 0 [vR (n + 0)] (h0 ++ (frM n wf ++ T)) (qV (fun h' => h' = h0 ++ (frM n wf ++ T))) := by
  refine PMet.intro (by decide) (Nat.le_of_ble_eq_true rfl) ?_
  intro p e s m args below meth c X hr hlk hnm
  refine r_aload_n X dX12_reads_0 rfl ?_
  refine r_aload_n X dX12_reads_1 rfl ?_
  refine a_get (a := 0) X hn fg_X12_173 dX12_reads_2 rfl rfl ?_
  refine r_V1i X kv_X12_176 dX12_reads_5 (apG (k := 0) hn rfl) rfl (ku2_X12_raw l G _ _ hn _ _) rfl (fun x h' hΨ => ?_)
  obtain ⟨rfl, rfl⟩ := hΨ
  refine r_bipush (v := 32) X dX12_reads_8 (by decide +kernel) ?_
  refine r_icmp_eq_f (tgt := 26) X dX12_reads_10 rfl (by decide +kernel) ?_
  refine r_aload_n X dX12_reads_13 rfl ?_
  refine r_aload_n X dX12_reads_14 rfl ?_
  refine a_get (a := 0) X hn fg_X12_173 dX12_reads_15 rfl rfl ?_
  refine r_V1i X kv_X12_176 dX12_reads_18 (apG (k := 0) hn rfl) rfl (ku2_X12_raw l G _ _ hn _ _) rfl (fun x h' hΨ => ?_)
  obtain ⟨rfl, rfl⟩ := hΨ
  refine r_bipush (v := 10) X dX12_reads_21 (by decide +kernel) ?_
  refine r_icmp_ne_t (tgt := 39) X dX12_reads_23 rfl (by decide +kernel) ?_
  refine r_aload_n X dX12_reads_39 rfl ?_
  refine r_aload_n X dX12_reads_40 rfl ?_
  refine a_get (a := 0) X hn fg_X12_173 dX12_reads_41 rfl rfl ?_
  refine a_put (a := 0) X hn fp_X12_180 dX12_reads_44 rfl rfl rfl rfl ?_
  refine r_eq (h' := h0 ++ (frM n wf ++ T)) rfl rfl rfl ?_
  refine r_aload_n X dX12_reads_47 rfl ?_
  refine r_iconst (v := 1) X dX12_reads_48 (by decide +kernel) ?_
  refine a_put (a := 0) X hn fp_X12_183 dX12_reads_49 rfl rfl rfl rfl ?_
  refine r_aload_n X dX12_reads_52 rfl ?_
  refine r_aload_n X dX12_reads_53 rfl ?_
  refine a_get (a := 0) X hn fg_X12_173 dX12_reads_54 rfl rfl ?_
  refine r_V1i X kv_X12_176 dX12_reads_57 (apG (k := 0) hn rfl) rfl (ku3_X12_raw l G _ _ hn _ _) rfl (fun x h' hΨ => ?_)
  obtain ⟨rfl, rfl⟩ := hΨ
  refine r_istore_n X dX12_reads_60 (by decide) ?_
  refine r_iload_n X dX12_reads_61 rfl ?_
  refine r_iconst (v := -1) X dX12_reads_62 (by decide +kernel) ?_
  refine r_icmp_ne_f (tgt := 72) X dX12_reads_63 rfl (by decide +kernel) ?_
  refine r_aload_n X dX12_reads_66 rfl ?_
  refine r_iconst (v := 0) X dX12_reads_67 (by decide +kernel) ?_
  refine a_put (a := 0) X hn fp_X12_183 dX12_reads_68 rfl rfl rfl rfl ?_
  refine r_eq (h' := h0 ++ (frM n wf ++ T)) rfl rfl rfl ?_
  exact r_ret_v X hr hlk dX12_reads_71 (Nat.le_of_ble_eq_true rfl) (Nat.le_of_ble_eq_true rfl) ⟨rfl, rfl⟩
set_option maxRecDepth 100000 in
set_option maxHeartbeats 4000000 in
theorem ku5_X12_isLineWord (l : Launch) (G : PG) (h0 : PH) (n : Nat) (hn : h0.length = n) (wf : Nat → Int32) (T : PH) : PMet l G yX12_isLineWord cX12_isLineWord 1 (some .boolean) 0 0 0 [vR (n + 0)] (h0 ++ (frM n wf ++ T)) (qI (fun x h' => x = 0 ∧ h' = h0 ++ (frM n wf ++ T))) := by
  refine PMet.intro (by decide) (Nat.le_of_ble_eq_true rfl) ?_
  intro p e s m args below meth c X hr hlk hnm
  refine r_aload_n X dX12_isLineWord_0 rfl ?_
  refine a_get (a := 0) X hn fg_X12_183 dX12_isLineWord_1 rfl rfl ?_
  refine r_iconst (v := 2) X dX12_isLineWord_4 (by decide +kernel) ?_
  refine r_icmp_ne_t (tgt := 25) X dX12_isLineWord_5 rfl (by decide +kernel) ?_
  refine r_iconst (v := 0) X dX12_isLineWord_25 (by decide +kernel) ?_
  exact r_ret_z X hr hlk (Or.inl rfl) dX12_isLineWord_26 (Nat.le_of_ble_eq_true rfl) (Nat.le_of_ble_eq_true rfl) ⟨_, rfl, ⟨rfl, rfl⟩⟩
set_option maxRecDepth 100000 in
set_option maxHeartbeats 4000000 in
theorem ku6_X12_readLaw (l : Launch) (G : PG) (h0 : PH) (n : Nat) (hn : h0.length = n) (wf : Nat → Int32) (T : PH) : PMet l G yX12_readLaw cX12_readLaw 3 (some .int) 1 0 0 [vR (n + 0)] (h0 ++ (frM n wf ++ T)) (qI (fun x h' => x = 0 ∧ h' = h0 ++ (frM n wf ++ T))) := by
  refine PMet.intro (by decide) (Nat.le_of_ble_eq_true rfl) ?_
  intro p e s m args below meth c X hr hlk hnm
  refine r_iconst (v := 0) X dX12_readLaw_0 (by decide +kernel) ?_
  refine r_istore_n X dX12_readLaw_1 (by decide) ?_
  refine r_aload_n X dX12_readLaw_2 rfl ?_
  refine r_V0i X kv_X12_255 dX12_readLaw_3 (apG (k := 0) hn rfl) rfl (ku5_X12_isLineWord l G _ _ hn _ _) rfl (fun x h' hΨ => ?_)
  obtain ⟨rfl, rfl⟩ := hΨ
  refine r_if_eq_t (tgt := 128) X dX12_readLaw_6 rfl (by decide +kernel) ?_
  refine r_aload_n X dX12_readLaw_128 rfl ?_
  refine a_get (a := 0) X hn fg_X12_183 dX12_readLaw_129 rfl rfl ?_
  refine r_if_ne_f (tgt := 139) X dX12_readLaw_132 rfl (by decide +kernel) ?_
  refine r_iload_n X dX12_readLaw_135 rfl ?_
  refine r_goto (tgt := 144) X dX12_readLaw_136 rfl ?_
  exact r_ret_i X hr hlk dX12_readLaw_144 (Nat.le_of_ble_eq_true rfl) (Nat.le_of_ble_eq_true rfl) ⟨_, rfl, ⟨rfl, rfl⟩⟩
set_option maxRecDepth 100000 in
set_option maxHeartbeats 4000000 in
theorem ku7_X12_isWord (l : Launch) (G : PG) (h0 : PH) (n : Nat) (hn : h0.length = n) (wf : Nat → Int32) (T : PH) : PMet l G yX12_isWord cX12_isWord 2 (some .boolean) 0 0 0 [vR (n + 0), vI 17] (h0 ++ (frM n wf ++ T)) (qI (fun x h' => x = 0 ∧ h' = h0 ++ (frM n wf ++ T))) := by
  refine PMet.intro (by decide) (Nat.le_of_ble_eq_true rfl) ?_
  intro p e s m args below meth c X hr hlk hnm
  refine r_aload_n X dX12_isWord_0 rfl ?_
  refine a_get (a := 0) X hn fg_X12_183 dX12_isWord_1 rfl rfl ?_
  refine r_iconst (v := 2) X dX12_isWord_4 (by decide +kernel) ?_
  refine r_icmp_ne_t (tgt := 20) X dX12_isWord_5 rfl (by decide +kernel) ?_
  refine r_iconst (v := 0) X dX12_isWord_20 (by decide +kernel) ?_
  exact r_ret_z X hr hlk (Or.inl rfl) dX12_isWord_21 (Nat.le_of_ble_eq_true rfl) (Nat.le_of_ble_eq_true rfl) ⟨_, rfl, ⟨rfl, rfl⟩⟩
set_option maxRecDepth 100000 in
set_option maxHeartbeats 4000000 in
theorem ku8_X12_readTwins (l : Launch) (G : PG) (h0 : PH) (n : Nat) (hn : h0.length = n) (wf : Nat → Int32) (T : PH) : PMet l G yX12_readTwins cX12_readTwins 2 (some .int) 1 0 0 [vR (n + 0)] (h0 ++ (frM n wf ++ T)) (qI (fun x h' => x = 0 ∧ h' = h0 ++ (frM n wf ++ T))) := by
  refine PMet.intro (by decide) (Nat.le_of_ble_eq_true rfl) ?_
  intro p e s m args below meth c X hr hlk hnm
  refine r_iconst (v := 0) X dX12_readTwins_0 (by decide +kernel) ?_
  refine r_istore_n X dX12_readTwins_1 (by decide) ?_
  refine r_iload_n X dX12_readTwins_2 rfl ?_
  refine r_bipush (v := 20) X dX12_readTwins_3 (by decide +kernel) ?_
  refine r_icmp_ge_f (tgt := 24) X dX12_readTwins_5 rfl (by decide +kernel) ?_
  refine r_aload_n X dX12_readTwins_8 rfl ?_
  refine a_get (a := 0) X hn fg_X12_71 dX12_readTwins_9 rfl rfl ?_
  refine r_bipush (v := 20) X dX12_readTwins_12 (by decide +kernel) ?_
  refine r_iload_n X dX12_readTwins_14 rfl ?_
  refine r_iaddE (v := 20) X dX12_readTwins_15 (by decide +kernel) ?_
  refine r_iconst (v := 0) X dX12_readTwins_16 (by decide +kernel) ?_
  refine a_iastE (a := 20) (f' := fun _ => 0) X hn dX12_readTwins_17 rfl (inK (by decide +kernel)) (upd_c _ _) ?_
  refine r_eq (h' := h0 ++ (frM n wf ++ T)) rfl rfl rfl ?_
  refine r_iinc (v := 1) X dX12_readTwins_18 rfl (by decide +kernel) (by decide) ?_
  refine r_goto (tgt := 2) X dX12_readTwins_21 rfl ?_
  refine r_iload_n X dX12_readTwins_2 rfl ?_
  refine r_bipush (v := 20) X dX12_readTwins_3 (by decide +kernel) ?_
  refine r_icmp_ge_f (tgt := 24) X dX12_readTwins_5 rfl (by decide +kernel) ?_
  refine r_aload_n X dX12_readTwins_8 rfl ?_
  refine a_get (a := 0) X hn fg_X12_71 dX12_readTwins_9 rfl rfl ?_
  refine r_bipush (v := 20) X dX12_readTwins_12 (by decide +kernel) ?_
  refine r_iload_n X dX12_readTwins_14 rfl ?_
  refine r_iaddE (v := 21) X dX12_readTwins_15 (by decide +kernel) ?_
  refine r_iconst (v := 0) X dX12_readTwins_16 (by decide +kernel) ?_
  refine a_iastE (a := 20) (f' := fun _ => 0) X hn dX12_readTwins_17 rfl (inK (by decide +kernel)) (upd_c _ _) ?_
  refine r_eq (h' := h0 ++ (frM n wf ++ T)) rfl rfl rfl ?_
  refine r_iinc (v := 2) X dX12_readTwins_18 rfl (by decide +kernel) (by decide) ?_
  refine r_goto (tgt := 2) X dX12_readTwins_21 rfl ?_
  refine r_iload_n X dX12_readTwins_2 rfl ?_
  refine r_bipush (v := 20) X dX12_readTwins_3 (by decide +kernel) ?_
  refine r_icmp_ge_f (tgt := 24) X dX12_readTwins_5 rfl (by decide +kernel) ?_
  refine r_aload_n X dX12_readTwins_8 rfl ?_
  refine a_get (a := 0) X hn fg_X12_71 dX12_readTwins_9 rfl rfl ?_
  refine r_bipush (v := 20) X dX12_readTwins_12 (by decide +kernel) ?_
  refine r_iload_n X dX12_readTwins_14 rfl ?_
  refine r_iaddE (v := 22) X dX12_readTwins_15 (by decide +kernel) ?_
  refine r_iconst (v := 0) X dX12_readTwins_16 (by decide +kernel) ?_
  refine a_iastE (a := 20) (f' := fun _ => 0) X hn dX12_readTwins_17 rfl (inK (by decide +kernel)) (upd_c _ _) ?_
  refine r_eq (h' := h0 ++ (frM n wf ++ T)) rfl rfl rfl ?_
  refine r_iinc (v := 3) X dX12_readTwins_18 rfl (by decide +kernel) (by decide) ?_
  refine r_goto (tgt := 2) X dX12_readTwins_21 rfl ?_
  refine r_iload_n X dX12_readTwins_2 rfl ?_
  refine r_bipush (v := 20) X dX12_readTwins_3 (by decide +kernel) ?_
  refine r_icmp_ge_f (tgt := 24) X dX12_readTwins_5 rfl (by decide +kernel) ?_
  refine r_aload_n X dX12_readTwins_8 rfl ?_
  refine a_get (a := 0) X hn fg_X12_71 dX12_readTwins_9 rfl rfl ?_
  refine r_bipush (v := 20) X dX12_readTwins_12 (by decide +kernel) ?_
  refine r_iload_n X dX12_readTwins_14 rfl ?_
  refine r_iaddE (v := 23) X dX12_readTwins_15 (by decide +kernel) ?_
  refine r_iconst (v := 0) X dX12_readTwins_16 (by decide +kernel) ?_
  refine a_iastE (a := 20) (f' := fun _ => 0) X hn dX12_readTwins_17 rfl (inK (by decide +kernel)) (upd_c _ _) ?_
  refine r_eq (h' := h0 ++ (frM n wf ++ T)) rfl rfl rfl ?_
  refine r_iinc (v := 4) X dX12_readTwins_18 rfl (by decide +kernel) (by decide) ?_
  refine r_eq (ls' := [some (vR (n + 0)), some (vI 4)]) rfl rfl rfl ?_
  refine r_goto (tgt := 2) X dX12_readTwins_21 rfl ?_
  refine r_iload_n X dX12_readTwins_2 rfl ?_
  refine r_bipush (v := 20) X dX12_readTwins_3 (by decide +kernel) ?_
  refine r_icmp_ge_f (tgt := 24) X dX12_readTwins_5 rfl (by decide +kernel) ?_
  refine r_aload_n X dX12_readTwins_8 rfl ?_
  refine a_get (a := 0) X hn fg_X12_71 dX12_readTwins_9 rfl rfl ?_
  refine r_bipush (v := 20) X dX12_readTwins_12 (by decide +kernel) ?_
  refine r_iload_n X dX12_readTwins_14 rfl ?_
  refine r_iaddE (v := 24) X dX12_readTwins_15 (by decide +kernel) ?_
  refine r_iconst (v := 0) X dX12_readTwins_16 (by decide +kernel) ?_
  refine a_iastE (a := 20) (f' := fun _ => 0) X hn dX12_readTwins_17 rfl (inK (by decide +kernel)) (upd_c _ _) ?_
  refine r_eq (h' := h0 ++ (frM n wf ++ T)) rfl rfl rfl ?_
  refine r_iinc (v := 5) X dX12_readTwins_18 rfl (by decide +kernel) (by decide) ?_
  refine r_goto (tgt := 2) X dX12_readTwins_21 rfl ?_
  refine r_iload_n X dX12_readTwins_2 rfl ?_
  refine r_bipush (v := 20) X dX12_readTwins_3 (by decide +kernel) ?_
  refine r_icmp_ge_f (tgt := 24) X dX12_readTwins_5 rfl (by decide +kernel) ?_
  refine r_aload_n X dX12_readTwins_8 rfl ?_
  refine a_get (a := 0) X hn fg_X12_71 dX12_readTwins_9 rfl rfl ?_
  refine r_bipush (v := 20) X dX12_readTwins_12 (by decide +kernel) ?_
  refine r_iload_n X dX12_readTwins_14 rfl ?_
  refine r_iaddE (v := 25) X dX12_readTwins_15 (by decide +kernel) ?_
  refine r_iconst (v := 0) X dX12_readTwins_16 (by decide +kernel) ?_
  refine a_iastE (a := 20) (f' := fun _ => 0) X hn dX12_readTwins_17 rfl (inK (by decide +kernel)) (upd_c _ _) ?_
  refine r_eq (h' := h0 ++ (frM n wf ++ T)) rfl rfl rfl ?_
  refine r_iinc (v := 6) X dX12_readTwins_18 rfl (by decide +kernel) (by decide) ?_
  refine r_goto (tgt := 2) X dX12_readTwins_21 rfl ?_
  refine r_iload_n X dX12_readTwins_2 rfl ?_
  refine r_bipush (v := 20) X dX12_readTwins_3 (by decide +kernel) ?_
  refine r_icmp_ge_f (tgt := 24) X dX12_readTwins_5 rfl (by decide +kernel) ?_
  refine r_aload_n X dX12_readTwins_8 rfl ?_
  refine a_get (a := 0) X hn fg_X12_71 dX12_readTwins_9 rfl rfl ?_
  refine r_bipush (v := 20) X dX12_readTwins_12 (by decide +kernel) ?_
  refine r_iload_n X dX12_readTwins_14 rfl ?_
  refine r_iaddE (v := 26) X dX12_readTwins_15 (by decide +kernel) ?_
  refine r_iconst (v := 0) X dX12_readTwins_16 (by decide +kernel) ?_
  refine a_iastE (a := 20) (f' := fun _ => 0) X hn dX12_readTwins_17 rfl (inK (by decide +kernel)) (upd_c _ _) ?_
  refine r_eq (h' := h0 ++ (frM n wf ++ T)) rfl rfl rfl ?_
  refine r_iinc (v := 7) X dX12_readTwins_18 rfl (by decide +kernel) (by decide) ?_
  refine r_goto (tgt := 2) X dX12_readTwins_21 rfl ?_
  refine r_iload_n X dX12_readTwins_2 rfl ?_
  refine r_bipush (v := 20) X dX12_readTwins_3 (by decide +kernel) ?_
  refine r_icmp_ge_f (tgt := 24) X dX12_readTwins_5 rfl (by decide +kernel) ?_
  refine r_aload_n X dX12_readTwins_8 rfl ?_
  refine a_get (a := 0) X hn fg_X12_71 dX12_readTwins_9 rfl rfl ?_
  refine r_bipush (v := 20) X dX12_readTwins_12 (by decide +kernel) ?_
  refine r_iload_n X dX12_readTwins_14 rfl ?_
  refine r_iaddE (v := 27) X dX12_readTwins_15 (by decide +kernel) ?_
  refine r_iconst (v := 0) X dX12_readTwins_16 (by decide +kernel) ?_
  refine a_iastE (a := 20) (f' := fun _ => 0) X hn dX12_readTwins_17 rfl (inK (by decide +kernel)) (upd_c _ _) ?_
  refine r_eq (h' := h0 ++ (frM n wf ++ T)) rfl rfl rfl ?_
  refine r_iinc (v := 8) X dX12_readTwins_18 rfl (by decide +kernel) (by decide) ?_
  refine r_goto (tgt := 2) X dX12_readTwins_21 rfl ?_
  refine r_iload_n X dX12_readTwins_2 rfl ?_
  refine r_bipush (v := 20) X dX12_readTwins_3 (by decide +kernel) ?_
  refine r_icmp_ge_f (tgt := 24) X dX12_readTwins_5 rfl (by decide +kernel) ?_
  refine r_aload_n X dX12_readTwins_8 rfl ?_
  refine a_get (a := 0) X hn fg_X12_71 dX12_readTwins_9 rfl rfl ?_
  refine r_bipush (v := 20) X dX12_readTwins_12 (by decide +kernel) ?_
  refine r_iload_n X dX12_readTwins_14 rfl ?_
  refine r_iaddE (v := 28) X dX12_readTwins_15 (by decide +kernel) ?_
  refine r_iconst (v := 0) X dX12_readTwins_16 (by decide +kernel) ?_
  refine a_iastE (a := 20) (f' := fun _ => 0) X hn dX12_readTwins_17 rfl (inK (by decide +kernel)) (upd_c _ _) ?_
  refine r_eq (h' := h0 ++ (frM n wf ++ T)) rfl rfl rfl ?_
  refine r_iinc (v := 9) X dX12_readTwins_18 rfl (by decide +kernel) (by decide) ?_
  refine r_eq (ls' := [some (vR (n + 0)), some (vI 9)]) rfl rfl rfl ?_
  refine r_goto (tgt := 2) X dX12_readTwins_21 rfl ?_
  refine r_iload_n X dX12_readTwins_2 rfl ?_
  refine r_bipush (v := 20) X dX12_readTwins_3 (by decide +kernel) ?_
  refine r_icmp_ge_f (tgt := 24) X dX12_readTwins_5 rfl (by decide +kernel) ?_
  refine r_aload_n X dX12_readTwins_8 rfl ?_
  refine a_get (a := 0) X hn fg_X12_71 dX12_readTwins_9 rfl rfl ?_
  refine r_bipush (v := 20) X dX12_readTwins_12 (by decide +kernel) ?_
  refine r_iload_n X dX12_readTwins_14 rfl ?_
  refine r_iaddE (v := 29) X dX12_readTwins_15 (by decide +kernel) ?_
  refine r_iconst (v := 0) X dX12_readTwins_16 (by decide +kernel) ?_
  refine a_iastE (a := 20) (f' := fun _ => 0) X hn dX12_readTwins_17 rfl (inK (by decide +kernel)) (upd_c _ _) ?_
  refine r_eq (h' := h0 ++ (frM n wf ++ T)) rfl rfl rfl ?_
  refine r_iinc (v := 10) X dX12_readTwins_18 rfl (by decide +kernel) (by decide) ?_
  refine r_goto (tgt := 2) X dX12_readTwins_21 rfl ?_
  refine r_iload_n X dX12_readTwins_2 rfl ?_
  refine r_bipush (v := 20) X dX12_readTwins_3 (by decide +kernel) ?_
  refine r_icmp_ge_f (tgt := 24) X dX12_readTwins_5 rfl (by decide +kernel) ?_
  refine r_aload_n X dX12_readTwins_8 rfl ?_
  refine a_get (a := 0) X hn fg_X12_71 dX12_readTwins_9 rfl rfl ?_
  refine r_bipush (v := 20) X dX12_readTwins_12 (by decide +kernel) ?_
  refine r_iload_n X dX12_readTwins_14 rfl ?_
  refine r_iaddE (v := 30) X dX12_readTwins_15 (by decide +kernel) ?_
  refine r_iconst (v := 0) X dX12_readTwins_16 (by decide +kernel) ?_
  refine a_iastE (a := 20) (f' := fun _ => 0) X hn dX12_readTwins_17 rfl (inK (by decide +kernel)) (upd_c _ _) ?_
  refine r_eq (h' := h0 ++ (frM n wf ++ T)) rfl rfl rfl ?_
  refine r_iinc (v := 11) X dX12_readTwins_18 rfl (by decide +kernel) (by decide) ?_
  refine r_goto (tgt := 2) X dX12_readTwins_21 rfl ?_
  refine r_iload_n X dX12_readTwins_2 rfl ?_
  refine r_bipush (v := 20) X dX12_readTwins_3 (by decide +kernel) ?_
  refine r_icmp_ge_f (tgt := 24) X dX12_readTwins_5 rfl (by decide +kernel) ?_
  refine r_aload_n X dX12_readTwins_8 rfl ?_
  refine a_get (a := 0) X hn fg_X12_71 dX12_readTwins_9 rfl rfl ?_
  refine r_bipush (v := 20) X dX12_readTwins_12 (by decide +kernel) ?_
  refine r_iload_n X dX12_readTwins_14 rfl ?_
  refine r_iaddE (v := 31) X dX12_readTwins_15 (by decide +kernel) ?_
  refine r_iconst (v := 0) X dX12_readTwins_16 (by decide +kernel) ?_
  refine a_iastE (a := 20) (f' := fun _ => 0) X hn dX12_readTwins_17 rfl (inK (by decide +kernel)) (upd_c _ _) ?_
  refine r_eq (h' := h0 ++ (frM n wf ++ T)) rfl rfl rfl ?_
  refine r_iinc (v := 12) X dX12_readTwins_18 rfl (by decide +kernel) (by decide) ?_
  refine r_goto (tgt := 2) X dX12_readTwins_21 rfl ?_
  refine r_iload_n X dX12_readTwins_2 rfl ?_
  refine r_bipush (v := 20) X dX12_readTwins_3 (by decide +kernel) ?_
  refine r_icmp_ge_f (tgt := 24) X dX12_readTwins_5 rfl (by decide +kernel) ?_
  refine r_aload_n X dX12_readTwins_8 rfl ?_
  refine a_get (a := 0) X hn fg_X12_71 dX12_readTwins_9 rfl rfl ?_
  refine r_bipush (v := 20) X dX12_readTwins_12 (by decide +kernel) ?_
  refine r_iload_n X dX12_readTwins_14 rfl ?_
  refine r_iaddE (v := 32) X dX12_readTwins_15 (by decide +kernel) ?_
  refine r_iconst (v := 0) X dX12_readTwins_16 (by decide +kernel) ?_
  refine a_iastE (a := 20) (f' := fun _ => 0) X hn dX12_readTwins_17 rfl (inK (by decide +kernel)) (upd_c _ _) ?_
  refine r_eq (h' := h0 ++ (frM n wf ++ T)) rfl rfl rfl ?_
  refine r_iinc (v := 13) X dX12_readTwins_18 rfl (by decide +kernel) (by decide) ?_
  refine r_goto (tgt := 2) X dX12_readTwins_21 rfl ?_
  refine r_iload_n X dX12_readTwins_2 rfl ?_
  refine r_bipush (v := 20) X dX12_readTwins_3 (by decide +kernel) ?_
  refine r_icmp_ge_f (tgt := 24) X dX12_readTwins_5 rfl (by decide +kernel) ?_
  refine r_aload_n X dX12_readTwins_8 rfl ?_
  refine a_get (a := 0) X hn fg_X12_71 dX12_readTwins_9 rfl rfl ?_
  refine r_bipush (v := 20) X dX12_readTwins_12 (by decide +kernel) ?_
  refine r_iload_n X dX12_readTwins_14 rfl ?_
  refine r_iaddE (v := 33) X dX12_readTwins_15 (by decide +kernel) ?_
  refine r_iconst (v := 0) X dX12_readTwins_16 (by decide +kernel) ?_
  refine a_iastE (a := 20) (f' := fun _ => 0) X hn dX12_readTwins_17 rfl (inK (by decide +kernel)) (upd_c _ _) ?_
  refine r_eq (h' := h0 ++ (frM n wf ++ T)) rfl rfl rfl ?_
  refine r_iinc (v := 14) X dX12_readTwins_18 rfl (by decide +kernel) (by decide) ?_
  refine r_eq (ls' := [some (vR (n + 0)), some (vI 14)]) rfl rfl rfl ?_
  refine r_goto (tgt := 2) X dX12_readTwins_21 rfl ?_
  refine r_iload_n X dX12_readTwins_2 rfl ?_
  refine r_bipush (v := 20) X dX12_readTwins_3 (by decide +kernel) ?_
  refine r_icmp_ge_f (tgt := 24) X dX12_readTwins_5 rfl (by decide +kernel) ?_
  refine r_aload_n X dX12_readTwins_8 rfl ?_
  refine a_get (a := 0) X hn fg_X12_71 dX12_readTwins_9 rfl rfl ?_
  refine r_bipush (v := 20) X dX12_readTwins_12 (by decide +kernel) ?_
  refine r_iload_n X dX12_readTwins_14 rfl ?_
  refine r_iaddE (v := 34) X dX12_readTwins_15 (by decide +kernel) ?_
  refine r_iconst (v := 0) X dX12_readTwins_16 (by decide +kernel) ?_
  refine a_iastE (a := 20) (f' := fun _ => 0) X hn dX12_readTwins_17 rfl (inK (by decide +kernel)) (upd_c _ _) ?_
  refine r_eq (h' := h0 ++ (frM n wf ++ T)) rfl rfl rfl ?_
  refine r_iinc (v := 15) X dX12_readTwins_18 rfl (by decide +kernel) (by decide) ?_
  refine r_goto (tgt := 2) X dX12_readTwins_21 rfl ?_
  refine r_iload_n X dX12_readTwins_2 rfl ?_
  refine r_bipush (v := 20) X dX12_readTwins_3 (by decide +kernel) ?_
  refine r_icmp_ge_f (tgt := 24) X dX12_readTwins_5 rfl (by decide +kernel) ?_
  refine r_aload_n X dX12_readTwins_8 rfl ?_
  refine a_get (a := 0) X hn fg_X12_71 dX12_readTwins_9 rfl rfl ?_
  refine r_bipush (v := 20) X dX12_readTwins_12 (by decide +kernel) ?_
  refine r_iload_n X dX12_readTwins_14 rfl ?_
  refine r_iaddE (v := 35) X dX12_readTwins_15 (by decide +kernel) ?_
  refine r_iconst (v := 0) X dX12_readTwins_16 (by decide +kernel) ?_
  refine a_iastE (a := 20) (f' := fun _ => 0) X hn dX12_readTwins_17 rfl (inK (by decide +kernel)) (upd_c _ _) ?_
  refine r_eq (h' := h0 ++ (frM n wf ++ T)) rfl rfl rfl ?_
  refine r_iinc (v := 16) X dX12_readTwins_18 rfl (by decide +kernel) (by decide) ?_
  refine r_goto (tgt := 2) X dX12_readTwins_21 rfl ?_
  refine r_iload_n X dX12_readTwins_2 rfl ?_
  refine r_bipush (v := 20) X dX12_readTwins_3 (by decide +kernel) ?_
  refine r_icmp_ge_f (tgt := 24) X dX12_readTwins_5 rfl (by decide +kernel) ?_
  refine r_aload_n X dX12_readTwins_8 rfl ?_
  refine a_get (a := 0) X hn fg_X12_71 dX12_readTwins_9 rfl rfl ?_
  refine r_bipush (v := 20) X dX12_readTwins_12 (by decide +kernel) ?_
  refine r_iload_n X dX12_readTwins_14 rfl ?_
  refine r_iaddE (v := 36) X dX12_readTwins_15 (by decide +kernel) ?_
  refine r_iconst (v := 0) X dX12_readTwins_16 (by decide +kernel) ?_
  refine a_iastE (a := 20) (f' := fun _ => 0) X hn dX12_readTwins_17 rfl (inK (by decide +kernel)) (upd_c _ _) ?_
  refine r_eq (h' := h0 ++ (frM n wf ++ T)) rfl rfl rfl ?_
  refine r_iinc (v := 17) X dX12_readTwins_18 rfl (by decide +kernel) (by decide) ?_
  refine r_goto (tgt := 2) X dX12_readTwins_21 rfl ?_
  refine r_iload_n X dX12_readTwins_2 rfl ?_
  refine r_bipush (v := 20) X dX12_readTwins_3 (by decide +kernel) ?_
  refine r_icmp_ge_f (tgt := 24) X dX12_readTwins_5 rfl (by decide +kernel) ?_
  refine r_aload_n X dX12_readTwins_8 rfl ?_
  refine a_get (a := 0) X hn fg_X12_71 dX12_readTwins_9 rfl rfl ?_
  refine r_bipush (v := 20) X dX12_readTwins_12 (by decide +kernel) ?_
  refine r_iload_n X dX12_readTwins_14 rfl ?_
  refine r_iaddE (v := 37) X dX12_readTwins_15 (by decide +kernel) ?_
  refine r_iconst (v := 0) X dX12_readTwins_16 (by decide +kernel) ?_
  refine a_iastE (a := 20) (f' := fun _ => 0) X hn dX12_readTwins_17 rfl (inK (by decide +kernel)) (upd_c _ _) ?_
  refine r_eq (h' := h0 ++ (frM n wf ++ T)) rfl rfl rfl ?_
  refine r_iinc (v := 18) X dX12_readTwins_18 rfl (by decide +kernel) (by decide) ?_
  refine r_goto (tgt := 2) X dX12_readTwins_21 rfl ?_
  refine r_iload_n X dX12_readTwins_2 rfl ?_
  refine r_bipush (v := 20) X dX12_readTwins_3 (by decide +kernel) ?_
  refine r_icmp_ge_f (tgt := 24) X dX12_readTwins_5 rfl (by decide +kernel) ?_
  refine r_aload_n X dX12_readTwins_8 rfl ?_
  refine a_get (a := 0) X hn fg_X12_71 dX12_readTwins_9 rfl rfl ?_
  refine r_bipush (v := 20) X dX12_readTwins_12 (by decide +kernel) ?_
  refine r_iload_n X dX12_readTwins_14 rfl ?_
  refine r_iaddE (v := 38) X dX12_readTwins_15 (by decide +kernel) ?_
  refine r_iconst (v := 0) X dX12_readTwins_16 (by decide +kernel) ?_
  refine a_iastE (a := 20) (f' := fun _ => 0) X hn dX12_readTwins_17 rfl (inK (by decide +kernel)) (upd_c _ _) ?_
  refine r_eq (h' := h0 ++ (frM n wf ++ T)) rfl rfl rfl ?_
  refine r_iinc (v := 19) X dX12_readTwins_18 rfl (by decide +kernel) (by decide) ?_
  refine r_eq (ls' := [some (vR (n + 0)), some (vI 19)]) rfl rfl rfl ?_
  refine r_goto (tgt := 2) X dX12_readTwins_21 rfl ?_
  refine r_iload_n X dX12_readTwins_2 rfl ?_
  refine r_bipush (v := 20) X dX12_readTwins_3 (by decide +kernel) ?_
  refine r_icmp_ge_f (tgt := 24) X dX12_readTwins_5 rfl (by decide +kernel) ?_
  refine r_aload_n X dX12_readTwins_8 rfl ?_
  refine a_get (a := 0) X hn fg_X12_71 dX12_readTwins_9 rfl rfl ?_
  refine r_bipush (v := 20) X dX12_readTwins_12 (by decide +kernel) ?_
  refine r_iload_n X dX12_readTwins_14 rfl ?_
  refine r_iaddE (v := 39) X dX12_readTwins_15 (by decide +kernel) ?_
  refine r_iconst (v := 0) X dX12_readTwins_16 (by decide +kernel) ?_
  refine a_iastE (a := 20) (f' := fun _ => 0) X hn dX12_readTwins_17 rfl (inK (by decide +kernel)) (upd_c _ _) ?_
  refine r_eq (h' := h0 ++ (frM n wf ++ T)) rfl rfl rfl ?_
  refine r_iinc (v := 20) X dX12_readTwins_18 rfl (by decide +kernel) (by decide) ?_
  refine r_goto (tgt := 2) X dX12_readTwins_21 rfl ?_
  refine r_iload_n X dX12_readTwins_2 rfl ?_
  refine r_bipush (v := 20) X dX12_readTwins_3 (by decide +kernel) ?_
  refine r_icmp_ge_t (tgt := 24) X dX12_readTwins_5 rfl (by decide +kernel) ?_
  refine r_iconst (v := 0) X dX12_readTwins_24 (by decide +kernel) ?_
  refine r_istore_n X dX12_readTwins_25 (by decide) ?_
  refine r_aload_n X dX12_readTwins_26 rfl ?_
  refine r_bipush (v := 17) X dX12_readTwins_27 (by decide +kernel) ?_
  refine r_V1i X kv_X12_243 dX12_readTwins_29 (apG (k := 0) hn rfl) rfl (ku7_X12_isWord l G _ _ hn _ _) rfl (fun x h' hΨ => ?_)
  obtain ⟨rfl, rfl⟩ := hΨ
  refine r_if_eq_t (tgt := 64) X dX12_readTwins_32 rfl (by decide +kernel) ?_
  refine r_aload_n X dX12_readTwins_64 rfl ?_
  refine a_get (a := 0) X hn fg_X12_183 dX12_readTwins_65 rfl rfl ?_
  refine r_if_ne_f (tgt := 75) X dX12_readTwins_68 rfl (by decide +kernel) ?_
  refine r_iload_n X dX12_readTwins_71 rfl ?_
  refine r_goto (tgt := 80) X dX12_readTwins_72 rfl ?_
  exact r_ret_i X hr hlk dX12_readTwins_80 (Nat.le_of_ble_eq_true rfl) (Nat.le_of_ble_eq_true rfl) ⟨_, rfl, ⟨rfl, rfl⟩⟩
set_option maxRecDepth 100000 in
set_option maxHeartbeats 4000000 in
theorem ku9_X12_isWord (l : Launch) (G : PG) (h0 : PH) (n : Nat) (hn : h0.length = n) (wf : Nat → Int32) (T : PH) : PMet l G yX12_isWord cX12_isWord 2 (some .boolean) 0 0 0 [vR (n + 0), vI 20] (h0 ++ (frM n wf ++ T)) (qI (fun x h' => x = 0 ∧ h' = h0 ++ (frM n wf ++ T))) := by
  refine PMet.intro (by decide) (Nat.le_of_ble_eq_true rfl) ?_
  intro p e s m args below meth c X hr hlk hnm
  refine r_aload_n X dX12_isWord_0 rfl ?_
  refine a_get (a := 0) X hn fg_X12_183 dX12_isWord_1 rfl rfl ?_
  refine r_iconst (v := 2) X dX12_isWord_4 (by decide +kernel) ?_
  refine r_icmp_ne_t (tgt := 20) X dX12_isWord_5 rfl (by decide +kernel) ?_
  refine r_iconst (v := 0) X dX12_isWord_20 (by decide +kernel) ?_
  exact r_ret_z X hr hlk (Or.inl rfl) dX12_isWord_21 (Nat.le_of_ble_eq_true rfl) (Nat.le_of_ble_eq_true rfl) ⟨_, rfl, ⟨rfl, rfl⟩⟩
set_option maxRecDepth 100000 in
set_option maxHeartbeats 4000000 in
theorem ku10_X12_readSky (l : Launch) (G : PG) (h0 : PH) (n : Nat) (hn : h0.length = n) (wf : Nat → Int32) (T : PH) : PMet l G yX12_readSky cX12_readSky 2 (some .int) 1 0 0 [vR (n + 0)] (h0 ++ (frM n wf ++ T)) (qI (fun x h' => x = 0 ∧ h' = h0 ++ (frM n wf ++ T))) := by
  refine PMet.intro (by decide) (Nat.le_of_ble_eq_true rfl) ?_
  intro p e s m args below meth c X hr hlk hnm
  refine r_iconst (v := 0) X dX12_readSky_0 (by decide +kernel) ?_
  refine r_istore_n X dX12_readSky_1 (by decide) ?_
  refine r_aload_n X dX12_readSky_2 rfl ?_
  refine r_bipush (v := 20) X dX12_readSky_3 (by decide +kernel) ?_
  refine r_V1i X kv_X12_243 dX12_readSky_5 (apG (k := 0) hn rfl) rfl (ku9_X12_isWord l G _ _ hn _ _) rfl (fun x h' hΨ => ?_)
  obtain ⟨rfl, rfl⟩ := hΨ
  refine r_if_eq_t (tgt := 46) X dX12_readSky_8 rfl (by decide +kernel) ?_
  refine r_aload_n X dX12_readSky_46 rfl ?_
  refine a_get (a := 0) X hn fg_X12_183 dX12_readSky_47 rfl rfl ?_
  refine r_if_ne_f (tgt := 57) X dX12_readSky_50 rfl (by decide +kernel) ?_
  refine r_iload_n X dX12_readSky_53 rfl ?_
  refine r_goto (tgt := 62) X dX12_readSky_54 rfl ?_
  exact r_ret_i X hr hlk dX12_readSky_62 (Nat.le_of_ble_eq_true rfl) (Nat.le_of_ble_eq_true rfl) ⟨_, rfl, ⟨rfl, rfl⟩⟩
set_option maxRecDepth 100000 in
set_option maxHeartbeats 4000000 in
theorem ku11_X12_readWays (l : Launch) (G : PG) (h0 : PH) (n : Nat) (hn : h0.length = n) (wf : Nat → Int32) (T : PH) : PMet l G yX12_readWays cX12_readWays 2 (some .int) 1 0 0 [vR (n + 0)] (h0 ++ (frM n wf ++ T)) (qI (fun x h' => x = 0 ∧ h' = h0 ++ (frM n wf ++ T))) := by
  refine PMet.intro (by decide) (Nat.le_of_ble_eq_true rfl) ?_
  intro p e s m args below meth c X hr hlk hnm
  refine r_iconst (v := 0) X dX12_readWays_0 (by decide +kernel) ?_
  refine r_istore_n X dX12_readWays_1 (by decide) ?_
  refine r_aload_n X dX12_readWays_2 rfl ?_
  refine r_bipush (v := 17) X dX12_readWays_3 (by decide +kernel) ?_
  refine r_V1i X kv_X12_243 dX12_readWays_5 (apG (k := 0) hn rfl) rfl (ku7_X12_isWord l G _ _ hn _ _) rfl (fun x h' hΨ => ?_)
  obtain ⟨rfl, rfl⟩ := hΨ
  refine r_if_eq_t (tgt := 46) X dX12_readWays_8 rfl (by decide +kernel) ?_
  refine r_aload_n X dX12_readWays_46 rfl ?_
  refine a_get (a := 0) X hn fg_X12_183 dX12_readWays_47 rfl rfl ?_
  refine r_if_ne_f (tgt := 57) X dX12_readWays_50 rfl (by decide +kernel) ?_
  refine r_iload_n X dX12_readWays_53 rfl ?_
  refine r_goto (tgt := 62) X dX12_readWays_54 rfl ?_
  exact r_ret_i X hr hlk dX12_readWays_62 (Nat.le_of_ble_eq_true rfl) (Nat.le_of_ble_eq_true rfl) ⟨_, rfl, ⟨rfl, rfl⟩⟩
set_option maxRecDepth 100000 in
set_option maxHeartbeats 4000000 in
theorem ku12_X12_readsText (l : Launch) (G : PG) (h0 : PH) (n : Nat) (hn : h0.length = n) (wf : Nat → Int32) (T : PH) (z0 : Int32) : PMet l G yX12_readsText cX12_readsText 2 (some .int) 2 0 0 [vR (n + 0), vI z0] (h0 ++ (frM n wf ++ T)) (qI (fun x h' => ((¬ z0 = 1) ∧ (¬ z0 = 2) ∧ (¬ z0 = 3) ∧ x = 0 ∧ h' = h0 ++ (frM n wf ++ T)) ∨ ((¬ z0 = 1) ∧ (¬ z0 = 2) ∧ (z0 = 3) ∧ x = 0 ∧ h' = h0 ++ (frM n wf ++ T)) ∨ ((¬ z0 = 1) ∧ (z0 = 2) ∧ x = 0 ∧ h' = h0 ++ (frM n wf ++ T)) ∨ ((z0 = 1) ∧ x = 0 ∧ h' = h0 ++ (frM n wf ++ T)))) := by
  refine PMet.intro (by decide) (Nat.le_of_ble_eq_true rfl) ?_
  intro p e s m args below meth c X hr hlk hnm
  refine r_aload_n X dX12_readsText_0 rfl ?_
  refine r_iconst (v := 0) X dX12_readsText_1 (by decide +kernel) ?_
  refine a_put (a := 0) X hn fp_X12_262 dX12_readsText_2 rfl rfl rfl rfl ?_
  refine r_eq (h' := h0 ++ (frM n wf ++ T)) rfl rfl rfl ?_
  refine r_aload_n X dX12_readsText_5 rfl ?_
  refine r_V0v X kv_X12_221 dX12_readsText_6 (apG (k := 0) hn rfl) rfl (ku4_X12_reads l G _ _ hn _ _) rfl (fun h' hΨ => ?_)
  obtain rfl := hΨ
  refine r_iload_n X dX12_readsText_9 rfl ?_
  refine r_iconst (v := 1) X dX12_readsText_10 (by decide +kernel) ?_
  refine r_icmp_ne (tgt := 19) X dX12_readsText_11 rfl (fun q1 => ?_) (fun q1 => ?_)
  · refine r_iload_n X dX12_readsText_19 rfl ?_
    refine r_iconst (v := 2) X dX12_readsText_20 (by decide +kernel) ?_
    refine r_icmp_ne (tgt := 29) X dX12_readsText_21 rfl (fun q2 => ?_) (fun q2 => ?_)
    · refine r_iload_n X dX12_readsText_29 rfl ?_
      refine r_iconst (v := 3) X dX12_readsText_30 (by decide +kernel) ?_
      refine r_icmp_ne (tgt := 41) X dX12_readsText_31 rfl (fun q3 => ?_) (fun q3 => ?_)
      · refine r_aload_n X dX12_readsText_41 rfl ?_
        refine r_V0i X kv_X12_302 dX12_readsText_42 (apG (k := 0) hn rfl) rfl (ku6_X12_readLaw l G _ _ hn _ _) rfl (fun x h' hΨ => ?_)
        obtain ⟨rfl, rfl⟩ := hΨ
        exact r_ret_i X hr hlk dX12_readsText_45 (Nat.le_of_ble_eq_true rfl) (Nat.le_of_ble_eq_true rfl) ⟨_, rfl, Or.inl ⟨q1, q2, q3, rfl, rfl⟩⟩
      · refine r_aload_n X dX12_readsText_34 rfl ?_
        refine r_V0i X kv_X12_299 dX12_readsText_35 (apG (k := 0) hn rfl) rfl (ku8_X12_readTwins l G _ _ hn _ _) rfl (fun x h' hΨ => ?_)
        obtain ⟨rfl, rfl⟩ := hΨ
        refine r_goto (tgt := 45) X dX12_readsText_38 rfl ?_
        exact r_ret_i X hr hlk dX12_readsText_45 (Nat.le_of_ble_eq_true rfl) (Nat.le_of_ble_eq_true rfl) ⟨_, rfl, Or.inr (Or.inl ⟨q1, q2, q3, rfl, rfl⟩)⟩
    · refine r_aload_n X dX12_readsText_24 rfl ?_
      refine r_V0i X kv_X12_296 dX12_readsText_25 (apG (k := 0) hn rfl) rfl (ku10_X12_readSky l G _ _ hn _ _) rfl (fun x h' hΨ => ?_)
      obtain ⟨rfl, rfl⟩ := hΨ
      exact r_ret_i X hr hlk dX12_readsText_28 (Nat.le_of_ble_eq_true rfl) (Nat.le_of_ble_eq_true rfl) ⟨_, rfl, Or.inr (Or.inr (Or.inl ⟨q1, q2, rfl, rfl⟩))⟩
  · refine r_aload_n X dX12_readsText_14 rfl ?_
    refine r_V0i X kv_X12_293 dX12_readsText_15 (apG (k := 0) hn rfl) rfl (ku11_X12_readWays l G _ _ hn _ _) rfl (fun x h' hΨ => ?_)
    obtain ⟨rfl, rfl⟩ := hΨ
    exact r_ret_i X hr hlk dX12_readsText_18 (Nat.le_of_ble_eq_true rfl) (Nat.le_of_ble_eq_true rfl) ⟨_, rfl, Or.inr (Or.inr (Or.inr (⟨q1, rfl, rfl⟩)))⟩
set_option maxRecDepth 100000 in
set_option maxHeartbeats 4000000 in
theorem ku13_X12_takesLaw (l : Launch) (G : PG) (h0 : PH) (n : Nat) (hn : h0.length = n) (wf : Nat → Int32) (T : PH) : PMet l G yX12_takesLaw cX12_takesLaw 3 none 0 0 0 [vR (n + 0), vI 0] (h0 ++ (frM n wf ++ T)) (qV (fun h' => h' = h0 ++ (frM n wf ++ T))) := by
  refine PMet.intro (by decide) (Nat.le_of_ble_eq_true rfl) ?_
  intro p e s m args below meth c X hr hlk hnm
  refine r_iconst (v := 0) X dX12_takesLaw_0 (by decide +kernel) ?_
  refine r_istore_n X dX12_takesLaw_1 (by decide) ?_
  refine r_iload_n X dX12_takesLaw_2 rfl ?_
  refine r_iload_n X dX12_takesLaw_3 rfl ?_
  refine r_icmp_ge_t (tgt := 105) X dX12_takesLaw_4 rfl (by decide +kernel) ?_
  refine r_iconst (v := 0) X dX12_takesLaw_105 (by decide +kernel) ?_
  refine r_istore_n X dX12_takesLaw_106 (by decide) ?_
  refine r_iload_n X dX12_takesLaw_107 rfl ?_
  refine r_aload_n X dX12_takesLaw_108 rfl ?_
  refine a_get (a := 0) X hn fg_X12_208 dX12_takesLaw_109 rfl rfl ?_
  refine r_icmp_ge_t (tgt := 171) X dX12_takesLaw_112 rfl (by decide +kernel) ?_
  refine r_aload_n X dX12_takesLaw_171 rfl ?_
  refine a_get (a := 0) X hn fg_X12_37 dX12_takesLaw_172 rfl rfl ?_
  refine r_aload_n X dX12_takesLaw_175 rfl ?_
  refine a_get (a := 0) X hn fg_X12_262 dX12_takesLaw_176 rfl rfl ?_
  refine r_iload_n X dX12_takesLaw_179 rfl ?_
  refine a_iastE (a := 10) (f' := fun _ => 0) X hn dX12_takesLaw_180 rfl (inK (by decide +kernel)) (upd_c _ _) ?_
  refine r_eq (h' := h0 ++ (frM n wf ++ T)) rfl rfl rfl ?_
  exact r_ret_v X hr hlk dX12_takesLaw_181 (Nat.le_of_ble_eq_true rfl) (Nat.le_of_ble_eq_true rfl) ⟨rfl, rfl⟩
set_option maxRecDepth 100000 in
set_option maxHeartbeats 4000000 in
theorem ku14_X12_takesOther (l : Launch) (G : PG) (h0 : PH) (n : Nat) (hn : h0.length = n) (wf : Nat → Int32) (T : PH) (z0 : Int32) : PMet l G yX12_takesOther cX12_takesOther 4 none 0 0 0 [vR (n + 0), vI z0, vI 0] (h0 ++ (frM n wf ++ T)) (qV (fun h' => ((¬ z0 = 3) ∧ (¬ z0 = 1) ∧ h' = h0 ++ (frM n wf ++ T)) ∨ ((¬ z0 = 3) ∧ (z0 = 1) ∧ h' = h0 ++ (frM n wf ++ T)) ∨ ((z0 = 3) ∧ h' = h0 ++ (frM n wf ++ T)))) := by
  refine PMet.intro (by decide) (Nat.le_of_ble_eq_true rfl) ?_
  intro p e s m args below meth c X hr hlk hnm
  refine r_iload_n X dX12_takesOther_0 rfl ?_
  refine r_iconst (v := 3) X dX12_takesOther_1 (by decide +kernel) ?_
  refine r_icmp_ne (tgt := 40) X dX12_takesOther_2 rfl (fun q1 => ?_) (fun q1 => ?_)
  · refine r_iload_n X dX12_takesOther_40 rfl ?_
    refine r_iconst (v := 1) X dX12_takesOther_41 (by decide +kernel) ?_
    refine r_icmp_ne (tgt := 83) X dX12_takesOther_42 rfl (fun q2 => ?_) (fun q2 => ?_)
    · refine r_iconst (v := 0) X dX12_takesOther_83 (by decide +kernel) ?_
      refine r_istore_n X dX12_takesOther_84 (by decide) ?_
      refine r_iload_n X dX12_takesOther_85 rfl ?_
      refine r_iconst (v := 5) X dX12_takesOther_86 (by decide +kernel) ?_
      refine r_iload_n X dX12_takesOther_87 rfl ?_
      refine r_imulE (v := 0) X dX12_takesOther_88 (by decide +kernel) ?_
      refine r_icmp_ge_t (tgt := 113) X dX12_takesOther_89 rfl (by decide +kernel) ?_
      refine r_aload_n X dX12_takesOther_113 rfl ?_
      refine r_iload_n X dX12_takesOther_114 rfl ?_
      refine a_put (a := 0) X hn fp_X12_311 dX12_takesOther_115 rfl rfl rfl rfl ?_
      refine r_eq (h' := h0 ++ (frM n wf ++ T)) rfl rfl rfl ?_
      refine r_aload_n X dX12_takesOther_118 rfl ?_
      refine r_iconst (v := 0) X dX12_takesOther_119 (by decide +kernel) ?_
      refine a_put (a := 0) X hn fp_X12_143 dX12_takesOther_120 rfl rfl rfl rfl ?_
      refine r_eq (h' := h0 ++ (frM n wf ++ T)) rfl rfl rfl ?_
      exact r_ret_v X hr hlk dX12_takesOther_123 (Nat.le_of_ble_eq_true rfl) (Nat.le_of_ble_eq_true rfl) ⟨rfl, Or.inl ⟨q1, q2, rfl⟩⟩
    · refine r_iconst (v := 0) X dX12_takesOther_45 (by decide +kernel) ?_
      refine r_istore_n X dX12_takesOther_46 (by decide) ?_
      refine r_iload_n X dX12_takesOther_47 rfl ?_
      refine r_iconst (v := 3) X dX12_takesOther_48 (by decide +kernel) ?_
      refine r_iload_n X dX12_takesOther_49 rfl ?_
      refine r_imulE (v := 0) X dX12_takesOther_50 (by decide +kernel) ?_
      refine r_icmp_ge_t (tgt := 75) X dX12_takesOther_51 rfl (by decide +kernel) ?_
      refine r_aload_n X dX12_takesOther_75 rfl ?_
      refine r_iload_n X dX12_takesOther_76 rfl ?_
      refine a_put (a := 0) X hn fp_X12_308 dX12_takesOther_77 rfl rfl rfl rfl ?_
      refine r_eq (h' := h0 ++ (frM n wf ++ T)) rfl rfl rfl ?_
      refine r_goto (tgt := 118) X dX12_takesOther_80 rfl ?_
      refine r_aload_n X dX12_takesOther_118 rfl ?_
      refine r_iconst (v := 0) X dX12_takesOther_119 (by decide +kernel) ?_
      refine a_put (a := 0) X hn fp_X12_143 dX12_takesOther_120 rfl rfl rfl rfl ?_
      refine r_eq (h' := h0 ++ (frM n wf ++ T)) rfl rfl rfl ?_
      exact r_ret_v X hr hlk dX12_takesOther_123 (Nat.le_of_ble_eq_true rfl) (Nat.le_of_ble_eq_true rfl) ⟨rfl, Or.inr (Or.inl ⟨q1, q2, rfl⟩)⟩
  · refine r_iconst (v := 0) X dX12_takesOther_5 (by decide +kernel) ?_
    refine r_istore_n X dX12_takesOther_6 (by decide) ?_
    refine r_iload_n X dX12_takesOther_7 rfl ?_
    refine r_bipush (v := 20) X dX12_takesOther_8 (by decide +kernel) ?_
    refine r_icmp_ge_f (tgt := 34) X dX12_takesOther_10 rfl (by decide +kernel) ?_
    refine r_aload_n X dX12_takesOther_13 rfl ?_
    refine a_get (a := 0) X hn fg_X12_71 dX12_takesOther_14 rfl rfl ?_
    refine r_iload_n X dX12_takesOther_17 rfl ?_
    refine r_aload_n X dX12_takesOther_18 rfl ?_
    refine a_get (a := 0) X hn fg_X12_71 dX12_takesOther_19 rfl rfl ?_
    refine r_bipush (v := 20) X dX12_takesOther_22 (by decide +kernel) ?_
    refine r_iload_n X dX12_takesOther_24 rfl ?_
    refine r_iaddE (v := 20) X dX12_takesOther_25 (by decide +kernel) ?_
    refine a_iald (a := 20) (v := 0) X hn dX12_takesOther_26 rfl (inK (by decide +kernel)) (by rfl) ?_
    refine a_iastE (a := 20) (f' := fun _ => 0) X hn dX12_takesOther_27 rfl (inK (by decide +kernel)) (upd_c _ _) ?_
    refine r_eq (h' := h0 ++ (frM n wf ++ T)) rfl rfl rfl ?_
    refine r_iinc (v := 1) X dX12_takesOther_28 rfl (by decide +kernel) (by decide) ?_
    refine r_goto (tgt := 7) X dX12_takesOther_31 rfl ?_
    refine r_iload_n X dX12_takesOther_7 rfl ?_
    refine r_bipush (v := 20) X dX12_takesOther_8 (by decide +kernel) ?_
    refine r_icmp_ge_f (tgt := 34) X dX12_takesOther_10 rfl (by decide +kernel) ?_
    refine r_aload_n X dX12_takesOther_13 rfl ?_
    refine a_get (a := 0) X hn fg_X12_71 dX12_takesOther_14 rfl rfl ?_
    refine r_iload_n X dX12_takesOther_17 rfl ?_
    refine r_aload_n X dX12_takesOther_18 rfl ?_
    refine a_get (a := 0) X hn fg_X12_71 dX12_takesOther_19 rfl rfl ?_
    refine r_bipush (v := 20) X dX12_takesOther_22 (by decide +kernel) ?_
    refine r_iload_n X dX12_takesOther_24 rfl ?_
    refine r_iaddE (v := 21) X dX12_takesOther_25 (by decide +kernel) ?_
    refine a_iald (a := 20) (v := 0) X hn dX12_takesOther_26 rfl (inK (by decide +kernel)) (by rfl) ?_
    refine a_iastE (a := 20) (f' := fun _ => 0) X hn dX12_takesOther_27 rfl (inK (by decide +kernel)) (upd_c _ _) ?_
    refine r_eq (h' := h0 ++ (frM n wf ++ T)) rfl rfl rfl ?_
    refine r_iinc (v := 2) X dX12_takesOther_28 rfl (by decide +kernel) (by decide) ?_
    refine r_goto (tgt := 7) X dX12_takesOther_31 rfl ?_
    refine r_iload_n X dX12_takesOther_7 rfl ?_
    refine r_bipush (v := 20) X dX12_takesOther_8 (by decide +kernel) ?_
    refine r_icmp_ge_f (tgt := 34) X dX12_takesOther_10 rfl (by decide +kernel) ?_
    refine r_aload_n X dX12_takesOther_13 rfl ?_
    refine a_get (a := 0) X hn fg_X12_71 dX12_takesOther_14 rfl rfl ?_
    refine r_iload_n X dX12_takesOther_17 rfl ?_
    refine r_aload_n X dX12_takesOther_18 rfl ?_
    refine a_get (a := 0) X hn fg_X12_71 dX12_takesOther_19 rfl rfl ?_
    refine r_bipush (v := 20) X dX12_takesOther_22 (by decide +kernel) ?_
    refine r_iload_n X dX12_takesOther_24 rfl ?_
    refine r_iaddE (v := 22) X dX12_takesOther_25 (by decide +kernel) ?_
    refine a_iald (a := 20) (v := 0) X hn dX12_takesOther_26 rfl (inK (by decide +kernel)) (by rfl) ?_
    refine a_iastE (a := 20) (f' := fun _ => 0) X hn dX12_takesOther_27 rfl (inK (by decide +kernel)) (upd_c _ _) ?_
    refine r_eq (h' := h0 ++ (frM n wf ++ T)) rfl rfl rfl ?_
    refine r_iinc (v := 3) X dX12_takesOther_28 rfl (by decide +kernel) (by decide) ?_
    refine r_goto (tgt := 7) X dX12_takesOther_31 rfl ?_
    refine r_iload_n X dX12_takesOther_7 rfl ?_
    refine r_bipush (v := 20) X dX12_takesOther_8 (by decide +kernel) ?_
    refine r_icmp_ge_f (tgt := 34) X dX12_takesOther_10 rfl (by decide +kernel) ?_
    refine r_aload_n X dX12_takesOther_13 rfl ?_
    refine a_get (a := 0) X hn fg_X12_71 dX12_takesOther_14 rfl rfl ?_
    refine r_iload_n X dX12_takesOther_17 rfl ?_
    refine r_aload_n X dX12_takesOther_18 rfl ?_
    refine a_get (a := 0) X hn fg_X12_71 dX12_takesOther_19 rfl rfl ?_
    refine r_bipush (v := 20) X dX12_takesOther_22 (by decide +kernel) ?_
    refine r_iload_n X dX12_takesOther_24 rfl ?_
    refine r_iaddE (v := 23) X dX12_takesOther_25 (by decide +kernel) ?_
    refine a_iald (a := 20) (v := 0) X hn dX12_takesOther_26 rfl (inK (by decide +kernel)) (by rfl) ?_
    refine a_iastE (a := 20) (f' := fun _ => 0) X hn dX12_takesOther_27 rfl (inK (by decide +kernel)) (upd_c _ _) ?_
    refine r_eq (h' := h0 ++ (frM n wf ++ T)) rfl rfl rfl ?_
    refine r_iinc (v := 4) X dX12_takesOther_28 rfl (by decide +kernel) (by decide) ?_
    refine r_eq (ls' := [some (vR (n + 0)), some (vI z0), some (vI 0), some (vI 4)]) rfl rfl rfl ?_
    refine r_goto (tgt := 7) X dX12_takesOther_31 rfl ?_
    refine r_iload_n X dX12_takesOther_7 rfl ?_
    refine r_bipush (v := 20) X dX12_takesOther_8 (by decide +kernel) ?_
    refine r_icmp_ge_f (tgt := 34) X dX12_takesOther_10 rfl (by decide +kernel) ?_
    refine r_aload_n X dX12_takesOther_13 rfl ?_
    refine a_get (a := 0) X hn fg_X12_71 dX12_takesOther_14 rfl rfl ?_
    refine r_iload_n X dX12_takesOther_17 rfl ?_
    refine r_aload_n X dX12_takesOther_18 rfl ?_
    refine a_get (a := 0) X hn fg_X12_71 dX12_takesOther_19 rfl rfl ?_
    refine r_bipush (v := 20) X dX12_takesOther_22 (by decide +kernel) ?_
    refine r_iload_n X dX12_takesOther_24 rfl ?_
    refine r_iaddE (v := 24) X dX12_takesOther_25 (by decide +kernel) ?_
    refine a_iald (a := 20) (v := 0) X hn dX12_takesOther_26 rfl (inK (by decide +kernel)) (by rfl) ?_
    refine a_iastE (a := 20) (f' := fun _ => 0) X hn dX12_takesOther_27 rfl (inK (by decide +kernel)) (upd_c _ _) ?_
    refine r_eq (h' := h0 ++ (frM n wf ++ T)) rfl rfl rfl ?_
    refine r_iinc (v := 5) X dX12_takesOther_28 rfl (by decide +kernel) (by decide) ?_
    refine r_goto (tgt := 7) X dX12_takesOther_31 rfl ?_
    refine r_iload_n X dX12_takesOther_7 rfl ?_
    refine r_bipush (v := 20) X dX12_takesOther_8 (by decide +kernel) ?_
    refine r_icmp_ge_f (tgt := 34) X dX12_takesOther_10 rfl (by decide +kernel) ?_
    refine r_aload_n X dX12_takesOther_13 rfl ?_
    refine a_get (a := 0) X hn fg_X12_71 dX12_takesOther_14 rfl rfl ?_
    refine r_iload_n X dX12_takesOther_17 rfl ?_
    refine r_aload_n X dX12_takesOther_18 rfl ?_
    refine a_get (a := 0) X hn fg_X12_71 dX12_takesOther_19 rfl rfl ?_
    refine r_bipush (v := 20) X dX12_takesOther_22 (by decide +kernel) ?_
    refine r_iload_n X dX12_takesOther_24 rfl ?_
    refine r_iaddE (v := 25) X dX12_takesOther_25 (by decide +kernel) ?_
    refine a_iald (a := 20) (v := 0) X hn dX12_takesOther_26 rfl (inK (by decide +kernel)) (by rfl) ?_
    refine a_iastE (a := 20) (f' := fun _ => 0) X hn dX12_takesOther_27 rfl (inK (by decide +kernel)) (upd_c _ _) ?_
    refine r_eq (h' := h0 ++ (frM n wf ++ T)) rfl rfl rfl ?_
    refine r_iinc (v := 6) X dX12_takesOther_28 rfl (by decide +kernel) (by decide) ?_
    refine r_goto (tgt := 7) X dX12_takesOther_31 rfl ?_
    refine r_iload_n X dX12_takesOther_7 rfl ?_
    refine r_bipush (v := 20) X dX12_takesOther_8 (by decide +kernel) ?_
    refine r_icmp_ge_f (tgt := 34) X dX12_takesOther_10 rfl (by decide +kernel) ?_
    refine r_aload_n X dX12_takesOther_13 rfl ?_
    refine a_get (a := 0) X hn fg_X12_71 dX12_takesOther_14 rfl rfl ?_
    refine r_iload_n X dX12_takesOther_17 rfl ?_
    refine r_aload_n X dX12_takesOther_18 rfl ?_
    refine a_get (a := 0) X hn fg_X12_71 dX12_takesOther_19 rfl rfl ?_
    refine r_bipush (v := 20) X dX12_takesOther_22 (by decide +kernel) ?_
    refine r_iload_n X dX12_takesOther_24 rfl ?_
    refine r_iaddE (v := 26) X dX12_takesOther_25 (by decide +kernel) ?_
    refine a_iald (a := 20) (v := 0) X hn dX12_takesOther_26 rfl (inK (by decide +kernel)) (by rfl) ?_
    refine a_iastE (a := 20) (f' := fun _ => 0) X hn dX12_takesOther_27 rfl (inK (by decide +kernel)) (upd_c _ _) ?_
    refine r_eq (h' := h0 ++ (frM n wf ++ T)) rfl rfl rfl ?_
    refine r_iinc (v := 7) X dX12_takesOther_28 rfl (by decide +kernel) (by decide) ?_
    refine r_goto (tgt := 7) X dX12_takesOther_31 rfl ?_
    refine r_iload_n X dX12_takesOther_7 rfl ?_
    refine r_bipush (v := 20) X dX12_takesOther_8 (by decide +kernel) ?_
    refine r_icmp_ge_f (tgt := 34) X dX12_takesOther_10 rfl (by decide +kernel) ?_
    refine r_aload_n X dX12_takesOther_13 rfl ?_
    refine a_get (a := 0) X hn fg_X12_71 dX12_takesOther_14 rfl rfl ?_
    refine r_iload_n X dX12_takesOther_17 rfl ?_
    refine r_aload_n X dX12_takesOther_18 rfl ?_
    refine a_get (a := 0) X hn fg_X12_71 dX12_takesOther_19 rfl rfl ?_
    refine r_bipush (v := 20) X dX12_takesOther_22 (by decide +kernel) ?_
    refine r_iload_n X dX12_takesOther_24 rfl ?_
    refine r_iaddE (v := 27) X dX12_takesOther_25 (by decide +kernel) ?_
    refine a_iald (a := 20) (v := 0) X hn dX12_takesOther_26 rfl (inK (by decide +kernel)) (by rfl) ?_
    refine a_iastE (a := 20) (f' := fun _ => 0) X hn dX12_takesOther_27 rfl (inK (by decide +kernel)) (upd_c _ _) ?_
    refine r_eq (h' := h0 ++ (frM n wf ++ T)) rfl rfl rfl ?_
    refine r_iinc (v := 8) X dX12_takesOther_28 rfl (by decide +kernel) (by decide) ?_
    refine r_goto (tgt := 7) X dX12_takesOther_31 rfl ?_
    refine r_iload_n X dX12_takesOther_7 rfl ?_
    refine r_bipush (v := 20) X dX12_takesOther_8 (by decide +kernel) ?_
    refine r_icmp_ge_f (tgt := 34) X dX12_takesOther_10 rfl (by decide +kernel) ?_
    refine r_aload_n X dX12_takesOther_13 rfl ?_
    refine a_get (a := 0) X hn fg_X12_71 dX12_takesOther_14 rfl rfl ?_
    refine r_iload_n X dX12_takesOther_17 rfl ?_
    refine r_aload_n X dX12_takesOther_18 rfl ?_
    refine a_get (a := 0) X hn fg_X12_71 dX12_takesOther_19 rfl rfl ?_
    refine r_bipush (v := 20) X dX12_takesOther_22 (by decide +kernel) ?_
    refine r_iload_n X dX12_takesOther_24 rfl ?_
    refine r_iaddE (v := 28) X dX12_takesOther_25 (by decide +kernel) ?_
    refine a_iald (a := 20) (v := 0) X hn dX12_takesOther_26 rfl (inK (by decide +kernel)) (by rfl) ?_
    refine a_iastE (a := 20) (f' := fun _ => 0) X hn dX12_takesOther_27 rfl (inK (by decide +kernel)) (upd_c _ _) ?_
    refine r_eq (h' := h0 ++ (frM n wf ++ T)) rfl rfl rfl ?_
    refine r_iinc (v := 9) X dX12_takesOther_28 rfl (by decide +kernel) (by decide) ?_
    refine r_eq (ls' := [some (vR (n + 0)), some (vI z0), some (vI 0), some (vI 9)]) rfl rfl rfl ?_
    refine r_goto (tgt := 7) X dX12_takesOther_31 rfl ?_
    refine r_iload_n X dX12_takesOther_7 rfl ?_
    refine r_bipush (v := 20) X dX12_takesOther_8 (by decide +kernel) ?_
    refine r_icmp_ge_f (tgt := 34) X dX12_takesOther_10 rfl (by decide +kernel) ?_
    refine r_aload_n X dX12_takesOther_13 rfl ?_
    refine a_get (a := 0) X hn fg_X12_71 dX12_takesOther_14 rfl rfl ?_
    refine r_iload_n X dX12_takesOther_17 rfl ?_
    refine r_aload_n X dX12_takesOther_18 rfl ?_
    refine a_get (a := 0) X hn fg_X12_71 dX12_takesOther_19 rfl rfl ?_
    refine r_bipush (v := 20) X dX12_takesOther_22 (by decide +kernel) ?_
    refine r_iload_n X dX12_takesOther_24 rfl ?_
    refine r_iaddE (v := 29) X dX12_takesOther_25 (by decide +kernel) ?_
    refine a_iald (a := 20) (v := 0) X hn dX12_takesOther_26 rfl (inK (by decide +kernel)) (by rfl) ?_
    refine a_iastE (a := 20) (f' := fun _ => 0) X hn dX12_takesOther_27 rfl (inK (by decide +kernel)) (upd_c _ _) ?_
    refine r_eq (h' := h0 ++ (frM n wf ++ T)) rfl rfl rfl ?_
    refine r_iinc (v := 10) X dX12_takesOther_28 rfl (by decide +kernel) (by decide) ?_
    refine r_goto (tgt := 7) X dX12_takesOther_31 rfl ?_
    refine r_iload_n X dX12_takesOther_7 rfl ?_
    refine r_bipush (v := 20) X dX12_takesOther_8 (by decide +kernel) ?_
    refine r_icmp_ge_f (tgt := 34) X dX12_takesOther_10 rfl (by decide +kernel) ?_
    refine r_aload_n X dX12_takesOther_13 rfl ?_
    refine a_get (a := 0) X hn fg_X12_71 dX12_takesOther_14 rfl rfl ?_
    refine r_iload_n X dX12_takesOther_17 rfl ?_
    refine r_aload_n X dX12_takesOther_18 rfl ?_
    refine a_get (a := 0) X hn fg_X12_71 dX12_takesOther_19 rfl rfl ?_
    refine r_bipush (v := 20) X dX12_takesOther_22 (by decide +kernel) ?_
    refine r_iload_n X dX12_takesOther_24 rfl ?_
    refine r_iaddE (v := 30) X dX12_takesOther_25 (by decide +kernel) ?_
    refine a_iald (a := 20) (v := 0) X hn dX12_takesOther_26 rfl (inK (by decide +kernel)) (by rfl) ?_
    refine a_iastE (a := 20) (f' := fun _ => 0) X hn dX12_takesOther_27 rfl (inK (by decide +kernel)) (upd_c _ _) ?_
    refine r_eq (h' := h0 ++ (frM n wf ++ T)) rfl rfl rfl ?_
    refine r_iinc (v := 11) X dX12_takesOther_28 rfl (by decide +kernel) (by decide) ?_
    refine r_goto (tgt := 7) X dX12_takesOther_31 rfl ?_
    refine r_iload_n X dX12_takesOther_7 rfl ?_
    refine r_bipush (v := 20) X dX12_takesOther_8 (by decide +kernel) ?_
    refine r_icmp_ge_f (tgt := 34) X dX12_takesOther_10 rfl (by decide +kernel) ?_
    refine r_aload_n X dX12_takesOther_13 rfl ?_
    refine a_get (a := 0) X hn fg_X12_71 dX12_takesOther_14 rfl rfl ?_
    refine r_iload_n X dX12_takesOther_17 rfl ?_
    refine r_aload_n X dX12_takesOther_18 rfl ?_
    refine a_get (a := 0) X hn fg_X12_71 dX12_takesOther_19 rfl rfl ?_
    refine r_bipush (v := 20) X dX12_takesOther_22 (by decide +kernel) ?_
    refine r_iload_n X dX12_takesOther_24 rfl ?_
    refine r_iaddE (v := 31) X dX12_takesOther_25 (by decide +kernel) ?_
    refine a_iald (a := 20) (v := 0) X hn dX12_takesOther_26 rfl (inK (by decide +kernel)) (by rfl) ?_
    refine a_iastE (a := 20) (f' := fun _ => 0) X hn dX12_takesOther_27 rfl (inK (by decide +kernel)) (upd_c _ _) ?_
    refine r_eq (h' := h0 ++ (frM n wf ++ T)) rfl rfl rfl ?_
    refine r_iinc (v := 12) X dX12_takesOther_28 rfl (by decide +kernel) (by decide) ?_
    refine r_goto (tgt := 7) X dX12_takesOther_31 rfl ?_
    refine r_iload_n X dX12_takesOther_7 rfl ?_
    refine r_bipush (v := 20) X dX12_takesOther_8 (by decide +kernel) ?_
    refine r_icmp_ge_f (tgt := 34) X dX12_takesOther_10 rfl (by decide +kernel) ?_
    refine r_aload_n X dX12_takesOther_13 rfl ?_
    refine a_get (a := 0) X hn fg_X12_71 dX12_takesOther_14 rfl rfl ?_
    refine r_iload_n X dX12_takesOther_17 rfl ?_
    refine r_aload_n X dX12_takesOther_18 rfl ?_
    refine a_get (a := 0) X hn fg_X12_71 dX12_takesOther_19 rfl rfl ?_
    refine r_bipush (v := 20) X dX12_takesOther_22 (by decide +kernel) ?_
    refine r_iload_n X dX12_takesOther_24 rfl ?_
    refine r_iaddE (v := 32) X dX12_takesOther_25 (by decide +kernel) ?_
    refine a_iald (a := 20) (v := 0) X hn dX12_takesOther_26 rfl (inK (by decide +kernel)) (by rfl) ?_
    refine a_iastE (a := 20) (f' := fun _ => 0) X hn dX12_takesOther_27 rfl (inK (by decide +kernel)) (upd_c _ _) ?_
    refine r_eq (h' := h0 ++ (frM n wf ++ T)) rfl rfl rfl ?_
    refine r_iinc (v := 13) X dX12_takesOther_28 rfl (by decide +kernel) (by decide) ?_
    refine r_goto (tgt := 7) X dX12_takesOther_31 rfl ?_
    refine r_iload_n X dX12_takesOther_7 rfl ?_
    refine r_bipush (v := 20) X dX12_takesOther_8 (by decide +kernel) ?_
    refine r_icmp_ge_f (tgt := 34) X dX12_takesOther_10 rfl (by decide +kernel) ?_
    refine r_aload_n X dX12_takesOther_13 rfl ?_
    refine a_get (a := 0) X hn fg_X12_71 dX12_takesOther_14 rfl rfl ?_
    refine r_iload_n X dX12_takesOther_17 rfl ?_
    refine r_aload_n X dX12_takesOther_18 rfl ?_
    refine a_get (a := 0) X hn fg_X12_71 dX12_takesOther_19 rfl rfl ?_
    refine r_bipush (v := 20) X dX12_takesOther_22 (by decide +kernel) ?_
    refine r_iload_n X dX12_takesOther_24 rfl ?_
    refine r_iaddE (v := 33) X dX12_takesOther_25 (by decide +kernel) ?_
    refine a_iald (a := 20) (v := 0) X hn dX12_takesOther_26 rfl (inK (by decide +kernel)) (by rfl) ?_
    refine a_iastE (a := 20) (f' := fun _ => 0) X hn dX12_takesOther_27 rfl (inK (by decide +kernel)) (upd_c _ _) ?_
    refine r_eq (h' := h0 ++ (frM n wf ++ T)) rfl rfl rfl ?_
    refine r_iinc (v := 14) X dX12_takesOther_28 rfl (by decide +kernel) (by decide) ?_
    refine r_eq (ls' := [some (vR (n + 0)), some (vI z0), some (vI 0), some (vI 14)]) rfl rfl rfl ?_
    refine r_goto (tgt := 7) X dX12_takesOther_31 rfl ?_
    refine r_iload_n X dX12_takesOther_7 rfl ?_
    refine r_bipush (v := 20) X dX12_takesOther_8 (by decide +kernel) ?_
    refine r_icmp_ge_f (tgt := 34) X dX12_takesOther_10 rfl (by decide +kernel) ?_
    refine r_aload_n X dX12_takesOther_13 rfl ?_
    refine a_get (a := 0) X hn fg_X12_71 dX12_takesOther_14 rfl rfl ?_
    refine r_iload_n X dX12_takesOther_17 rfl ?_
    refine r_aload_n X dX12_takesOther_18 rfl ?_
    refine a_get (a := 0) X hn fg_X12_71 dX12_takesOther_19 rfl rfl ?_
    refine r_bipush (v := 20) X dX12_takesOther_22 (by decide +kernel) ?_
    refine r_iload_n X dX12_takesOther_24 rfl ?_
    refine r_iaddE (v := 34) X dX12_takesOther_25 (by decide +kernel) ?_
    refine a_iald (a := 20) (v := 0) X hn dX12_takesOther_26 rfl (inK (by decide +kernel)) (by rfl) ?_
    refine a_iastE (a := 20) (f' := fun _ => 0) X hn dX12_takesOther_27 rfl (inK (by decide +kernel)) (upd_c _ _) ?_
    refine r_eq (h' := h0 ++ (frM n wf ++ T)) rfl rfl rfl ?_
    refine r_iinc (v := 15) X dX12_takesOther_28 rfl (by decide +kernel) (by decide) ?_
    refine r_goto (tgt := 7) X dX12_takesOther_31 rfl ?_
    refine r_iload_n X dX12_takesOther_7 rfl ?_
    refine r_bipush (v := 20) X dX12_takesOther_8 (by decide +kernel) ?_
    refine r_icmp_ge_f (tgt := 34) X dX12_takesOther_10 rfl (by decide +kernel) ?_
    refine r_aload_n X dX12_takesOther_13 rfl ?_
    refine a_get (a := 0) X hn fg_X12_71 dX12_takesOther_14 rfl rfl ?_
    refine r_iload_n X dX12_takesOther_17 rfl ?_
    refine r_aload_n X dX12_takesOther_18 rfl ?_
    refine a_get (a := 0) X hn fg_X12_71 dX12_takesOther_19 rfl rfl ?_
    refine r_bipush (v := 20) X dX12_takesOther_22 (by decide +kernel) ?_
    refine r_iload_n X dX12_takesOther_24 rfl ?_
    refine r_iaddE (v := 35) X dX12_takesOther_25 (by decide +kernel) ?_
    refine a_iald (a := 20) (v := 0) X hn dX12_takesOther_26 rfl (inK (by decide +kernel)) (by rfl) ?_
    refine a_iastE (a := 20) (f' := fun _ => 0) X hn dX12_takesOther_27 rfl (inK (by decide +kernel)) (upd_c _ _) ?_
    refine r_eq (h' := h0 ++ (frM n wf ++ T)) rfl rfl rfl ?_
    refine r_iinc (v := 16) X dX12_takesOther_28 rfl (by decide +kernel) (by decide) ?_
    refine r_goto (tgt := 7) X dX12_takesOther_31 rfl ?_
    refine r_iload_n X dX12_takesOther_7 rfl ?_
    refine r_bipush (v := 20) X dX12_takesOther_8 (by decide +kernel) ?_
    refine r_icmp_ge_f (tgt := 34) X dX12_takesOther_10 rfl (by decide +kernel) ?_
    refine r_aload_n X dX12_takesOther_13 rfl ?_
    refine a_get (a := 0) X hn fg_X12_71 dX12_takesOther_14 rfl rfl ?_
    refine r_iload_n X dX12_takesOther_17 rfl ?_
    refine r_aload_n X dX12_takesOther_18 rfl ?_
    refine a_get (a := 0) X hn fg_X12_71 dX12_takesOther_19 rfl rfl ?_
    refine r_bipush (v := 20) X dX12_takesOther_22 (by decide +kernel) ?_
    refine r_iload_n X dX12_takesOther_24 rfl ?_
    refine r_iaddE (v := 36) X dX12_takesOther_25 (by decide +kernel) ?_
    refine a_iald (a := 20) (v := 0) X hn dX12_takesOther_26 rfl (inK (by decide +kernel)) (by rfl) ?_
    refine a_iastE (a := 20) (f' := fun _ => 0) X hn dX12_takesOther_27 rfl (inK (by decide +kernel)) (upd_c _ _) ?_
    refine r_eq (h' := h0 ++ (frM n wf ++ T)) rfl rfl rfl ?_
    refine r_iinc (v := 17) X dX12_takesOther_28 rfl (by decide +kernel) (by decide) ?_
    refine r_goto (tgt := 7) X dX12_takesOther_31 rfl ?_
    refine r_iload_n X dX12_takesOther_7 rfl ?_
    refine r_bipush (v := 20) X dX12_takesOther_8 (by decide +kernel) ?_
    refine r_icmp_ge_f (tgt := 34) X dX12_takesOther_10 rfl (by decide +kernel) ?_
    refine r_aload_n X dX12_takesOther_13 rfl ?_
    refine a_get (a := 0) X hn fg_X12_71 dX12_takesOther_14 rfl rfl ?_
    refine r_iload_n X dX12_takesOther_17 rfl ?_
    refine r_aload_n X dX12_takesOther_18 rfl ?_
    refine a_get (a := 0) X hn fg_X12_71 dX12_takesOther_19 rfl rfl ?_
    refine r_bipush (v := 20) X dX12_takesOther_22 (by decide +kernel) ?_
    refine r_iload_n X dX12_takesOther_24 rfl ?_
    refine r_iaddE (v := 37) X dX12_takesOther_25 (by decide +kernel) ?_
    refine a_iald (a := 20) (v := 0) X hn dX12_takesOther_26 rfl (inK (by decide +kernel)) (by rfl) ?_
    refine a_iastE (a := 20) (f' := fun _ => 0) X hn dX12_takesOther_27 rfl (inK (by decide +kernel)) (upd_c _ _) ?_
    refine r_eq (h' := h0 ++ (frM n wf ++ T)) rfl rfl rfl ?_
    refine r_iinc (v := 18) X dX12_takesOther_28 rfl (by decide +kernel) (by decide) ?_
    refine r_goto (tgt := 7) X dX12_takesOther_31 rfl ?_
    refine r_iload_n X dX12_takesOther_7 rfl ?_
    refine r_bipush (v := 20) X dX12_takesOther_8 (by decide +kernel) ?_
    refine r_icmp_ge_f (tgt := 34) X dX12_takesOther_10 rfl (by decide +kernel) ?_
    refine r_aload_n X dX12_takesOther_13 rfl ?_
    refine a_get (a := 0) X hn fg_X12_71 dX12_takesOther_14 rfl rfl ?_
    refine r_iload_n X dX12_takesOther_17 rfl ?_
    refine r_aload_n X dX12_takesOther_18 rfl ?_
    refine a_get (a := 0) X hn fg_X12_71 dX12_takesOther_19 rfl rfl ?_
    refine r_bipush (v := 20) X dX12_takesOther_22 (by decide +kernel) ?_
    refine r_iload_n X dX12_takesOther_24 rfl ?_
    refine r_iaddE (v := 38) X dX12_takesOther_25 (by decide +kernel) ?_
    refine a_iald (a := 20) (v := 0) X hn dX12_takesOther_26 rfl (inK (by decide +kernel)) (by rfl) ?_
    refine a_iastE (a := 20) (f' := fun _ => 0) X hn dX12_takesOther_27 rfl (inK (by decide +kernel)) (upd_c _ _) ?_
    refine r_eq (h' := h0 ++ (frM n wf ++ T)) rfl rfl rfl ?_
    refine r_iinc (v := 19) X dX12_takesOther_28 rfl (by decide +kernel) (by decide) ?_
    refine r_eq (ls' := [some (vR (n + 0)), some (vI z0), some (vI 0), some (vI 19)]) rfl rfl rfl ?_
    refine r_goto (tgt := 7) X dX12_takesOther_31 rfl ?_
    refine r_iload_n X dX12_takesOther_7 rfl ?_
    refine r_bipush (v := 20) X dX12_takesOther_8 (by decide +kernel) ?_
    refine r_icmp_ge_f (tgt := 34) X dX12_takesOther_10 rfl (by decide +kernel) ?_
    refine r_aload_n X dX12_takesOther_13 rfl ?_
    refine a_get (a := 0) X hn fg_X12_71 dX12_takesOther_14 rfl rfl ?_
    refine r_iload_n X dX12_takesOther_17 rfl ?_
    refine r_aload_n X dX12_takesOther_18 rfl ?_
    refine a_get (a := 0) X hn fg_X12_71 dX12_takesOther_19 rfl rfl ?_
    refine r_bipush (v := 20) X dX12_takesOther_22 (by decide +kernel) ?_
    refine r_iload_n X dX12_takesOther_24 rfl ?_
    refine r_iaddE (v := 39) X dX12_takesOther_25 (by decide +kernel) ?_
    refine a_iald (a := 20) (v := 0) X hn dX12_takesOther_26 rfl (inK (by decide +kernel)) (by rfl) ?_
    refine a_iastE (a := 20) (f' := fun _ => 0) X hn dX12_takesOther_27 rfl (inK (by decide +kernel)) (upd_c _ _) ?_
    refine r_eq (h' := h0 ++ (frM n wf ++ T)) rfl rfl rfl ?_
    refine r_iinc (v := 20) X dX12_takesOther_28 rfl (by decide +kernel) (by decide) ?_
    refine r_goto (tgt := 7) X dX12_takesOther_31 rfl ?_
    refine r_iload_n X dX12_takesOther_7 rfl ?_
    refine r_bipush (v := 20) X dX12_takesOther_8 (by decide +kernel) ?_
    refine r_icmp_ge_t (tgt := 34) X dX12_takesOther_10 rfl (by decide +kernel) ?_
    refine r_aload_n X dX12_takesOther_34 rfl ?_
    refine r_iload_n X dX12_takesOther_35 rfl ?_
    refine a_put (a := 0) X hn fp_X12_305 dX12_takesOther_36 rfl rfl rfl rfl ?_
    refine r_eq (h' := h0 ++ (frM n wf ++ T)) rfl rfl rfl ?_
    exact r_ret_v X hr hlk dX12_takesOther_39 (Nat.le_of_ble_eq_true rfl) (Nat.le_of_ble_eq_true rfl) ⟨rfl, Or.inr (Or.inr (⟨q1, rfl⟩))⟩
set_option maxRecDepth 100000 in
set_option maxHeartbeats 4000000 in
theorem m_text (l : Launch) (G : PG) (h0 : PH) (n : Nat) (hn : h0.length = n) (wf : Nat → Int32) (T : PH) (a : Int32) : PMet l G yX12_text cX12_text 3 (some .int) 3 0 0 [vR (n + 0), vI a] (h0 ++ (frM n wf ++ T)) (qI (fun x h' => x = sp_text a)) := by
  refine PMet.intro (by decide) (Nat.le_of_ble_eq_true rfl) ?_
  intro p e s m args below meth c X hr hlk hnm
  refine r_aload_n X dX12_text_0 rfl ?_
  refine r_iconst (v := 0) X dX12_text_1 (by decide +kernel) ?_
  refine a_put (a := 0) X hn fp_X12_140 dX12_text_2 rfl rfl rfl rfl ?_
  refine r_eq (h' := h0 ++ (frM n wf ++ T)) rfl rfl rfl ?_
  refine r_aload_n X dX12_text_5 rfl ?_
  refine r_iconst (v := 0) X dX12_text_6 (by decide +kernel) ?_
  refine a_put (a := 0) X hn fp_X12_314 dX12_text_7 rfl rfl rfl rfl ?_
  refine r_eq (h' := h0 ++ (frM n wf ++ T)) rfl rfl rfl ?_
  refine r_aload_n X dX12_text_10 rfl ?_
  refine r_iconst (v := -1) X dX12_text_11 (by decide +kernel) ?_
  refine a_put (a := 0) X hn fp_X12_61 dX12_text_12 rfl rfl rfl rfl ?_
  refine r_eq (h' := h0 ++ (frM n wf ++ T)) rfl rfl rfl ?_
  refine r_aload_n X dX12_text_15 rfl ?_
  refine r_iconst (v := 0) X dX12_text_16 (by decide +kernel) ?_
  refine a_put (a := 0) X hn fp_X12_173 dX12_text_17 rfl rfl rfl rfl ?_
  refine r_eq (h' := h0 ++ (frM n wf ++ T)) rfl rfl rfl ?_
  refine r_aload_n X dX12_text_20 rfl ?_
  refine r_iconst (v := 0) X dX12_text_21 (by decide +kernel) ?_
  refine a_put (a := 0) X hn fp_X12_208 dX12_text_22 rfl rfl rfl rfl ?_
  refine r_eq (h' := h0 ++ (frM n wf ++ T)) rfl rfl rfl ?_
  refine r_aload_n X dX12_text_25 rfl ?_
  refine r_iconst (v := 0) X dX12_text_26 (by decide +kernel) ?_
  refine a_put (a := 0) X hn fp_X12_240 dX12_text_27 rfl rfl rfl rfl ?_
  refine r_eq (h' := h0 ++ (frM n wf ++ T)) rfl rfl rfl ?_
  refine r_iconst (v := -1) X dX12_text_30 (by decide +kernel) ?_
  refine r_istore_n X dX12_text_31 (by decide) ?_
  refine r_aload_n X dX12_text_32 rfl ?_
  refine r_iload_n X dX12_text_33 rfl ?_
  refine r_iconst (v := 0) X dX12_text_34 (by decide +kernel) ?_
  refine r_iconst (v := 3) X dX12_text_35 (by decide +kernel) ?_
  refine r_V3i X kv_X12_155 dX12_text_36 (apG (k := 0) hn rfl) rfl (ku1_X12_isIn l G _ _ hn _ _ _) rfl (fun x h' hΨ => ?_)
  rcases hΨ with ⟨q1, rfl, rfl⟩ | ⟨q2, q3, rfl, rfl⟩ | ⟨q4, q5, rfl, rfl⟩
  · refine r_if_eq_t (tgt := 69) X dX12_text_39 rfl (by decide +kernel) ?_
    refine r_aload_n X dX12_text_69 rfl ?_
    refine r_iconst (v := 0) X dX12_text_70 (by decide +kernel) ?_
    refine a_put (a := 0) X hn fp_X12_166 dX12_text_71 rfl rfl rfl rfl ?_
    refine r_eq (h' := h0 ++ (frM n wf ++ T)) rfl rfl rfl ?_
    refine r_iload_n X dX12_text_74 rfl ?_
    refine r_iconst (v := -1) X dX12_text_75 (by decide +kernel) ?_
    refine r_icmp_ne_f (tgt := 81) X dX12_text_76 rfl (by decide +kernel) ?_
    refine r_iconst (v := -1) X dX12_text_79 (by decide +kernel) ?_
    exact r_ret_i X hr hlk dX12_text_80 (Nat.le_of_ble_eq_true rfl) (Nat.le_of_ble_eq_true rfl) ⟨_, rfl, by unfold sp_text; (repeat' split) <;> first | rfl | (exfalso; have e0 : (-1 : Int32).toInt = -1 := (by decide); have e1 : (0 : Int32).toInt = 0 := (by decide); have e2 : (3 : Int32).toInt = 3 := (by decide); simp only [inR, Int32.lt_iff_toInt_lt, Int32.le_iff_toInt_le, ← Int32.toInt_inj, true_or, or_true, not_true_eq_false, and_true, true_and, false_or, or_false, false_and, and_false, not_false_eq_true] at * <;> omega)⟩
  · refine r_if_eq_t (tgt := 69) X dX12_text_39 rfl (by decide +kernel) ?_
    refine r_aload_n X dX12_text_69 rfl ?_
    refine r_iconst (v := 0) X dX12_text_70 (by decide +kernel) ?_
    refine a_put (a := 0) X hn fp_X12_166 dX12_text_71 rfl rfl rfl rfl ?_
    refine r_eq (h' := h0 ++ (frM n wf ++ T)) rfl rfl rfl ?_
    refine r_iload_n X dX12_text_74 rfl ?_
    refine r_iconst (v := -1) X dX12_text_75 (by decide +kernel) ?_
    refine r_icmp_ne_f (tgt := 81) X dX12_text_76 rfl (by decide +kernel) ?_
    refine r_iconst (v := -1) X dX12_text_79 (by decide +kernel) ?_
    exact r_ret_i X hr hlk dX12_text_80 (Nat.le_of_ble_eq_true rfl) (Nat.le_of_ble_eq_true rfl) ⟨_, rfl, by unfold sp_text; (repeat' split) <;> first | rfl | (exfalso; have e0 : (-1 : Int32).toInt = -1 := (by decide); have e1 : (0 : Int32).toInt = 0 := (by decide); have e2 : (3 : Int32).toInt = 3 := (by decide); simp only [inR, Int32.lt_iff_toInt_lt, Int32.le_iff_toInt_le, ← Int32.toInt_inj, true_or, or_true, not_true_eq_false, and_true, true_and, false_or, or_false, false_and, and_false, not_false_eq_true] at * <;> omega)⟩
  · refine r_if_eq_f (tgt := 69) X dX12_text_39 rfl (by decide +kernel) ?_
    refine r_aload_n X dX12_text_42 rfl ?_
    refine r_iload_n X dX12_text_43 rfl ?_
    refine r_V1i X kv_X12_317 dX12_text_44 (apG (k := 0) hn rfl) rfl (ku12_X12_readsText l G _ _ hn _ _ _) rfl (fun x h' hΨ => ?_)
    rcases hΨ with ⟨q6, q7, q8, rfl, rfl⟩ | ⟨q9, q10, q11, rfl, rfl⟩ | ⟨q12, q13, rfl, rfl⟩ | ⟨q14, rfl, rfl⟩
    · refine r_istore_n X dX12_text_47 (by decide) ?_
      refine r_iload_n X dX12_text_48 rfl ?_
      refine r_iconst (v := -1) X dX12_text_49 (by decide +kernel) ?_
      refine r_icmp_ne_t (tgt := 69) X dX12_text_50 rfl (by decide +kernel) ?_
      refine r_aload_n X dX12_text_69 rfl ?_
      refine r_iconst (v := 0) X dX12_text_70 (by decide +kernel) ?_
      refine a_put (a := 0) X hn fp_X12_166 dX12_text_71 rfl rfl rfl rfl ?_
      refine r_eq (h' := h0 ++ (frM n wf ++ T)) rfl rfl rfl ?_
      refine r_iload_n X dX12_text_74 rfl ?_
      refine r_iconst (v := -1) X dX12_text_75 (by decide +kernel) ?_
      refine r_icmp_ne_t (tgt := 81) X dX12_text_76 rfl (by decide +kernel) ?_
      refine r_iload_n X dX12_text_81 rfl ?_
      refine r_if_ne_f (tgt := 93) X dX12_text_82 rfl (by have e1 : (0 : Int32).toInt = 0 := (by decide); have e2 : (1 : Int32).toInt = 1 := (by decide); have e3 : (2 : Int32).toInt = 2 := (by decide); have e4 : (3 : Int32).toInt = 3 := (by decide); simp only [Int32.lt_iff_toInt_lt, Int32.le_iff_toInt_le, ← Int32.toInt_inj] at q4 q5 q6 q7 q8 ⊢; omega) ?_
      refine r_aload_n X dX12_text_85 rfl ?_
      refine r_iload_n X dX12_text_86 rfl ?_
      refine r_V1v X kv_X12_320 dX12_text_87 (apG (k := 0) hn rfl) rfl (ku13_X12_takesLaw l G _ _ hn _ _) rfl (fun h' hΨ => ?_)
      obtain rfl := hΨ
      refine r_goto (tgt := 99) X dX12_text_90 rfl ?_
      refine r_iload_n X dX12_text_99 rfl ?_
      exact r_ret_i X hr hlk dX12_text_100 (Nat.le_of_ble_eq_true rfl) (Nat.le_of_ble_eq_true rfl) ⟨_, rfl, by unfold sp_text; (repeat' split) <;> first | rfl | (exfalso; have e0 : (-1 : Int32).toInt = -1 := (by decide); have e1 : (0 : Int32).toInt = 0 := (by decide); have e2 : (1 : Int32).toInt = 1 := (by decide); have e3 : (2 : Int32).toInt = 2 := (by decide); have e4 : (3 : Int32).toInt = 3 := (by decide); simp only [inR, Int32.lt_iff_toInt_lt, Int32.le_iff_toInt_le, ← Int32.toInt_inj, true_or, or_true, not_true_eq_false, and_true, true_and, false_or, or_false, false_and, and_false, not_false_eq_true] at * <;> omega)⟩
    · refine r_istore_n X dX12_text_47 (by decide) ?_
      refine r_iload_n X dX12_text_48 rfl ?_
      refine r_iconst (v := -1) X dX12_text_49 (by decide +kernel) ?_
      refine r_icmp_ne_t (tgt := 69) X dX12_text_50 rfl (by decide +kernel) ?_
      refine r_aload_n X dX12_text_69 rfl ?_
      refine r_iconst (v := 0) X dX12_text_70 (by decide +kernel) ?_
      refine a_put (a := 0) X hn fp_X12_166 dX12_text_71 rfl rfl rfl rfl ?_
      refine r_eq (h' := h0 ++ (frM n wf ++ T)) rfl rfl rfl ?_
      refine r_iload_n X dX12_text_74 rfl ?_
      refine r_iconst (v := -1) X dX12_text_75 (by decide +kernel) ?_
      refine r_icmp_ne_t (tgt := 81) X dX12_text_76 rfl (by decide +kernel) ?_
      refine r_iload_n X dX12_text_81 rfl ?_
      refine r_if_ne_t (tgt := 93) X dX12_text_82 rfl (by have e1 : (0 : Int32).toInt = 0 := (by decide); have e2 : (1 : Int32).toInt = 1 := (by decide); have e3 : (2 : Int32).toInt = 2 := (by decide); have e4 : (3 : Int32).toInt = 3 := (by decide); simp only [Int32.lt_iff_toInt_lt, Int32.le_iff_toInt_le, ← Int32.toInt_inj] at q4 q5 q9 q10 q11 ⊢; omega) ?_
      refine r_aload_n X dX12_text_93 rfl ?_
      refine r_iload_n X dX12_text_94 rfl ?_
      refine r_iload_n X dX12_text_95 rfl ?_
      refine r_V2v X kv_X12_323 dX12_text_96 (apG (k := 0) hn rfl) rfl (ku14_X12_takesOther l G _ _ hn _ _ _) rfl (fun h' hΨ => ?_)
      rcases hΨ with ⟨q15, q16, rfl⟩ | ⟨q17, q18, rfl⟩ | ⟨q19, rfl⟩
      · exact absurd (by have e1 : (0 : Int32).toInt = 0 := (by decide); have e2 : (1 : Int32).toInt = 1 := (by decide); have e3 : (2 : Int32).toInt = 2 := (by decide); have e4 : (3 : Int32).toInt = 3 := (by decide); simp only [Int32.lt_iff_toInt_lt, Int32.le_iff_toInt_le, ← Int32.toInt_inj] at q4 q5 q9 q10 q11 q15 q16; omega) (id : ¬ False)
      · exact absurd (by have e1 : (0 : Int32).toInt = 0 := (by decide); have e2 : (1 : Int32).toInt = 1 := (by decide); have e3 : (2 : Int32).toInt = 2 := (by decide); have e4 : (3 : Int32).toInt = 3 := (by decide); simp only [Int32.lt_iff_toInt_lt, Int32.le_iff_toInt_le, ← Int32.toInt_inj] at q4 q5 q9 q10 q11 q17 q18; omega) (id : ¬ False)
      · refine r_iload_n X dX12_text_99 rfl ?_
        exact r_ret_i X hr hlk dX12_text_100 (Nat.le_of_ble_eq_true rfl) (Nat.le_of_ble_eq_true rfl) ⟨_, rfl, by unfold sp_text; (repeat' split) <;> first | rfl | (exfalso; have e0 : (-1 : Int32).toInt = -1 := (by decide); have e1 : (0 : Int32).toInt = 0 := (by decide); have e2 : (1 : Int32).toInt = 1 := (by decide); have e3 : (2 : Int32).toInt = 2 := (by decide); have e4 : (3 : Int32).toInt = 3 := (by decide); simp only [inR, Int32.lt_iff_toInt_lt, Int32.le_iff_toInt_le, ← Int32.toInt_inj, true_or, or_true, not_true_eq_false, and_true, true_and, false_or, or_false, false_and, and_false, not_false_eq_true] at * <;> omega)⟩
    · refine r_istore_n X dX12_text_47 (by decide) ?_
      refine r_iload_n X dX12_text_48 rfl ?_
      refine r_iconst (v := -1) X dX12_text_49 (by decide +kernel) ?_
      refine r_icmp_ne_t (tgt := 69) X dX12_text_50 rfl (by decide +kernel) ?_
      refine r_aload_n X dX12_text_69 rfl ?_
      refine r_iconst (v := 0) X dX12_text_70 (by decide +kernel) ?_
      refine a_put (a := 0) X hn fp_X12_166 dX12_text_71 rfl rfl rfl rfl ?_
      refine r_eq (h' := h0 ++ (frM n wf ++ T)) rfl rfl rfl ?_
      refine r_iload_n X dX12_text_74 rfl ?_
      refine r_iconst (v := -1) X dX12_text_75 (by decide +kernel) ?_
      refine r_icmp_ne_t (tgt := 81) X dX12_text_76 rfl (by decide +kernel) ?_
      refine r_iload_n X dX12_text_81 rfl ?_
      refine r_if_ne_t (tgt := 93) X dX12_text_82 rfl (by have e1 : (0 : Int32).toInt = 0 := (by decide); have e2 : (1 : Int32).toInt = 1 := (by decide); have e3 : (2 : Int32).toInt = 2 := (by decide); have e4 : (3 : Int32).toInt = 3 := (by decide); simp only [Int32.lt_iff_toInt_lt, Int32.le_iff_toInt_le, ← Int32.toInt_inj] at q4 q5 q12 q13 ⊢; omega) ?_
      refine r_aload_n X dX12_text_93 rfl ?_
      refine r_iload_n X dX12_text_94 rfl ?_
      refine r_iload_n X dX12_text_95 rfl ?_
      refine r_V2v X kv_X12_323 dX12_text_96 (apG (k := 0) hn rfl) rfl (ku14_X12_takesOther l G _ _ hn _ _ _) rfl (fun h' hΨ => ?_)
      rcases hΨ with ⟨q20, q21, rfl⟩ | ⟨q22, q23, rfl⟩ | ⟨q24, rfl⟩
      · refine r_iload_n X dX12_text_99 rfl ?_
        exact r_ret_i X hr hlk dX12_text_100 (Nat.le_of_ble_eq_true rfl) (Nat.le_of_ble_eq_true rfl) ⟨_, rfl, by unfold sp_text; (repeat' split) <;> first | rfl | (exfalso; have e0 : (-1 : Int32).toInt = -1 := (by decide); have e1 : (0 : Int32).toInt = 0 := (by decide); have e2 : (1 : Int32).toInt = 1 := (by decide); have e3 : (2 : Int32).toInt = 2 := (by decide); have e4 : (3 : Int32).toInt = 3 := (by decide); simp only [inR, Int32.lt_iff_toInt_lt, Int32.le_iff_toInt_le, ← Int32.toInt_inj, true_or, or_true, not_true_eq_false, and_true, true_and, false_or, or_false, false_and, and_false, not_false_eq_true] at * <;> omega)⟩
      · exact absurd (by have e1 : (0 : Int32).toInt = 0 := (by decide); have e2 : (1 : Int32).toInt = 1 := (by decide); have e3 : (2 : Int32).toInt = 2 := (by decide); have e4 : (3 : Int32).toInt = 3 := (by decide); simp only [Int32.lt_iff_toInt_lt, Int32.le_iff_toInt_le, ← Int32.toInt_inj] at q4 q5 q12 q13 q22 q23; omega) (id : ¬ False)
      · exact absurd (by have e1 : (0 : Int32).toInt = 0 := (by decide); have e2 : (1 : Int32).toInt = 1 := (by decide); have e3 : (2 : Int32).toInt = 2 := (by decide); have e4 : (3 : Int32).toInt = 3 := (by decide); simp only [Int32.lt_iff_toInt_lt, Int32.le_iff_toInt_le, ← Int32.toInt_inj] at q4 q5 q12 q13 q24; omega) (id : ¬ False)
    · refine r_istore_n X dX12_text_47 (by decide) ?_
      refine r_iload_n X dX12_text_48 rfl ?_
      refine r_iconst (v := -1) X dX12_text_49 (by decide +kernel) ?_
      refine r_icmp_ne_t (tgt := 69) X dX12_text_50 rfl (by decide +kernel) ?_
      refine r_aload_n X dX12_text_69 rfl ?_
      refine r_iconst (v := 0) X dX12_text_70 (by decide +kernel) ?_
      refine a_put (a := 0) X hn fp_X12_166 dX12_text_71 rfl rfl rfl rfl ?_
      refine r_eq (h' := h0 ++ (frM n wf ++ T)) rfl rfl rfl ?_
      refine r_iload_n X dX12_text_74 rfl ?_
      refine r_iconst (v := -1) X dX12_text_75 (by decide +kernel) ?_
      refine r_icmp_ne_t (tgt := 81) X dX12_text_76 rfl (by decide +kernel) ?_
      refine r_iload_n X dX12_text_81 rfl ?_
      refine r_if_ne_t (tgt := 93) X dX12_text_82 rfl (by have e1 : (0 : Int32).toInt = 0 := (by decide); have e2 : (1 : Int32).toInt = 1 := (by decide); have e3 : (3 : Int32).toInt = 3 := (by decide); simp only [Int32.lt_iff_toInt_lt, Int32.le_iff_toInt_le, ← Int32.toInt_inj] at q4 q5 q14 ⊢; omega) ?_
      refine r_aload_n X dX12_text_93 rfl ?_
      refine r_iload_n X dX12_text_94 rfl ?_
      refine r_iload_n X dX12_text_95 rfl ?_
      refine r_V2v X kv_X12_323 dX12_text_96 (apG (k := 0) hn rfl) rfl (ku14_X12_takesOther l G _ _ hn _ _ _) rfl (fun h' hΨ => ?_)
      rcases hΨ with ⟨q25, q26, rfl⟩ | ⟨q27, q28, rfl⟩ | ⟨q29, rfl⟩
      · exact absurd (by have e1 : (0 : Int32).toInt = 0 := (by decide); have e2 : (1 : Int32).toInt = 1 := (by decide); have e3 : (3 : Int32).toInt = 3 := (by decide); simp only [Int32.lt_iff_toInt_lt, Int32.le_iff_toInt_le, ← Int32.toInt_inj] at q4 q5 q14 q25 q26; omega) (id : ¬ False)
      · refine r_iload_n X dX12_text_99 rfl ?_
        exact r_ret_i X hr hlk dX12_text_100 (Nat.le_of_ble_eq_true rfl) (Nat.le_of_ble_eq_true rfl) ⟨_, rfl, by unfold sp_text; (repeat' split) <;> first | rfl | (exfalso; have e0 : (-1 : Int32).toInt = -1 := (by decide); have e1 : (0 : Int32).toInt = 0 := (by decide); have e2 : (1 : Int32).toInt = 1 := (by decide); have e3 : (3 : Int32).toInt = 3 := (by decide); simp only [inR, Int32.lt_iff_toInt_lt, Int32.le_iff_toInt_le, ← Int32.toInt_inj, true_or, or_true, not_true_eq_false, and_true, true_and, false_or, or_false, false_and, and_false, not_false_eq_true] at * <;> omega)⟩
      · exact absurd (by have e1 : (0 : Int32).toInt = 0 := (by decide); have e2 : (1 : Int32).toInt = 1 := (by decide); have e3 : (3 : Int32).toInt = 3 := (by decide); simp only [Int32.lt_iff_toInt_lt, Int32.le_iff_toInt_le, ← Int32.toInt_inj] at q4 q5 q14 q29; omega) (id : ¬ False)
