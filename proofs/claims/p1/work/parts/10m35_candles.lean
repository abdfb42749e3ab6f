set_option maxRecDepth 100000 in
set_option maxHeartbeats 4000000 in
theorem km142_X12_isIn (l : Launch) (G : PG) (h0 : PH) (n : Nat) (hn : h0.length = n) (wf : Nat → Int32) (z0 : Int32) : PMet l G yX12_isIn cX12_isIn 4 (some .boolean) 0 0 0 [vR (n + 0), vI z0, vI 0, vI 400] (h0 ++ (frM n wf)) (qI (fun x h' => ((z0 < 0) ∧ x = 0 ∧ h' = h0 ++ (frM n wf)) ∨ ((¬ z0 < 0) ∧ (400 < z0) ∧ x = 0 ∧ h' = h0 ++ (frM n wf)) ∨ ((¬ z0 < 0) ∧ (¬ 400 < z0) ∧ x = 1 ∧ h' = h0 ++ (frM n wf)))) := by
  refine PMet.intro (by decide) (Nat.le_of_ble_eq_true rfl) ?_
  intro p e s m args below meth c X hr hlk hnm
  refine r_iload_n X dX12_isIn_0 rfl ?_
  refine r_iload_n X dX12_isIn_1 rfl ?_
  refine r_icmp_lt (tgt := 14) X dX12_isIn_2 rfl (fun q1 => ?_) (fun q1 => ?_)
  · refine r_iconst (v := 0) X dX12_isIn_14 (by decide +kernel) ?_
    exact r_ret_z X hr hlk (Or.inl rfl) dX12_isIn_15 (Nat.le_of_ble_eq_true rfl) (Nat.le_of_ble_eq_true rfl) ⟨_, rfl, Or.inl ⟨q1, rfl, rfl⟩⟩
  · refine r_iload_n X dX12_isIn_5 rfl ?_
    refine r_iload_n X dX12_isIn_6 rfl ?_
    refine r_icmp_gt (tgt := 14) X dX12_isIn_7 rfl (fun q2 => ?_) (fun q2 => ?_)
    · refine r_iconst (v := 0) X dX12_isIn_14 (by decide +kernel) ?_
      exact r_ret_z X hr hlk (Or.inl rfl) dX12_isIn_15 (Nat.le_of_ble_eq_true rfl) (Nat.le_of_ble_eq_true rfl) ⟨_, rfl, Or.inr (Or.inl ⟨q1, q2, rfl, rfl⟩)⟩
    · refine r_iconst (v := 1) X dX12_isIn_10 (by decide +kernel) ?_
      refine r_goto (tgt := 15) X dX12_isIn_11 rfl ?_
      exact r_ret_z X hr hlk (Or.inr rfl) dX12_isIn_15 (Nat.le_of_ble_eq_true rfl) (Nat.le_of_ble_eq_true rfl) ⟨_, rfl, Or.inr (Or.inr (⟨q1, q2, rfl, rfl⟩))⟩
set_option maxRecDepth 100000 in
set_option maxHeartbeats 4000000 in
theorem m_candles (l : Launch) (G : PG) (h0 : PH) (n : Nat) (hn : h0.length = n) (wf : Nat → Int32) (a b : Int32) : PMet l G yX12_candles cX12_candles 6 (some .int) 1 0 0 [vR (n + 0), vI a, vI b] (h0 ++ (frM n wf)) (qI (fun x h' => x = sp_candles a b)) := by
  refine PMet.intro (by decide) (Nat.le_of_ble_eq_true rfl) ?_
  intro p e s m args below meth c X hr hlk hnm
  refine r_aload_n X dX12_candles_0 rfl ?_
  refine r_iconst (v := 0) X dX12_candles_1 (by decide +kernel) ?_
  refine a_put (a := 0) X hn fp_X12_140 dX12_candles_2 rfl rfl rfl rfl ?_
  refine r_eq (h' := h0 ++ (frM n wf)) rfl rfl rfl ?_
  refine r_aload_n X dX12_candles_5 rfl ?_
  refine r_iload_n X dX12_candles_6 rfl ?_
  refine r_iconst (v := 0) X dX12_candles_7 (by decide +kernel) ?_
  refine r_sipush (v := 400) X dX12_candles_8 (by decide +kernel) ?_
  refine r_V3i X kv_X12_155 dX12_candles_11 (apG (k := 0) hn rfl) rfl (km142_X12_isIn l G _ _ hn _ _) rfl (fun x h' hΨ => ?_)
  rcases hΨ with ⟨q1, rfl, rfl⟩ | ⟨q2, q3, rfl, rfl⟩ | ⟨q4, q5, rfl, rfl⟩
  · refine r_if_eq_t (tgt := 27) X dX12_candles_14 rfl (by decide +kernel) ?_
    refine r_iconst (v := -1) X dX12_candles_27 (by decide +kernel) ?_
    exact r_ret_i X hr hlk dX12_candles_28 (Nat.le_of_ble_eq_true rfl) (Nat.le_of_ble_eq_true rfl) ⟨_, rfl, by unfold sp_candles; (repeat' split) <;> first | rfl | (exfalso; have e0 : (-1 : Int32).toInt = -1 := (by decide); have e1 : (0 : Int32).toInt = 0 := (by decide); have e2 : (1 : Int32).toInt = 1 := (by decide); have e3 : (400 : Int32).toInt = 400 := (by decide); simp only [inR, Int32.lt_iff_toInt_lt, Int32.le_iff_toInt_le, ← Int32.toInt_inj, true_or, or_true, not_true_eq_false, and_true, true_and, false_or, or_false, false_and, and_false, not_false_eq_true] at * <;> omega)⟩
  · refine r_if_eq_t (tgt := 27) X dX12_candles_14 rfl (by decide +kernel) ?_
    refine r_iconst (v := -1) X dX12_candles_27 (by decide +kernel) ?_
    exact r_ret_i X hr hlk dX12_candles_28 (Nat.le_of_ble_eq_true rfl) (Nat.le_of_ble_eq_true rfl) ⟨_, rfl, by unfold sp_candles; (repeat' split) <;> first | rfl | (exfalso; have e0 : (-1 : Int32).toInt = -1 := (by decide); have e1 : (0 : Int32).toInt = 0 := (by decide); have e2 : (1 : Int32).toInt = 1 := (by decide); have e3 : (400 : Int32).toInt = 400 := (by decide); simp only [inR, Int32.lt_iff_toInt_lt, Int32.le_iff_toInt_le, ← Int32.toInt_inj, true_or, or_true, not_true_eq_false, and_true, true_and, false_or, or_false, false_and, and_false, not_false_eq_true] at * <;> omega)⟩
  · refine r_if_eq_f (tgt := 27) X dX12_candles_14 rfl (by decide +kernel) ?_
    refine r_aload_n X dX12_candles_17 rfl ?_
    refine r_iload_n X dX12_candles_18 rfl ?_
    refine r_iconst (v := 0) X dX12_candles_19 (by decide +kernel) ?_
    refine r_iconst (v := 1) X dX12_candles_20 (by decide +kernel) ?_
    refine r_V3i X kv_X12_155 dX12_candles_21 (apG (k := 0) hn rfl) rfl (km20_X12_isIn l G _ _ hn _ _) rfl (fun x h' hΨ => ?_)
    rcases hΨ with ⟨q6, rfl, rfl⟩ | ⟨q7, q8, rfl, rfl⟩ | ⟨q9, q10, rfl, rfl⟩
    · refine r_if_ne_f (tgt := 29) X dX12_candles_24 rfl (by decide +kernel) ?_
      refine r_iconst (v := -1) X dX12_candles_27 (by decide +kernel) ?_
      exact r_ret_i X hr hlk dX12_candles_28 (Nat.le_of_ble_eq_true rfl) (Nat.le_of_ble_eq_true rfl) ⟨_, rfl, by unfold sp_candles; (repeat' split) <;> first | rfl | (exfalso; have e0 : (-1 : Int32).toInt = -1 := (by decide); have e1 : (0 : Int32).toInt = 0 := (by decide); have e2 : (1 : Int32).toInt = 1 := (by decide); have e3 : (400 : Int32).toInt = 400 := (by decide); simp only [inR, Int32.lt_iff_toInt_lt, Int32.le_iff_toInt_le, ← Int32.toInt_inj, true_or, or_true, not_true_eq_false, and_true, true_and, false_or, or_false, false_and, and_false, not_false_eq_true] at * <;> omega)⟩
    · refine r_if_ne_f (tgt := 29) X dX12_candles_24 rfl (by decide +kernel) ?_
      refine r_iconst (v := -1) X dX12_candles_27 (by decide +kernel) ?_
      exact r_ret_i X hr hlk dX12_candles_28 (Nat.le_of_ble_eq_true rfl) (Nat.le_of_ble_eq_true rfl) ⟨_, rfl, by unfold sp_candles; (repeat' split) <;> first | rfl | (exfalso; have e0 : (-1 : Int32).toInt = -1 := (by decide); have e1 : (0 : Int32).toInt = 0 := (by decide); have e2 : (1 : Int32).toInt = 1 := (by decide); have e3 : (400 : Int32).toInt = 400 := (by decide); simp only [inR, Int32.lt_iff_toInt_lt, Int32.le_iff_toInt_le, ← Int32.toInt_inj, true_or, or_true, not_true_eq_false, and_true, true_and, false_or, or_false, false_and, and_false, not_false_eq_true] at * <;> omega)⟩
    · refine r_if_ne_t (tgt := 29) X dX12_candles_24 rfl (by decide +kernel) ?_
      refine r_iconst (v := 0) X dX12_candles_29 (by decide +kernel) ?_
      refine r_istore_n X dX12_candles_30 (by decide) ?_
      refine r_iload_n X dX12_candles_31 rfl ?_
      refine r_sipush (v := 400) X dX12_candles_32 (by decide +kernel) ?_
      refine r_icmp_gt_f (tgt := 59) X dX12_candles_35 rfl (by decide +kernel) ?_
      refine r_aload_n X dX12_candles_38 rfl ?_
      refine a_get (a := 0) X hn fg_X12_107 dX12_candles_39 rfl rfl ?_
      refine r_iload_n X dX12_candles_42 rfl ?_
      refine r_iload_n X dX12_candles_43 rfl ?_
      refine r_if_ne_f (tgt := 51) X dX12_candles_44 rfl (by decide +kernel) ?_
      refine r_iconst (v := 1) X dX12_candles_47 (by decide +kernel) ?_
      refine r_goto (tgt := 52) X dX12_candles_48 rfl ?_
      refine a_iast (a := 32) X hn dX12_candles_52 rfl (inK (by decide +kernel)) ?_
      refine r_iinc (v := 1) X dX12_candles_53 rfl (by decide +kernel) (by decide) ?_
      refine r_goto (tgt := 31) X dX12_candles_56 rfl ?_
      refine r_eq (h' := h0 ++ ((frM n wf).set 32 (eI 401 (upd (fun _ => 0) (0 : Int32).toNatClampNeg (1))))) (ls' := [some (vR (n + 0)), some (vI a), some (vI b), some (vI (nI (0 + 1))), none, none]) rfl rfl rfl ?_
      refine pw_loop1 400 (fun i0 => h0 ++ ((frM n wf).set 32 (eI 401 (upd (fun _ => 0) (0 : Int32).toNatClampNeg (1))))) (fun i0 => [some (vR (n + 0)), some (vI a), some (vI b), some (vI (nI (i0 + 1))), none, none]) ?_ ?_ 0 (by omega)
      · refine r_eq (h' := h0 ++ ((frM n wf).set 32 (eI 401 (upd (fun _ => 0) (0 : Int32).toNatClampNeg (1))))) (ls' := [some (vR (n + 0)), some (vI a), some (vI b), some (vI (nI (400 + 1))), none, none]) rfl rfl rfl ?_
        refine r_iload_n X dX12_candles_31 rfl ?_
        refine r_sipush (v := 400) X dX12_candles_32 (by decide +kernel) ?_
        refine r_icmp_gt_t (tgt := 59) X dX12_candles_35 rfl (by decide +kernel) ?_
        refine r_iconst (v := 0) X dX12_candles_59 (by decide +kernel) ?_
        refine r_istore_n X dX12_candles_60 (by decide) ?_
        refine r_iload_n X dX12_candles_61 rfl ?_
        refine r_aload_n X dX12_candles_62 rfl ?_
        refine a_get (a := 0) X hn fg_X12_479 dX12_candles_63 rfl rfl ?_
        refine r_icmp_ge_t (tgt := 123) X dX12_candles_66 rfl (by decide +kernel) ?_
        refine r_iconst (v := 0) X dX12_candles_123 (by decide +kernel) ?_
        refine r_istore_n X dX12_candles_124 (by decide) ?_
        refine r_iconst (v := 0) X dX12_candles_125 (by decide +kernel) ?_
        refine r_istore X dX12_candles_126 (by decide) ?_
        refine r_eq (ls' := [some (vR (n + 0)), some (vI a), some (vI b), some (vI 0), some (vI 0), none]) rfl rfl rfl ?_
        refine r_iconst (v := 0) X dX12_candles_128 (by decide +kernel) ?_
        refine r_istore X dX12_candles_129 (by decide) ?_
        refine r_iload X dX12_candles_131 rfl ?_
        refine r_iload_n X dX12_candles_133 rfl ?_
        refine r_icmp_gt_f (tgt := 168) X dX12_candles_134 rfl (by have e1 : (0 : Int32).toInt = 0 := (by decide); have e2 : (400 : Int32).toInt = 400 := (by decide); simp only [Int32.lt_iff_toInt_lt, Int32.le_iff_toInt_le, ← Int32.toInt_inj] at q4 q5 ⊢; omega) ?_
        refine r_iload_n X dX12_candles_137 rfl ?_
        refine r_aload_n X dX12_candles_138 rfl ?_
        refine a_get (a := 0) X hn fg_X12_107 dX12_candles_139 rfl rfl ?_
        refine r_iload X dX12_candles_142 rfl ?_
        refine a_iald (a := 32) (v := 1) X hn dX12_candles_144 rfl (inK (by decide +kernel)) (by rfl) ?_
        refine r_iaddE (v := 1) X dX12_candles_145 (by decide +kernel) ?_
        refine r_istore_n X dX12_candles_146 (by decide) ?_
        refine r_aload_n X dX12_candles_147 rfl ?_
        refine a_get (a := 0) X hn fg_X12_107 dX12_candles_148 rfl rfl ?_
        refine r_iload X dX12_candles_151 rfl ?_
        refine a_iald (a := 32) (v := 1) X hn dX12_candles_153 rfl (inK (by decide +kernel)) (by rfl) ?_
        refine r_iconst (v := 1) X dX12_candles_154 (by decide +kernel) ?_
        refine r_icmp_ne_f (tgt := 162) X dX12_candles_155 rfl (by decide +kernel) ?_
        refine r_iload X dX12_candles_158 rfl ?_
        refine r_istore X dX12_candles_160 (by decide) ?_
        refine r_iinc (v := 1) X dX12_candles_162 rfl (by decide +kernel) (by decide) ?_
        refine r_goto (tgt := 131) X dX12_candles_165 rfl ?_
        obtain ⟨j_a, hj_a, rfl⟩ : ∃ j : Nat, j ≤ 400 ∧ a = nI j := nI_of2 (M := 400) (by decide) (by have e1 : (0 : Int32).toInt = 0 := (by decide); have e2 : (400 : Int32).toInt = 400 := (by decide); simp only [Int32.lt_iff_toInt_lt, Int32.le_iff_toInt_le, ← Int32.toInt_inj] at q4 q5 ⊢; omega) (by have e1 : (0 : Int32).toInt = 0 := (by decide); have e2 : (400 : Int32).toInt = 400 := (by decide); simp only [Int32.lt_iff_toInt_lt, Int32.le_iff_toInt_le, ← Int32.toInt_inj] at q4 q5 ⊢; omega)
        refine r_eq (h' := h0 ++ ((frM n wf).set 32 (eI 401 (upd (fun _ => 0) (0 : Int32).toNatClampNeg (1))))) (ls' := [some (vR (n + 0)), some (vI (nI j_a)), some (vI b), some (vI 1), some (vI 0), some (vI (nI (0 + 1)))]) rfl rfl rfl ?_
        refine pw_loop1 j_a (fun i0 => h0 ++ ((frM n wf).set 32 (eI 401 (upd (fun _ => 0) (0 : Int32).toNatClampNeg (1))))) (fun i0 => [some (vR (n + 0)), some (vI (nI j_a)), some (vI b), some (vI 1), some (vI 0), some (vI (nI (i0 + 1)))]) ?_ ?_ 0 (by omega)
        · refine r_eq (h' := h0 ++ ((frM n wf).set 32 (eI 401 (upd (fun _ => 0) (0 : Int32).toNatClampNeg (1))))) (ls' := [some (vR (n + 0)), some (vI (nI j_a)), some (vI b), some (vI 1), some (vI 0), some (vI (nI (j_a + 1)))]) rfl rfl rfl ?_
          refine r_iload X dX12_candles_131 rfl ?_
          refine r_iload_n X dX12_candles_133 rfl ?_
          refine r_icmp_gt_t (tgt := 168) X dX12_candles_134 rfl (by have e0 : (nI (j_a + 1)).toInt = (((j_a + 1) : Nat) : Int) := toN (rfl) (by omega); have e1 : (nI j_a).toInt = ((j_a : Nat) : Int) := toN (rfl) (by omega); simp only [Int32.lt_iff_toInt_lt, Int32.le_iff_toInt_le, ← Int32.toInt_inj] at  ⊢; omega) ?_
          refine r_iload_n X dX12_candles_168 rfl ?_
          refine r_if_ne (tgt := 176) X dX12_candles_169 rfl (fun q11 => ?_) (fun q11 => ?_)
          · refine r_iload X dX12_candles_176 rfl ?_
            exact r_ret_i X hr hlk dX12_candles_178 (Nat.le_of_ble_eq_true rfl) (Nat.le_of_ble_eq_true rfl) ⟨_, rfl, by unfold sp_candles; (repeat' split) <;> first | rfl | (exfalso; have e0 : (-1 : Int32).toInt = -1 := (by decide); have e1 : (0 : Int32).toInt = 0 := (by decide); have e2 : (1 : Int32).toInt = 1 := (by decide); have e3 : (400 : Int32).toInt = 400 := (by decide); have en0 : (nI j_a).toInt = ((j_a : Nat) : Int) := toN rfl (by omega); simp only [inR, Int32.lt_iff_toInt_lt, Int32.le_iff_toInt_le, ← Int32.toInt_inj, true_or, or_true, not_true_eq_false, and_true, true_and, false_or, or_false, false_and, and_false, not_false_eq_true] at * <;> omega)⟩
          · refine r_iload_n X dX12_candles_172 rfl ?_
            refine r_goto (tgt := 178) X dX12_candles_173 rfl ?_
            exact r_ret_i X hr hlk dX12_candles_178 (Nat.le_of_ble_eq_true rfl) (Nat.le_of_ble_eq_true rfl) ⟨_, rfl, by unfold sp_candles; (repeat' split) <;> first | rfl | (exfalso; have e0 : (-1 : Int32).toInt = -1 := (by decide); have e1 : (0 : Int32).toInt = 0 := (by decide); have e2 : (1 : Int32).toInt = 1 := (by decide); have e3 : (400 : Int32).toInt = 400 := (by decide); have en0 : (nI j_a).toInt = ((j_a : Nat) : Int) := toN rfl (by omega); simp only [inR, Int32.lt_iff_toInt_lt, Int32.le_iff_toInt_le, ← Int32.toInt_inj, true_or, or_true, not_true_eq_false, and_true, true_and, false_or, or_false, false_and, and_false, not_false_eq_true] at * <;> omega)⟩
        · rintro i0 hi0 ih0 
          refine r_eq (h' := h0 ++ ((frM n wf).set 32 (eI 401 (upd (fun _ => 0) (0 : Int32).toNatClampNeg (1))))) (ls' := [some (vR (n + 0)), some (vI (nI j_a)), some (vI b), some (vI 1), some (vI 0), some (vI (nI (i0 + 1)))]) rfl rfl rfl ?_
          refine r_iload X dX12_candles_131 rfl ?_
          refine r_iload_n X dX12_candles_133 rfl ?_
          refine r_icmp_gt_f (tgt := 168) X dX12_candles_134 rfl (by have e0 : (nI (i0 + 1)).toInt = (((i0 + 1) : Nat) : Int) := toN (rfl) (by omega); have e1 : (nI j_a).toInt = ((j_a : Nat) : Int) := toN (rfl) (by omega); simp only [Int32.lt_iff_toInt_lt, Int32.le_iff_toInt_le, ← Int32.toInt_inj] at  ⊢; omega) ?_
          refine r_iload_n X dX12_candles_137 rfl ?_
          refine r_aload_n X dX12_candles_138 rfl ?_
          refine a_get (a := 0) X hn fg_X12_107 dX12_candles_139 rfl rfl ?_
          refine r_iload X dX12_candles_142 rfl ?_
          refine a_iald (a := 32) (v := 0) X hn dX12_candles_144 rfl (vin (k := (i0 + 1)) (rfl) (by omega) (by decide)) (by rw [show (nI (i0 + 1) : Int32) = nI (i0 + 1) from rfl, nI_clamp (by omega)]; rw [pk_un (by have : (0 : Int32).toNatClampNeg = 0 := (by decide); omega)]) ?_
          refine r_iaddE (v := 1) X dX12_candles_145 (by decide +kernel) ?_
          refine r_istore_n X dX12_candles_146 (by decide) ?_
          refine r_eq (ls' := [some (vR (n + 0)), some (vI (nI j_a)), some (vI b), some (vI 1), some (vI 0), some (vI (nI (i0 + 1)))]) rfl rfl rfl ?_
          refine r_aload_n X dX12_candles_147 rfl ?_
          refine a_get (a := 0) X hn fg_X12_107 dX12_candles_148 rfl rfl ?_
          refine r_iload X dX12_candles_151 rfl ?_
          refine a_iald (a := 32) (v := 0) X hn dX12_candles_153 rfl (vin (k := (i0 + 1)) (rfl) (by omega) (by decide)) (by rw [show (nI (i0 + 1) : Int32) = nI (i0 + 1) from rfl, nI_clamp (by omega)]; rw [pk_un (by have : (0 : Int32).toNatClampNeg = 0 := (by decide); omega)]) ?_
          refine r_iconst (v := 1) X dX12_candles_154 (by decide +kernel) ?_
          refine r_icmp_ne_t (tgt := 162) X dX12_candles_155 rfl (by decide +kernel) ?_
          refine r_iinc (v := nI ((i0 + 1) + 1)) X dX12_candles_162 rfl (nadd (rfl) rfl) (by decide) ?_
          refine r_goto (tgt := 131) X dX12_candles_165 rfl ?_
          exact r_eq (h' := h0 ++ ((frM n wf).set 32 (eI 401 (upd (fun _ => 0) (0 : Int32).toNatClampNeg (1))))) (ls' := [some (vR (n + 0)), some (vI (nI j_a)), some (vI b), some (vI 1), some (vI 0), some (vI (nI ((i0 + 1) + 1)))]) (st' := []) rfl rfl rfl (ih0)
      · rintro i0 hi0 ih0 
        refine r_eq (h' := h0 ++ ((frM n wf).set 32 (eI 401 (upd (fun _ => 0) (0 : Int32).toNatClampNeg (1))))) (ls' := [some (vR (n + 0)), some (vI a), some (vI b), some (vI (nI (i0 + 1))), none, none]) rfl rfl rfl ?_
        refine r_iload_n X dX12_candles_31 rfl ?_
        refine r_sipush (v := 400) X dX12_candles_32 (by decide +kernel) ?_
        refine r_icmp_gt_f (tgt := 59) X dX12_candles_35 rfl (by have e0 : (400 : Int32).toInt = 400 := (by decide); have e1 : (nI (i0 + 1)).toInt = (((i0 + 1) : Nat) : Int) := toN (rfl) (by omega); simp only [Int32.lt_iff_toInt_lt, Int32.le_iff_toInt_le, ← Int32.toInt_inj] at  ⊢; omega) ?_
        refine r_aload_n X dX12_candles_38 rfl ?_
        refine a_get (a := 0) X hn fg_X12_107 dX12_candles_39 rfl rfl ?_
        refine r_iload_n X dX12_candles_42 rfl ?_
        refine r_iload_n X dX12_candles_43 rfl ?_
        refine r_if_ne_t (tgt := 51) X dX12_candles_44 rfl (by have e0 : (0 : Int32).toInt = 0 := (by decide); have e1 : (nI (i0 + 1)).toInt = (((i0 + 1) : Nat) : Int) := toN (rfl) (by omega); simp only [Int32.lt_iff_toInt_lt, Int32.le_iff_toInt_le, ← Int32.toInt_inj] at  ⊢; omega) ?_
        refine r_iconst (v := 0) X dX12_candles_51 (by decide +kernel) ?_
        refine a_iastE (a := 32) (f' := upd (fun _ => 0) (0 : Int32).toNatClampNeg (1)) X hn dX12_candles_52 rfl (vin (k := (i0 + 1)) (rfl) (by omega) (by decide)) (upd_k (by rw [show (nI (i0 + 1) : Int32) = nI (i0 + 1) from rfl, nI_clamp (by omega)]; rw [pk_un (by have : (0 : Int32).toNatClampNeg = 0 := (by decide); omega)])) ?_
        refine r_eq (h' := h0 ++ ((frM n wf).set 32 (eI 401 (upd (fun _ => 0) (0 : Int32).toNatClampNeg (1))))) rfl rfl rfl ?_
        refine r_iinc (v := nI ((i0 + 1) + 1)) X dX12_candles_53 rfl (nadd (rfl) rfl) (by decide) ?_
        refine r_goto (tgt := 31) X dX12_candles_56 rfl ?_
        exact r_eq (h' := h0 ++ ((frM n wf).set 32 (eI 401 (upd (fun _ => 0) (0 : Int32).toNatClampNeg (1))))) (ls' := [some (vR (n + 0)), some (vI a), some (vI b), some (vI (nI ((i0 + 1) + 1))), none, none]) (st' := []) rfl rfl rfl (ih0)
