set_option maxRecDepth 100000 in
set_option maxHeartbeats 4000000 in
theorem km34_X12_markMany (l : Launch) (G : PG) (h0 : PH) (n : Nat) (hn : h0.length = n) (wf : Nat → Int32) : PMet l G yX12_markMany cX12_markMany 3 (some .int) 1 0 0 [vR (n + 0)] (h0 ++ (frM n wf)) (qI (fun x h' => x = 0 ∧ h' = h0 ++ (frM n wf))) := by
  refine PMet.intro (by decide) (Nat.le_of_ble_eq_true rfl) ?_
  intro p e s m args below meth c X hr hlk hnm
  refine r_iconst (v := 0) X dX12_markMany_0 (by decide +kernel) ?_
  refine r_istore_n X dX12_markMany_1 (by decide) ?_
  refine r_iconst (v := 0) X dX12_markMany_2 (by decide +kernel) ?_
  refine r_istore_n X dX12_markMany_3 (by decide) ?_
  refine r_eq (h' := h0 ++ (frM n wf)) (ls' := [some (vR (n + 0)), some (vI 0), some (vI (nI 0))]) rfl rfl rfl ?_
  refine pw_loop1 144 (fun i0 => h0 ++ (frM n wf)) (fun i0 => [some (vR (n + 0)), some (vI 0), some (vI (nI i0))]) ?_ ?_ 0 (by omega)
  · refine r_eq (h' := h0 ++ (frM n wf)) (ls' := [some (vR (n + 0)), some (vI 0), some (vI (nI 144))]) rfl rfl rfl ?_
    refine r_iload_n X dX12_markMany_4 rfl ?_
    refine r_sipush (v := 144) X dX12_markMany_5 (by decide +kernel) ?_
    refine r_icmp_ge_t (tgt := 29) X dX12_markMany_8 rfl (by decide +kernel) ?_
    refine r_iload_n X dX12_markMany_29 rfl ?_
    exact r_ret_i X hr hlk dX12_markMany_30 (Nat.le_of_ble_eq_true rfl) (Nat.le_of_ble_eq_true rfl) ⟨_, rfl, ⟨rfl, rfl⟩⟩
  · rintro i0 hi0 ih0 
    refine r_eq (h' := h0 ++ (frM n wf)) (ls' := [some (vR (n + 0)), some (vI 0), some (vI (nI i0))]) rfl rfl rfl ?_
    refine r_iload_n X dX12_markMany_4 rfl ?_
    refine r_sipush (v := 144) X dX12_markMany_5 (by decide +kernel) ?_
    refine r_icmp_ge_f (tgt := 29) X dX12_markMany_8 rfl (by have e0 : (144 : Int32).toInt = 144 := (by decide); have e1 : (nI i0).toInt = ((i0 : Nat) : Int) := toN (rfl) (by omega); simp only [Int32.lt_iff_toInt_lt, Int32.le_iff_toInt_le, ← Int32.toInt_inj] at  ⊢; omega) ?_
    refine r_aload_n X dX12_markMany_11 rfl ?_
    refine r_iload_n X dX12_markMany_12 rfl ?_
    refine r_V1i X kv_X12_332 dX12_markMany_13 (apG (k := 0) hn rfl) rfl (km8_X12_isMarked l G _ _ hn _ _ (by omega)) rfl (fun x h' hΨ => ?_)
    obtain ⟨rfl, rfl⟩ := hΨ
    refine r_if_eq_t (tgt := 23) X dX12_markMany_16 rfl (by decide +kernel) ?_
    refine r_iinc (v := nI (i0 + 1)) X dX12_markMany_23 rfl (nadd (rfl) rfl) (by decide) ?_
    refine r_goto (tgt := 4) X dX12_markMany_26 rfl ?_
    exact r_eq (h' := h0 ++ (frM n wf)) (ls' := [some (vR (n + 0)), some (vI 0), some (vI (nI (i0 + 1)))]) (st' := []) rfl rfl rfl (ih0)
set_option maxRecDepth 100000 in
set_option maxHeartbeats 4000000 in
theorem m_look (l : Launch) (G : PG) (h0 : PH) (n : Nat) (hn : h0.length = n) (wf : Nat → Int32) (a : Int32) : PMet l G yX12_look cX12_look 2 (some .int) 2 0 0 [vR (n + 0), vI a] (h0 ++ (frM n wf)) (qI (fun x h' => x = sp_look a)) := by
  refine PMet.intro (by decide) (Nat.le_of_ble_eq_true rfl) ?_
  intro p e s m args below meth c X hr hlk hnm
  refine r_aload_n X dX12_look_0 rfl ?_
  refine r_iconst (v := 0) X dX12_look_1 (by decide +kernel) ?_
  refine a_put (a := 0) X hn fp_X12_140 dX12_look_2 rfl rfl rfl rfl ?_
  refine r_eq (h' := h0 ++ (frM n wf)) rfl rfl rfl ?_
  refine r_iload_n X dX12_look_5 rfl ?_
  refine r_if_ne (tgt := 14) X dX12_look_6 rfl (fun q1 => ?_) (fun q1 => ?_)
  · refine r_iload_n X dX12_look_14 rfl ?_
    refine r_iconst (v := 1) X dX12_look_15 (by decide +kernel) ?_
    refine r_icmp_ne (tgt := 24) X dX12_look_16 rfl (fun q2 => ?_) (fun q2 => ?_)
    · refine r_iload_n X dX12_look_24 rfl ?_
      refine r_iconst (v := 2) X dX12_look_25 (by decide +kernel) ?_
      refine r_icmp_ne (tgt := 36) X dX12_look_26 rfl (fun q3 => ?_) (fun q3 => ?_)
      · refine r_iload_n X dX12_look_36 rfl ?_
        refine r_iconst (v := 3) X dX12_look_37 (by decide +kernel) ?_
        refine r_icmp_ne (tgt := 48) X dX12_look_38 rfl (fun q4 => ?_) (fun q4 => ?_)
        · refine r_iload_n X dX12_look_48 rfl ?_
          refine r_iconst (v := 4) X dX12_look_49 (by decide +kernel) ?_
          refine r_icmp_ne (tgt := 60) X dX12_look_50 rfl (fun q5 => ?_) (fun q5 => ?_)
          · refine r_iload_n X dX12_look_60 rfl ?_
            refine r_iconst (v := 5) X dX12_look_61 (by decide +kernel) ?_
            refine r_icmp_ne (tgt := 72) X dX12_look_62 rfl (fun q6 => ?_) (fun q6 => ?_)
            · refine r_iload_n X dX12_look_72 rfl ?_
              refine r_bipush (v := 6) X dX12_look_73 (by decide +kernel) ?_
              refine r_icmp_ne (tgt := 86) X dX12_look_75 rfl (fun q7 => ?_) (fun q7 => ?_)
              · refine r_iload_n X dX12_look_86 rfl ?_
                refine r_bipush (v := 7) X dX12_look_87 (by decide +kernel) ?_
                refine r_icmp_ne (tgt := 99) X dX12_look_89 rfl (fun q8 => ?_) (fun q8 => ?_)
                · refine r_iload_n X dX12_look_99 rfl ?_
                  refine r_bipush (v := 8) X dX12_look_100 (by decide +kernel) ?_
                  refine r_icmp_ne (tgt := 112) X dX12_look_102 rfl (fun q9 => ?_) (fun q9 => ?_)
                  · refine r_iload_n X dX12_look_112 rfl ?_
                    refine r_bipush (v := 9) X dX12_look_113 (by decide +kernel) ?_
                    refine r_icmp_ne (tgt := 125) X dX12_look_115 rfl (fun q10 => ?_) (fun q10 => ?_)
                    · refine r_iload_n X dX12_look_125 rfl ?_
                      refine r_bipush (v := 10) X dX12_look_126 (by decide +kernel) ?_
                      refine r_icmp_ne (tgt := 136) X dX12_look_128 rfl (fun q11 => ?_) (fun q11 => ?_)
                      · refine r_iload_n X dX12_look_136 rfl ?_
                        refine r_bipush (v := 11) X dX12_look_137 (by decide +kernel) ?_
                        refine r_icmp_ne (tgt := 147) X dX12_look_139 rfl (fun q12 => ?_) (fun q12 => ?_)
                        · refine r_iload_n X dX12_look_147 rfl ?_
                          refine r_bipush (v := 12) X dX12_look_148 (by decide +kernel) ?_
                          refine r_icmp_ne (tgt := 158) X dX12_look_150 rfl (fun q13 => ?_) (fun q13 => ?_)
                          · refine r_iload_n X dX12_look_158 rfl ?_
                            refine r_bipush (v := 13) X dX12_look_159 (by decide +kernel) ?_
                            refine r_icmp_ne (tgt := 171) X dX12_look_161 rfl (fun q14 => ?_) (fun q14 => ?_)
                            · refine r_iconst (v := -1) X dX12_look_171 (by decide +kernel) ?_
                              exact r_ret_i X hr hlk dX12_look_172 (Nat.le_of_ble_eq_true rfl) (Nat.le_of_ble_eq_true rfl) ⟨_, rfl, by unfold sp_look; (repeat' split) <;> first | rfl | (exfalso; have e0 : (-1 : Int32).toInt = -1 := (by decide); have e1 : (0 : Int32).toInt = 0 := (by decide); have e2 : (1 : Int32).toInt = 1 := (by decide); have e3 : (10 : Int32).toInt = 10 := (by decide); have e4 : (11 : Int32).toInt = 11 := (by decide); have e5 : (12 : Int32).toInt = 12 := (by decide); have e6 : (13 : Int32).toInt = 13 := (by decide); have e7 : (2 : Int32).toInt = 2 := (by decide); have e8 : (3 : Int32).toInt = 3 := (by decide); have e9 : (4 : Int32).toInt = 4 := (by decide); have e10 : (5 : Int32).toInt = 5 := (by decide); have e11 : (6 : Int32).toInt = 6 := (by decide); have e12 : (7 : Int32).toInt = 7 := (by decide); have e13 : (8 : Int32).toInt = 8 := (by decide); have e14 : (9 : Int32).toInt = 9 := (by decide); simp only [inR, Int32.lt_iff_toInt_lt, Int32.le_iff_toInt_le, ← Int32.toInt_inj, true_or, or_true, not_true_eq_false, and_true, true_and, false_or, or_false, false_and, and_false, not_false_eq_true] at * <;> omega)⟩
                            · refine r_aload_n X dX12_look_164 rfl ?_
                              refine a_get (a := 0) X hn fg_X12_143 dX12_look_165 rfl rfl ?_
                              refine r_goto (tgt := 172) X dX12_look_168 rfl ?_
                              exact r_ret_i X hr hlk dX12_look_172 (Nat.le_of_ble_eq_true rfl) (Nat.le_of_ble_eq_true rfl) ⟨_, rfl, by unfold sp_look; (repeat' split) <;> first | rfl | (exfalso; have e0 : (-1 : Int32).toInt = -1 := (by decide); have e1 : (0 : Int32).toInt = 0 := (by decide); have e2 : (1 : Int32).toInt = 1 := (by decide); have e3 : (10 : Int32).toInt = 10 := (by decide); have e4 : (11 : Int32).toInt = 11 := (by decide); have e5 : (12 : Int32).toInt = 12 := (by decide); have e6 : (13 : Int32).toInt = 13 := (by decide); have e7 : (2 : Int32).toInt = 2 := (by decide); have e8 : (3 : Int32).toInt = 3 := (by decide); have e9 : (4 : Int32).toInt = 4 := (by decide); have e10 : (5 : Int32).toInt = 5 := (by decide); have e11 : (6 : Int32).toInt = 6 := (by decide); have e12 : (7 : Int32).toInt = 7 := (by decide); have e13 : (8 : Int32).toInt = 8 := (by decide); have e14 : (9 : Int32).toInt = 9 := (by decide); simp only [inR, Int32.lt_iff_toInt_lt, Int32.le_iff_toInt_le, ← Int32.toInt_inj, true_or, or_true, not_true_eq_false, and_true, true_and, false_or, or_false, false_and, and_false, not_false_eq_true] at * <;> omega)⟩
                          · refine r_aload_n X dX12_look_153 rfl ?_
                            refine a_get (a := 0) X hn fg_X12_305 dX12_look_154 rfl rfl ?_
                            exact r_ret_i X hr hlk dX12_look_157 (Nat.le_of_ble_eq_true rfl) (Nat.le_of_ble_eq_true rfl) ⟨_, rfl, by unfold sp_look; (repeat' split) <;> first | rfl | (exfalso; have e0 : (-1 : Int32).toInt = -1 := (by decide); have e1 : (0 : Int32).toInt = 0 := (by decide); have e2 : (1 : Int32).toInt = 1 := (by decide); have e3 : (10 : Int32).toInt = 10 := (by decide); have e4 : (11 : Int32).toInt = 11 := (by decide); have e5 : (12 : Int32).toInt = 12 := (by decide); have e6 : (13 : Int32).toInt = 13 := (by decide); have e7 : (2 : Int32).toInt = 2 := (by decide); have e8 : (3 : Int32).toInt = 3 := (by decide); have e9 : (4 : Int32).toInt = 4 := (by decide); have e10 : (5 : Int32).toInt = 5 := (by decide); have e11 : (6 : Int32).toInt = 6 := (by decide); have e12 : (7 : Int32).toInt = 7 := (by decide); have e13 : (8 : Int32).toInt = 8 := (by decide); have e14 : (9 : Int32).toInt = 9 := (by decide); simp only [inR, Int32.lt_iff_toInt_lt, Int32.le_iff_toInt_le, ← Int32.toInt_inj, true_or, or_true, not_true_eq_false, and_true, true_and, false_or, or_false, false_and, and_false, not_false_eq_true] at * <;> omega)⟩
                        · refine r_aload_n X dX12_look_142 rfl ?_
                          refine a_get (a := 0) X hn fg_X12_311 dX12_look_143 rfl rfl ?_
                          exact r_ret_i X hr hlk dX12_look_146 (Nat.le_of_ble_eq_true rfl) (Nat.le_of_ble_eq_true rfl) ⟨_, rfl, by unfold sp_look; (repeat' split) <;> first | rfl | (exfalso; have e0 : (-1 : Int32).toInt = -1 := (by decide); have e1 : (0 : Int32).toInt = 0 := (by decide); have e2 : (1 : Int32).toInt = 1 := (by decide); have e3 : (10 : Int32).toInt = 10 := (by decide); have e4 : (11 : Int32).toInt = 11 := (by decide); have e5 : (13 : Int32).toInt = 13 := (by decide); have e6 : (2 : Int32).toInt = 2 := (by decide); have e7 : (3 : Int32).toInt = 3 := (by decide); have e8 : (4 : Int32).toInt = 4 := (by decide); have e9 : (5 : Int32).toInt = 5 := (by decide); have e10 : (6 : Int32).toInt = 6 := (by decide); have e11 : (7 : Int32).toInt = 7 := (by decide); have e12 : (8 : Int32).toInt = 8 := (by decide); have e13 : (9 : Int32).toInt = 9 := (by decide); simp only [inR, Int32.lt_iff_toInt_lt, Int32.le_iff_toInt_le, ← Int32.toInt_inj, true_or, or_true, not_true_eq_false, and_true, true_and, false_or, or_false, false_and, and_false, not_false_eq_true] at * <;> omega)⟩
                      · refine r_aload_n X dX12_look_131 rfl ?_
                        refine a_get (a := 0) X hn fg_X12_308 dX12_look_132 rfl rfl ?_
                        exact r_ret_i X hr hlk dX12_look_135 (Nat.le_of_ble_eq_true rfl) (Nat.le_of_ble_eq_true rfl) ⟨_, rfl, by unfold sp_look; (repeat' split) <;> first | rfl | (exfalso; have e0 : (-1 : Int32).toInt = -1 := (by decide); have e1 : (0 : Int32).toInt = 0 := (by decide); have e2 : (1 : Int32).toInt = 1 := (by decide); have e3 : (10 : Int32).toInt = 10 := (by decide); have e4 : (13 : Int32).toInt = 13 := (by decide); have e5 : (2 : Int32).toInt = 2 := (by decide); have e6 : (3 : Int32).toInt = 3 := (by decide); have e7 : (4 : Int32).toInt = 4 := (by decide); have e8 : (5 : Int32).toInt = 5 := (by decide); have e9 : (6 : Int32).toInt = 6 := (by decide); have e10 : (7 : Int32).toInt = 7 := (by decide); have e11 : (8 : Int32).toInt = 8 := (by decide); have e12 : (9 : Int32).toInt = 9 := (by decide); simp only [inR, Int32.lt_iff_toInt_lt, Int32.le_iff_toInt_le, ← Int32.toInt_inj, true_or, or_true, not_true_eq_false, and_true, true_and, false_or, or_false, false_and, and_false, not_false_eq_true] at * <;> omega)⟩
                    · refine r_aload_n X dX12_look_118 rfl ?_
                      refine a_get (a := 0) X hn fg_X12_37 dX12_look_119 rfl rfl ?_
                      refine r_iconst (v := 0) X dX12_look_122 (by decide +kernel) ?_
                      refine a_iald (a := 10) (v := 0) X hn dX12_look_123 rfl (inK (by decide +kernel)) (by rfl) ?_
                      exact r_ret_i X hr hlk dX12_look_124 (Nat.le_of_ble_eq_true rfl) (Nat.le_of_ble_eq_true rfl) ⟨_, rfl, by unfold sp_look; (repeat' split) <;> first | rfl | (exfalso; have e0 : (-1 : Int32).toInt = -1 := (by decide); have e1 : (0 : Int32).toInt = 0 := (by decide); have e2 : (1 : Int32).toInt = 1 := (by decide); have e3 : (13 : Int32).toInt = 13 := (by decide); have e4 : (2 : Int32).toInt = 2 := (by decide); have e5 : (3 : Int32).toInt = 3 := (by decide); have e6 : (4 : Int32).toInt = 4 := (by decide); have e7 : (5 : Int32).toInt = 5 := (by decide); have e8 : (6 : Int32).toInt = 6 := (by decide); have e9 : (7 : Int32).toInt = 7 := (by decide); have e10 : (8 : Int32).toInt = 8 := (by decide); have e11 : (9 : Int32).toInt = 9 := (by decide); simp only [inR, Int32.lt_iff_toInt_lt, Int32.le_iff_toInt_le, ← Int32.toInt_inj, true_or, or_true, not_true_eq_false, and_true, true_and, false_or, or_false, false_and, and_false, not_false_eq_true] at * <;> omega)⟩
                  · refine r_aload_n X dX12_look_105 rfl ?_
                    refine a_get (a := 0) X hn fg_X12_7 dX12_look_106 rfl rfl ?_
                    refine r_iconst (v := 2) X dX12_look_109 (by decide +kernel) ?_
                    refine a_iald (a := 1) (v := 0) X hn dX12_look_110 rfl (inK (by decide +kernel)) (by rfl) ?_
                    exact r_ret_i X hr hlk dX12_look_111 (Nat.le_of_ble_eq_true rfl) (Nat.le_of_ble_eq_true rfl) ⟨_, rfl, by unfold sp_look; (repeat' split) <;> first | rfl | (exfalso; have e0 : (-1 : Int32).toInt = -1 := (by decide); have e1 : (0 : Int32).toInt = 0 := (by decide); have e2 : (1 : Int32).toInt = 1 := (by decide); have e3 : (13 : Int32).toInt = 13 := (by decide); have e4 : (2 : Int32).toInt = 2 := (by decide); have e5 : (3 : Int32).toInt = 3 := (by decide); have e6 : (4 : Int32).toInt = 4 := (by decide); have e7 : (5 : Int32).toInt = 5 := (by decide); have e8 : (6 : Int32).toInt = 6 := (by decide); have e9 : (7 : Int32).toInt = 7 := (by decide); have e10 : (8 : Int32).toInt = 8 := (by decide); simp only [inR, Int32.lt_iff_toInt_lt, Int32.le_iff_toInt_le, ← Int32.toInt_inj, true_or, or_true, not_true_eq_false, and_true, true_and, false_or, or_false, false_and, and_false, not_false_eq_true] at * <;> omega)⟩
                · refine r_aload_n X dX12_look_92 rfl ?_
                  refine a_get (a := 0) X hn fg_X12_7 dX12_look_93 rfl rfl ?_
                  refine r_iconst (v := 3) X dX12_look_96 (by decide +kernel) ?_
                  refine a_iald (a := 1) (v := 0) X hn dX12_look_97 rfl (inK (by decide +kernel)) (by rfl) ?_
                  exact r_ret_i X hr hlk dX12_look_98 (Nat.le_of_ble_eq_true rfl) (Nat.le_of_ble_eq_true rfl) ⟨_, rfl, by unfold sp_look; (repeat' split) <;> first | rfl | (exfalso; have e0 : (-1 : Int32).toInt = -1 := (by decide); have e1 : (0 : Int32).toInt = 0 := (by decide); have e2 : (1 : Int32).toInt = 1 := (by decide); have e3 : (13 : Int32).toInt = 13 := (by decide); have e4 : (2 : Int32).toInt = 2 := (by decide); have e5 : (3 : Int32).toInt = 3 := (by decide); have e6 : (4 : Int32).toInt = 4 := (by decide); have e7 : (5 : Int32).toInt = 5 := (by decide); have e8 : (6 : Int32).toInt = 6 := (by decide); have e9 : (7 : Int32).toInt = 7 := (by decide); simp only [inR, Int32.lt_iff_toInt_lt, Int32.le_iff_toInt_le, ← Int32.toInt_inj, true_or, or_true, not_true_eq_false, and_true, true_and, false_or, or_false, false_and, and_false, not_false_eq_true] at * <;> omega)⟩
              · refine r_aload_n X dX12_look_78 rfl ?_
                refine a_get (a := 0) X hn fg_X12_7 dX12_look_79 rfl rfl ?_
                refine r_bipush (v := 6) X dX12_look_82 (by decide +kernel) ?_
                refine a_iald (a := 1) (v := 0) X hn dX12_look_84 rfl (inK (by decide +kernel)) (by rfl) ?_
                exact r_ret_i X hr hlk dX12_look_85 (Nat.le_of_ble_eq_true rfl) (Nat.le_of_ble_eq_true rfl) ⟨_, rfl, by unfold sp_look; (repeat' split) <;> first | rfl | (exfalso; have e0 : (-1 : Int32).toInt = -1 := (by decide); have e1 : (0 : Int32).toInt = 0 := (by decide); have e2 : (1 : Int32).toInt = 1 := (by decide); have e3 : (13 : Int32).toInt = 13 := (by decide); have e4 : (2 : Int32).toInt = 2 := (by decide); have e5 : (3 : Int32).toInt = 3 := (by decide); have e6 : (4 : Int32).toInt = 4 := (by decide); have e7 : (5 : Int32).toInt = 5 := (by decide); have e8 : (6 : Int32).toInt = 6 := (by decide); simp only [inR, Int32.lt_iff_toInt_lt, Int32.le_iff_toInt_le, ← Int32.toInt_inj, true_or, or_true, not_true_eq_false, and_true, true_and, false_or, or_false, false_and, and_false, not_false_eq_true] at * <;> omega)⟩
            · refine r_aload_n X dX12_look_65 rfl ?_
              refine a_get (a := 0) X hn fg_X12_7 dX12_look_66 rfl rfl ?_
              refine r_iconst (v := 5) X dX12_look_69 (by decide +kernel) ?_
              refine a_iald (a := 1) (v := 0) X hn dX12_look_70 rfl (inK (by decide +kernel)) (by rfl) ?_
              exact r_ret_i X hr hlk dX12_look_71 (Nat.le_of_ble_eq_true rfl) (Nat.le_of_ble_eq_true rfl) ⟨_, rfl, by unfold sp_look; (repeat' split) <;> first | rfl | (exfalso; have e0 : (-1 : Int32).toInt = -1 := (by decide); have e1 : (0 : Int32).toInt = 0 := (by decide); have e2 : (1 : Int32).toInt = 1 := (by decide); have e3 : (13 : Int32).toInt = 13 := (by decide); have e4 : (2 : Int32).toInt = 2 := (by decide); have e5 : (3 : Int32).toInt = 3 := (by decide); have e6 : (4 : Int32).toInt = 4 := (by decide); have e7 : (5 : Int32).toInt = 5 := (by decide); simp only [inR, Int32.lt_iff_toInt_lt, Int32.le_iff_toInt_le, ← Int32.toInt_inj, true_or, or_true, not_true_eq_false, and_true, true_and, false_or, or_false, false_and, and_false, not_false_eq_true] at * <;> omega)⟩
          · refine r_aload_n X dX12_look_53 rfl ?_
            refine a_get (a := 0) X hn fg_X12_7 dX12_look_54 rfl rfl ?_
            refine r_iconst (v := 0) X dX12_look_57 (by decide +kernel) ?_
            refine a_iald (a := 1) (v := 0) X hn dX12_look_58 rfl (inK (by decide +kernel)) (by rfl) ?_
            exact r_ret_i X hr hlk dX12_look_59 (Nat.le_of_ble_eq_true rfl) (Nat.le_of_ble_eq_true rfl) ⟨_, rfl, by unfold sp_look; (repeat' split) <;> first | rfl | (exfalso; have e0 : (-1 : Int32).toInt = -1 := (by decide); have e1 : (0 : Int32).toInt = 0 := (by decide); have e2 : (1 : Int32).toInt = 1 := (by decide); have e3 : (13 : Int32).toInt = 13 := (by decide); have e4 : (2 : Int32).toInt = 2 := (by decide); have e5 : (3 : Int32).toInt = 3 := (by decide); have e6 : (4 : Int32).toInt = 4 := (by decide); simp only [inR, Int32.lt_iff_toInt_lt, Int32.le_iff_toInt_le, ← Int32.toInt_inj, true_or, or_true, not_true_eq_false, and_true, true_and, false_or, or_false, false_and, and_false, not_false_eq_true] at * <;> omega)⟩
        · refine r_aload_n X dX12_look_41 rfl ?_
          refine a_get (a := 0) X hn fg_X12_7 dX12_look_42 rfl rfl ?_
          refine r_iconst (v := 1) X dX12_look_45 (by decide +kernel) ?_
          refine a_iald (a := 1) (v := 0) X hn dX12_look_46 rfl (inK (by decide +kernel)) (by rfl) ?_
          exact r_ret_i X hr hlk dX12_look_47 (Nat.le_of_ble_eq_true rfl) (Nat.le_of_ble_eq_true rfl) ⟨_, rfl, by unfold sp_look; (repeat' split) <;> first | rfl | (exfalso; have e0 : (-1 : Int32).toInt = -1 := (by decide); have e1 : (0 : Int32).toInt = 0 := (by decide); have e2 : (1 : Int32).toInt = 1 := (by decide); have e3 : (13 : Int32).toInt = 13 := (by decide); have e4 : (2 : Int32).toInt = 2 := (by decide); have e5 : (3 : Int32).toInt = 3 := (by decide); simp only [inR, Int32.lt_iff_toInt_lt, Int32.le_iff_toInt_le, ← Int32.toInt_inj, true_or, or_true, not_true_eq_false, and_true, true_and, false_or, or_false, false_and, and_false, not_false_eq_true] at * <;> omega)⟩
      · refine r_aload_n X dX12_look_29 rfl ?_
        refine a_get (a := 0) X hn fg_X12_7 dX12_look_30 rfl rfl ?_
        refine r_iconst (v := 4) X dX12_look_33 (by decide +kernel) ?_
        refine a_iald (a := 1) (v := 0) X hn dX12_look_34 rfl (inK (by decide +kernel)) (by rfl) ?_
        exact r_ret_i X hr hlk dX12_look_35 (Nat.le_of_ble_eq_true rfl) (Nat.le_of_ble_eq_true rfl) ⟨_, rfl, by unfold sp_look; (repeat' split) <;> first | rfl | (exfalso; have e0 : (-1 : Int32).toInt = -1 := (by decide); have e1 : (0 : Int32).toInt = 0 := (by decide); have e2 : (1 : Int32).toInt = 1 := (by decide); have e3 : (13 : Int32).toInt = 13 := (by decide); have e4 : (2 : Int32).toInt = 2 := (by decide); simp only [inR, Int32.lt_iff_toInt_lt, Int32.le_iff_toInt_le, ← Int32.toInt_inj, true_or, or_true, not_true_eq_false, and_true, true_and, false_or, or_false, false_and, and_false, not_false_eq_true] at * <;> omega)⟩
    · refine r_aload_n X dX12_look_19 rfl ?_
      refine r_V0i X kv_X12_409 dX12_look_20 (apG (k := 0) hn rfl) rfl (km34_X12_markMany l G _ _ hn _) rfl (fun x h' hΨ => ?_)
      obtain ⟨rfl, rfl⟩ := hΨ
      exact r_ret_i X hr hlk dX12_look_23 (Nat.le_of_ble_eq_true rfl) (Nat.le_of_ble_eq_true rfl) ⟨_, rfl, by unfold sp_look; (repeat' split) <;> first | rfl | (exfalso; have e0 : (-1 : Int32).toInt = -1 := (by decide); have e1 : (0 : Int32).toInt = 0 := (by decide); have e2 : (1 : Int32).toInt = 1 := (by decide); have e3 : (13 : Int32).toInt = 13 := (by decide); simp only [inR, Int32.lt_iff_toInt_lt, Int32.le_iff_toInt_le, ← Int32.toInt_inj, true_or, or_true, not_true_eq_false, and_true, true_and, false_or, or_false, false_and, and_false, not_false_eq_true] at * <;> omega)⟩
  · refine r_aload_n X dX12_look_9 rfl ?_
    refine a_get (a := 0) X hn fg_X12_152 dX12_look_10 rfl rfl ?_
    exact r_ret_i X hr hlk dX12_look_13 (Nat.le_of_ble_eq_true rfl) (Nat.le_of_ble_eq_true rfl) ⟨_, rfl, by unfold sp_look; (repeat' split) <;> first | rfl | (exfalso; have e0 : (-1 : Int32).toInt = -1 := (by decide); have e1 : (0 : Int32).toInt = 0 := (by decide); have e2 : (13 : Int32).toInt = 13 := (by decide); simp only [inR, Int32.lt_iff_toInt_lt, Int32.le_iff_toInt_le, ← Int32.toInt_inj, true_or, or_true, not_true_eq_false, and_true, true_and, false_or, or_false, false_and, and_false, not_false_eq_true] at * <;> omega)⟩
