set_option maxRecDepth 100000 in
set_option maxHeartbeats 4000000 in
theorem kx25_X5_take (l : Launch) (G : PG) (h0 : PH) (n : Nat) (hn : h0.length = n) (T : PH) (z0 : Int32) : PMet l G yX5_take cX5_take 3 none 0 0 0 [vR (n + 79), vI z0] (h0 ++ (frC n ++ T)) (qV (fun h' => ∃ g4 : Nat → Int32, h' = h0 ++ (((frC n ++ T).set 79 (eO 5 [vR (n + 80), vI 4, vI 0, vI 0, vI 0, vI 2, vI 0, vI 0, vI ((-1)), vI 0, vR (n + 81), vI 0, vR (n + 82), vI 0])).set 80 (eI 400 g4)))) := by
  refine PMet.intro (by decide) (Nat.le_of_ble_eq_true rfl) ?_
  intro p e s m args below meth c X hr hlk hnm
  refine r_bipush (v := 24) X dX5_take_0 (by decide +kernel) ?_
  refine r_istore_n X dX5_take_2 (by decide) ?_
  refine r_iload_n X dX5_take_3 rfl ?_
  refine r_if_lt_f (tgt := 49) X dX5_take_4 rfl (by decide +kernel) ?_
  refine r_aload_n X dX5_take_7 rfl ?_
  refine a_get (a := 79) X hn fg_X5_15 dX5_take_8 rfl rfl ?_
  refine r_sipush (v := 400) X dX5_take_11 (by decide +kernel) ?_
  refine r_icmp_ge_f (tgt := 43) X dX5_take_14 rfl (by decide +kernel) ?_
  refine r_aload_n X dX5_take_17 rfl ?_
  refine a_get (a := 79) X hn fg_X5_9 dX5_take_18 rfl rfl ?_
  refine r_aload_n X dX5_take_21 rfl ?_
  refine a_get (a := 79) X hn fg_X5_15 dX5_take_22 rfl rfl ?_
  refine r_iload_n X dX5_take_25 rfl ?_
  refine r_iload_n X dX5_take_26 rfl ?_
  refine r_iushr X dX5_take_27 rfl ?_
  refine r_sipush (v := 255) X dX5_take_28 (by decide +kernel) ?_
  refine r_iand X dX5_take_31 ?_
  refine a_iast_any (a := 80) X hn dX5_take_32 rfl (inK (by decide +kernel)) (fun g1 => ?_)
  refine r_eq (h' := h0 ++ ((frC n ++ T).set 80 (eI 400 g1))) rfl rfl rfl ?_
  refine r_aload_n X dX5_take_33 rfl ?_
  refine r_dup X dX5_take_34 ?_
  refine a_get (a := 79) X hn fg_X5_15 dX5_take_35 rfl rfl ?_
  refine r_iconst (v := 1) X dX5_take_38 (by decide +kernel) ?_
  refine r_iaddE (v := 1) X dX5_take_39 (by decide +kernel) ?_
  refine a_put (a := 79) X hn fp_X5_15 dX5_take_40 rfl rfl rfl rfl ?_
  refine r_eq (h' := h0 ++ (((frC n ++ T).set 79 (eO 5 [vR (n + 80), vI 1, vI 0, vI 0, vI 0, vI 2, vI 0, vI 0, vI ((-1)), vI 0, vR (n + 81), vI 0, vR (n + 82), vI 0])).set 80 (eI 400 g1))) rfl rfl rfl ?_
  refine r_iinc (v := 16) X dX5_take_43 rfl (by decide +kernel) (by decide) ?_
  refine r_goto (tgt := 3) X dX5_take_46 rfl ?_
  refine r_iload_n X dX5_take_3 rfl ?_
  refine r_if_lt_f (tgt := 49) X dX5_take_4 rfl (by decide +kernel) ?_
  refine r_aload_n X dX5_take_7 rfl ?_
  refine a_get (a := 79) X hn fg_X5_15 dX5_take_8 rfl rfl ?_
  refine r_sipush (v := 400) X dX5_take_11 (by decide +kernel) ?_
  refine r_icmp_ge_f (tgt := 43) X dX5_take_14 rfl (by decide +kernel) ?_
  refine r_aload_n X dX5_take_17 rfl ?_
  refine a_get (a := 79) X hn fg_X5_9 dX5_take_18 rfl rfl ?_
  refine r_aload_n X dX5_take_21 rfl ?_
  refine a_get (a := 79) X hn fg_X5_15 dX5_take_22 rfl rfl ?_
  refine r_iload_n X dX5_take_25 rfl ?_
  refine r_iload_n X dX5_take_26 rfl ?_
  refine r_iushr X dX5_take_27 rfl ?_
  refine r_sipush (v := 255) X dX5_take_28 (by decide +kernel) ?_
  refine r_iand X dX5_take_31 ?_
  refine a_iast_any (a := 80) X hn dX5_take_32 rfl (inK (by decide +kernel)) (fun g2 => ?_)
  refine r_eq (h' := h0 ++ (((frC n ++ T).set 79 (eO 5 [vR (n + 80), vI 1, vI 0, vI 0, vI 0, vI 2, vI 0, vI 0, vI ((-1)), vI 0, vR (n + 81), vI 0, vR (n + 82), vI 0])).set 80 (eI 400 g2))) rfl rfl rfl ?_
  refine r_aload_n X dX5_take_33 rfl ?_
  refine r_dup X dX5_take_34 ?_
  refine a_get (a := 79) X hn fg_X5_15 dX5_take_35 rfl rfl ?_
  refine r_iconst (v := 1) X dX5_take_38 (by decide +kernel) ?_
  refine r_iaddE (v := 2) X dX5_take_39 (by decide +kernel) ?_
  refine a_put (a := 79) X hn fp_X5_15 dX5_take_40 rfl rfl rfl rfl ?_
  refine r_eq (h' := h0 ++ (((frC n ++ T).set 79 (eO 5 [vR (n + 80), vI 2, vI 0, vI 0, vI 0, vI 2, vI 0, vI 0, vI ((-1)), vI 0, vR (n + 81), vI 0, vR (n + 82), vI 0])).set 80 (eI 400 g2))) rfl rfl rfl ?_
  refine r_iinc (v := 8) X dX5_take_43 rfl (by decide +kernel) (by decide) ?_
  refine r_goto (tgt := 3) X dX5_take_46 rfl ?_
  refine r_iload_n X dX5_take_3 rfl ?_
  refine r_if_lt_f (tgt := 49) X dX5_take_4 rfl (by decide +kernel) ?_
  refine r_aload_n X dX5_take_7 rfl ?_
  refine a_get (a := 79) X hn fg_X5_15 dX5_take_8 rfl rfl ?_
  refine r_sipush (v := 400) X dX5_take_11 (by decide +kernel) ?_
  refine r_icmp_ge_f (tgt := 43) X dX5_take_14 rfl (by decide +kernel) ?_
  refine r_aload_n X dX5_take_17 rfl ?_
  refine a_get (a := 79) X hn fg_X5_9 dX5_take_18 rfl rfl ?_
  refine r_aload_n X dX5_take_21 rfl ?_
  refine a_get (a := 79) X hn fg_X5_15 dX5_take_22 rfl rfl ?_
  refine r_iload_n X dX5_take_25 rfl ?_
  refine r_iload_n X dX5_take_26 rfl ?_
  refine r_iushr X dX5_take_27 rfl ?_
  refine r_sipush (v := 255) X dX5_take_28 (by decide +kernel) ?_
  refine r_iand X dX5_take_31 ?_
  refine a_iast_any (a := 80) X hn dX5_take_32 rfl (inK (by decide +kernel)) (fun g3 => ?_)
  refine r_eq (h' := h0 ++ (((frC n ++ T).set 79 (eO 5 [vR (n + 80), vI 2, vI 0, vI 0, vI 0, vI 2, vI 0, vI 0, vI ((-1)), vI 0, vR (n + 81), vI 0, vR (n + 82), vI 0])).set 80 (eI 400 g3))) rfl rfl rfl ?_
  refine r_aload_n X dX5_take_33 rfl ?_
  refine r_dup X dX5_take_34 ?_
  refine a_get (a := 79) X hn fg_X5_15 dX5_take_35 rfl rfl ?_
  refine r_iconst (v := 1) X dX5_take_38 (by decide +kernel) ?_
  refine r_iaddE (v := 3) X dX5_take_39 (by decide +kernel) ?_
  refine a_put (a := 79) X hn fp_X5_15 dX5_take_40 rfl rfl rfl rfl ?_
  refine r_eq (h' := h0 ++ (((frC n ++ T).set 79 (eO 5 [vR (n + 80), vI 3, vI 0, vI 0, vI 0, vI 2, vI 0, vI 0, vI ((-1)), vI 0, vR (n + 81), vI 0, vR (n + 82), vI 0])).set 80 (eI 400 g3))) rfl rfl rfl ?_
  refine r_iinc (v := 0) X dX5_take_43 rfl (by decide +kernel) (by decide) ?_
  refine r_goto (tgt := 3) X dX5_take_46 rfl ?_
  refine r_iload_n X dX5_take_3 rfl ?_
  refine r_if_lt_f (tgt := 49) X dX5_take_4 rfl (by decide +kernel) ?_
  refine r_aload_n X dX5_take_7 rfl ?_
  refine a_get (a := 79) X hn fg_X5_15 dX5_take_8 rfl rfl ?_
  refine r_sipush (v := 400) X dX5_take_11 (by decide +kernel) ?_
  refine r_icmp_ge_f (tgt := 43) X dX5_take_14 rfl (by decide +kernel) ?_
  refine r_aload_n X dX5_take_17 rfl ?_
  refine a_get (a := 79) X hn fg_X5_9 dX5_take_18 rfl rfl ?_
  refine r_aload_n X dX5_take_21 rfl ?_
  refine a_get (a := 79) X hn fg_X5_15 dX5_take_22 rfl rfl ?_
  refine r_iload_n X dX5_take_25 rfl ?_
  refine r_iload_n X dX5_take_26 rfl ?_
  refine r_iushr X dX5_take_27 rfl ?_
  refine r_sipush (v := 255) X dX5_take_28 (by decide +kernel) ?_
  refine r_iand X dX5_take_31 ?_
  refine a_iast_any (a := 80) X hn dX5_take_32 rfl (inK (by decide +kernel)) (fun g4 => ?_)
  refine r_eq (h' := h0 ++ (((frC n ++ T).set 79 (eO 5 [vR (n + 80), vI 3, vI 0, vI 0, vI 0, vI 2, vI 0, vI 0, vI ((-1)), vI 0, vR (n + 81), vI 0, vR (n + 82), vI 0])).set 80 (eI 400 g4))) rfl rfl rfl ?_
  refine r_aload_n X dX5_take_33 rfl ?_
  refine r_dup X dX5_take_34 ?_
  refine a_get (a := 79) X hn fg_X5_15 dX5_take_35 rfl rfl ?_
  refine r_iconst (v := 1) X dX5_take_38 (by decide +kernel) ?_
  refine r_iaddE (v := 4) X dX5_take_39 (by decide +kernel) ?_
  refine a_put (a := 79) X hn fp_X5_15 dX5_take_40 rfl rfl rfl rfl ?_
  refine r_eq (h' := h0 ++ (((frC n ++ T).set 79 (eO 5 [vR (n + 80), vI 4, vI 0, vI 0, vI 0, vI 2, vI 0, vI 0, vI ((-1)), vI 0, vR (n + 81), vI 0, vR (n + 82), vI 0])).set 80 (eI 400 g4))) rfl rfl rfl ?_
  refine r_iinc (v := (-8)) X dX5_take_43 rfl (by decide +kernel) (by decide) ?_
  refine r_eq (ls' := [some (vR (n + 79)), some (vI z0), some (vI ((-8)))]) rfl rfl rfl ?_
  refine r_goto (tgt := 3) X dX5_take_46 rfl ?_
  refine r_iload_n X dX5_take_3 rfl ?_
  refine r_if_lt_t (tgt := 49) X dX5_take_4 rfl (by decide +kernel) ?_
  exact r_ret_v X hr hlk dX5_take_49 (Nat.le_of_ble_eq_true rfl) (Nat.le_of_ble_eq_true rfl) ⟨rfl, ⟨_, rfl⟩⟩
set_option maxRecDepth 100000 in
set_option maxHeartbeats 4000000 in
theorem kx26_X5_take (l : Launch) (G : PG) (h0 : PH) (n : Nat) (hn : h0.length = n) (T : PH) (z0 : Int32) (g5 : Nat → Int32) : PMet l G yX5_take cX5_take 3 none 0 0 0 [vR (n + 79), vI z0] (h0 ++ (((frC n ++ T).set 79 (eO 5 [vR (n + 80), vI 4, vI 0, vI 0, vI 0, vI 2, vI 0, vI 0, vI ((-1)), vI 0, vR (n + 81), vI 0, vR (n + 82), vI 0])).set 80 (eI 400 g5))) (qV (fun h' => ∃ g9 : Nat → Int32, h' = h0 ++ (((frC n ++ T).set 79 (eO 5 [vR (n + 80), vI 8, vI 0, vI 0, vI 0, vI 2, vI 0, vI 0, vI ((-1)), vI 0, vR (n + 81), vI 0, vR (n + 82), vI 0])).set 80 (eI 400 g9)))) := by
  refine PMet.intro (by decide) (Nat.le_of_ble_eq_true rfl) ?_
  intro p e s m args below meth c X hr hlk hnm
  refine r_bipush (v := 24) X dX5_take_0 (by decide +kernel) ?_
  refine r_istore_n X dX5_take_2 (by decide) ?_
  refine r_iload_n X dX5_take_3 rfl ?_
  refine r_if_lt_f (tgt := 49) X dX5_take_4 rfl (by decide +kernel) ?_
  refine r_aload_n X dX5_take_7 rfl ?_
  refine a_get (a := 79) X hn fg_X5_15 dX5_take_8 rfl rfl ?_
  refine r_sipush (v := 400) X dX5_take_11 (by decide +kernel) ?_
  refine r_icmp_ge_f (tgt := 43) X dX5_take_14 rfl (by decide +kernel) ?_
  refine r_aload_n X dX5_take_17 rfl ?_
  refine a_get (a := 79) X hn fg_X5_9 dX5_take_18 rfl rfl ?_
  refine r_aload_n X dX5_take_21 rfl ?_
  refine a_get (a := 79) X hn fg_X5_15 dX5_take_22 rfl rfl ?_
  refine r_iload_n X dX5_take_25 rfl ?_
  refine r_iload_n X dX5_take_26 rfl ?_
  refine r_iushr X dX5_take_27 rfl ?_
  refine r_sipush (v := 255) X dX5_take_28 (by decide +kernel) ?_
  refine r_iand X dX5_take_31 ?_
  refine a_iast_any (a := 80) X hn dX5_take_32 rfl (inK (by decide +kernel)) (fun g6 => ?_)
  refine r_eq (h' := h0 ++ (((frC n ++ T).set 79 (eO 5 [vR (n + 80), vI 4, vI 0, vI 0, vI 0, vI 2, vI 0, vI 0, vI ((-1)), vI 0, vR (n + 81), vI 0, vR (n + 82), vI 0])).set 80 (eI 400 g6))) rfl rfl rfl ?_
  refine r_aload_n X dX5_take_33 rfl ?_
  refine r_dup X dX5_take_34 ?_
  refine a_get (a := 79) X hn fg_X5_15 dX5_take_35 rfl rfl ?_
  refine r_iconst (v := 1) X dX5_take_38 (by decide +kernel) ?_
  refine r_iaddE (v := 5) X dX5_take_39 (by decide +kernel) ?_
  refine a_put (a := 79) X hn fp_X5_15 dX5_take_40 rfl rfl rfl rfl ?_
  refine r_eq (h' := h0 ++ (((frC n ++ T).set 79 (eO 5 [vR (n + 80), vI 5, vI 0, vI 0, vI 0, vI 2, vI 0, vI 0, vI ((-1)), vI 0, vR (n + 81), vI 0, vR (n + 82), vI 0])).set 80 (eI 400 g6))) rfl rfl rfl ?_
  refine r_iinc (v := 16) X dX5_take_43 rfl (by decide +kernel) (by decide) ?_
  refine r_goto (tgt := 3) X dX5_take_46 rfl ?_
  refine r_iload_n X dX5_take_3 rfl ?_
  refine r_if_lt_f (tgt := 49) X dX5_take_4 rfl (by decide +kernel) ?_
  refine r_aload_n X dX5_take_7 rfl ?_
  refine a_get (a := 79) X hn fg_X5_15 dX5_take_8 rfl rfl ?_
  refine r_sipush (v := 400) X dX5_take_11 (by decide +kernel) ?_
  refine r_icmp_ge_f (tgt := 43) X dX5_take_14 rfl (by decide +kernel) ?_
  refine r_aload_n X dX5_take_17 rfl ?_
  refine a_get (a := 79) X hn fg_X5_9 dX5_take_18 rfl rfl ?_
  refine r_aload_n X dX5_take_21 rfl ?_
  refine a_get (a := 79) X hn fg_X5_15 dX5_take_22 rfl rfl ?_
  refine r_iload_n X dX5_take_25 rfl ?_
  refine r_iload_n X dX5_take_26 rfl ?_
  refine r_iushr X dX5_take_27 rfl ?_
  refine r_sipush (v := 255) X dX5_take_28 (by decide +kernel) ?_
  refine r_iand X dX5_take_31 ?_
  refine a_iast_any (a := 80) X hn dX5_take_32 rfl (inK (by decide +kernel)) (fun g7 => ?_)
  refine r_eq (h' := h0 ++ (((frC n ++ T).set 79 (eO 5 [vR (n + 80), vI 5, vI 0, vI 0, vI 0, vI 2, vI 0, vI 0, vI ((-1)), vI 0, vR (n + 81), vI 0, vR (n + 82), vI 0])).set 80 (eI 400 g7))) rfl rfl rfl ?_
  refine r_aload_n X dX5_take_33 rfl ?_
  refine r_dup X dX5_take_34 ?_
  refine a_get (a := 79) X hn fg_X5_15 dX5_take_35 rfl rfl ?_
  refine r_iconst (v := 1) X dX5_take_38 (by decide +kernel) ?_
  refine r_iaddE (v := 6) X dX5_take_39 (by decide +kernel) ?_
  refine a_put (a := 79) X hn fp_X5_15 dX5_take_40 rfl rfl rfl rfl ?_
  refine r_eq (h' := h0 ++ (((frC n ++ T).set 79 (eO 5 [vR (n + 80), vI 6, vI 0, vI 0, vI 0, vI 2, vI 0, vI 0, vI ((-1)), vI 0, vR (n + 81), vI 0, vR (n + 82), vI 0])).set 80 (eI 400 g7))) rfl rfl rfl ?_
  refine r_iinc (v := 8) X dX5_take_43 rfl (by decide +kernel) (by decide) ?_
  refine r_goto (tgt := 3) X dX5_take_46 rfl ?_
  refine r_iload_n X dX5_take_3 rfl ?_
  refine r_if_lt_f (tgt := 49) X dX5_take_4 rfl (by decide +kernel) ?_
  refine r_aload_n X dX5_take_7 rfl ?_
  refine a_get (a := 79) X hn fg_X5_15 dX5_take_8 rfl rfl ?_
  refine r_sipush (v := 400) X dX5_take_11 (by decide +kernel) ?_
  refine r_icmp_ge_f (tgt := 43) X dX5_take_14 rfl (by decide +kernel) ?_
  refine r_aload_n X dX5_take_17 rfl ?_
  refine a_get (a := 79) X hn fg_X5_9 dX5_take_18 rfl rfl ?_
  refine r_aload_n X dX5_take_21 rfl ?_
  refine a_get (a := 79) X hn fg_X5_15 dX5_take_22 rfl rfl ?_
  refine r_iload_n X dX5_take_25 rfl ?_
  refine r_iload_n X dX5_take_26 rfl ?_
  refine r_iushr X dX5_take_27 rfl ?_
  refine r_sipush (v := 255) X dX5_take_28 (by decide +kernel) ?_
  refine r_iand X dX5_take_31 ?_
  refine a_iast_any (a := 80) X hn dX5_take_32 rfl (inK (by decide +kernel)) (fun g8 => ?_)
  refine r_eq (h' := h0 ++ (((frC n ++ T).set 79 (eO 5 [vR (n + 80), vI 6, vI 0, vI 0, vI 0, vI 2, vI 0, vI 0, vI ((-1)), vI 0, vR (n + 81), vI 0, vR (n + 82), vI 0])).set 80 (eI 400 g8))) rfl rfl rfl ?_
  refine r_aload_n X dX5_take_33 rfl ?_
  refine r_dup X dX5_take_34 ?_
  refine a_get (a := 79) X hn fg_X5_15 dX5_take_35 rfl rfl ?_
  refine r_iconst (v := 1) X dX5_take_38 (by decide +kernel) ?_
  refine r_iaddE (v := 7) X dX5_take_39 (by decide +kernel) ?_
  refine a_put (a := 79) X hn fp_X5_15 dX5_take_40 rfl rfl rfl rfl ?_
  refine r_eq (h' := h0 ++ (((frC n ++ T).set 79 (eO 5 [vR (n + 80), vI 7, vI 0, vI 0, vI 0, vI 2, vI 0, vI 0, vI ((-1)), vI 0, vR (n + 81), vI 0, vR (n + 82), vI 0])).set 80 (eI 400 g8))) rfl rfl rfl ?_
  refine r_iinc (v := 0) X dX5_take_43 rfl (by decide +kernel) (by decide) ?_
  refine r_goto (tgt := 3) X dX5_take_46 rfl ?_
  refine r_iload_n X dX5_take_3 rfl ?_
  refine r_if_lt_f (tgt := 49) X dX5_take_4 rfl (by decide +kernel) ?_
  refine r_aload_n X dX5_take_7 rfl ?_
  refine a_get (a := 79) X hn fg_X5_15 dX5_take_8 rfl rfl ?_
  refine r_sipush (v := 400) X dX5_take_11 (by decide +kernel) ?_
  refine r_icmp_ge_f (tgt := 43) X dX5_take_14 rfl (by decide +kernel) ?_
  refine r_aload_n X dX5_take_17 rfl ?_
  refine a_get (a := 79) X hn fg_X5_9 dX5_take_18 rfl rfl ?_
  refine r_aload_n X dX5_take_21 rfl ?_
  refine a_get (a := 79) X hn fg_X5_15 dX5_take_22 rfl rfl ?_
  refine r_iload_n X dX5_take_25 rfl ?_
  refine r_iload_n X dX5_take_26 rfl ?_
  refine r_iushr X dX5_take_27 rfl ?_
  refine r_sipush (v := 255) X dX5_take_28 (by decide +kernel) ?_
  refine r_iand X dX5_take_31 ?_
  refine a_iast_any (a := 80) X hn dX5_take_32 rfl (inK (by decide +kernel)) (fun g9 => ?_)
  refine r_eq (h' := h0 ++ (((frC n ++ T).set 79 (eO 5 [vR (n + 80), vI 7, vI 0, vI 0, vI 0, vI 2, vI 0, vI 0, vI ((-1)), vI 0, vR (n + 81), vI 0, vR (n + 82), vI 0])).set 80 (eI 400 g9))) rfl rfl rfl ?_
  refine r_aload_n X dX5_take_33 rfl ?_
  refine r_dup X dX5_take_34 ?_
  refine a_get (a := 79) X hn fg_X5_15 dX5_take_35 rfl rfl ?_
  refine r_iconst (v := 1) X dX5_take_38 (by decide +kernel) ?_
  refine r_iaddE (v := 8) X dX5_take_39 (by decide +kernel) ?_
  refine a_put (a := 79) X hn fp_X5_15 dX5_take_40 rfl rfl rfl rfl ?_
  refine r_eq (h' := h0 ++ (((frC n ++ T).set 79 (eO 5 [vR (n + 80), vI 8, vI 0, vI 0, vI 0, vI 2, vI 0, vI 0, vI ((-1)), vI 0, vR (n + 81), vI 0, vR (n + 82), vI 0])).set 80 (eI 400 g9))) rfl rfl rfl ?_
  refine r_iinc (v := (-8)) X dX5_take_43 rfl (by decide +kernel) (by decide) ?_
  refine r_eq (ls' := [some (vR (n + 79)), some (vI z0), some (vI ((-8)))]) rfl rfl rfl ?_
  refine r_goto (tgt := 3) X dX5_take_46 rfl ?_
  refine r_iload_n X dX5_take_3 rfl ?_
  refine r_if_lt_t (tgt := 49) X dX5_take_4 rfl (by decide +kernel) ?_
  exact r_ret_v X hr hlk dX5_take_49 (Nat.le_of_ble_eq_true rfl) (Nat.le_of_ble_eq_true rfl) ⟨rfl, ⟨_, rfl⟩⟩
set_option maxRecDepth 100000 in
set_option maxHeartbeats 4000000 in
theorem kx27_X5_take (l : Launch) (G : PG) (h0 : PH) (n : Nat) (hn : h0.length = n) (T : PH) (z0 : Int32) (g10 : Nat → Int32) : PMet l G yX5_take cX5_take 3 none 0 0 0 [vR (n + 79), vI z0] (h0 ++ (((frC n ++ T).set 79 (eO 5 [vR (n + 80), vI 8, vI 0, vI 0, vI 0, vI 2, vI 0, vI 0, vI ((-1)), vI 0, vR (n + 81), vI 0, vR (n + 82), vI 0])).set 80 (eI 400 g10))) (qV (fun h' => ∃ g14 : Nat → Int32, h' = h0 ++ (((frC n ++ T).set 79 (eO 5 [vR (n + 80), vI 12, vI 0, vI 0, vI 0, vI 2, vI 0, vI 0, vI ((-1)), vI 0, vR (n + 81), vI 0, vR (n + 82), vI 0])).set 80 (eI 400 g14)))) := by
  refine PMet.intro (by decide) (Nat.le_of_ble_eq_true rfl) ?_
  intro p e s m args below meth c X hr hlk hnm
  refine r_bipush (v := 24) X dX5_take_0 (by decide +kernel) ?_
  refine r_istore_n X dX5_take_2 (by decide) ?_
  refine r_iload_n X dX5_take_3 rfl ?_
  refine r_if_lt_f (tgt := 49) X dX5_take_4 rfl (by decide +kernel) ?_
  refine r_aload_n X dX5_take_7 rfl ?_
  refine a_get (a := 79) X hn fg_X5_15 dX5_take_8 rfl rfl ?_
  refine r_sipush (v := 400) X dX5_take_11 (by decide +kernel) ?_
  refine r_icmp_ge_f (tgt := 43) X dX5_take_14 rfl (by decide +kernel) ?_
  refine r_aload_n X dX5_take_17 rfl ?_
  refine a_get (a := 79) X hn fg_X5_9 dX5_take_18 rfl rfl ?_
  refine r_aload_n X dX5_take_21 rfl ?_
  refine a_get (a := 79) X hn fg_X5_15 dX5_take_22 rfl rfl ?_
  refine r_iload_n X dX5_take_25 rfl ?_
  refine r_iload_n X dX5_take_26 rfl ?_
  refine r_iushr X dX5_take_27 rfl ?_
  refine r_sipush (v := 255) X dX5_take_28 (by decide +kernel) ?_
  refine r_iand X dX5_take_31 ?_
  refine a_iast_any (a := 80) X hn dX5_take_32 rfl (inK (by decide +kernel)) (fun g11 => ?_)
  refine r_eq (h' := h0 ++ (((frC n ++ T).set 79 (eO 5 [vR (n + 80), vI 8, vI 0, vI 0, vI 0, vI 2, vI 0, vI 0, vI ((-1)), vI 0, vR (n + 81), vI 0, vR (n + 82), vI 0])).set 80 (eI 400 g11))) rfl rfl rfl ?_
  refine r_aload_n X dX5_take_33 rfl ?_
  refine r_dup X dX5_take_34 ?_
  refine a_get (a := 79) X hn fg_X5_15 dX5_take_35 rfl rfl ?_
  refine r_iconst (v := 1) X dX5_take_38 (by decide +kernel) ?_
  refine r_iaddE (v := 9) X dX5_take_39 (by decide +kernel) ?_
  refine a_put (a := 79) X hn fp_X5_15 dX5_take_40 rfl rfl rfl rfl ?_
  refine r_eq (h' := h0 ++ (((frC n ++ T).set 79 (eO 5 [vR (n + 80), vI 9, vI 0, vI 0, vI 0, vI 2, vI 0, vI 0, vI ((-1)), vI 0, vR (n + 81), vI 0, vR (n + 82), vI 0])).set 80 (eI 400 g11))) rfl rfl rfl ?_
  refine r_iinc (v := 16) X dX5_take_43 rfl (by decide +kernel) (by decide) ?_
  refine r_goto (tgt := 3) X dX5_take_46 rfl ?_
  refine r_iload_n X dX5_take_3 rfl ?_
  refine r_if_lt_f (tgt := 49) X dX5_take_4 rfl (by decide +kernel) ?_
  refine r_aload_n X dX5_take_7 rfl ?_
  refine a_get (a := 79) X hn fg_X5_15 dX5_take_8 rfl rfl ?_
  refine r_sipush (v := 400) X dX5_take_11 (by decide +kernel) ?_
  refine r_icmp_ge_f (tgt := 43) X dX5_take_14 rfl (by decide +kernel) ?_
  refine r_aload_n X dX5_take_17 rfl ?_
  refine a_get (a := 79) X hn fg_X5_9 dX5_take_18 rfl rfl ?_
  refine r_aload_n X dX5_take_21 rfl ?_
  refine a_get (a := 79) X hn fg_X5_15 dX5_take_22 rfl rfl ?_
  refine r_iload_n X dX5_take_25 rfl ?_
  refine r_iload_n X dX5_take_26 rfl ?_
  refine r_iushr X dX5_take_27 rfl ?_
  refine r_sipush (v := 255) X dX5_take_28 (by decide +kernel) ?_
  refine r_iand X dX5_take_31 ?_
  refine a_iast_any (a := 80) X hn dX5_take_32 rfl (inK (by decide +kernel)) (fun g12 => ?_)
  refine r_eq (h' := h0 ++ (((frC n ++ T).set 79 (eO 5 [vR (n + 80), vI 9, vI 0, vI 0, vI 0, vI 2, vI 0, vI 0, vI ((-1)), vI 0, vR (n + 81), vI 0, vR (n + 82), vI 0])).set 80 (eI 400 g12))) rfl rfl rfl ?_
  refine r_aload_n X dX5_take_33 rfl ?_
  refine r_dup X dX5_take_34 ?_
  refine a_get (a := 79) X hn fg_X5_15 dX5_take_35 rfl rfl ?_
  refine r_iconst (v := 1) X dX5_take_38 (by decide +kernel) ?_
  refine r_iaddE (v := 10) X dX5_take_39 (by decide +kernel) ?_
  refine a_put (a := 79) X hn fp_X5_15 dX5_take_40 rfl rfl rfl rfl ?_
  refine r_eq (h' := h0 ++ (((frC n ++ T).set 79 (eO 5 [vR (n + 80), vI 10, vI 0, vI 0, vI 0, vI 2, vI 0, vI 0, vI ((-1)), vI 0, vR (n + 81), vI 0, vR (n + 82), vI 0])).set 80 (eI 400 g12))) rfl rfl rfl ?_
  refine r_iinc (v := 8) X dX5_take_43 rfl (by decide +kernel) (by decide) ?_
  refine r_goto (tgt := 3) X dX5_take_46 rfl ?_
  refine r_iload_n X dX5_take_3 rfl ?_
  refine r_if_lt_f (tgt := 49) X dX5_take_4 rfl (by decide +kernel) ?_
  refine r_aload_n X dX5_take_7 rfl ?_
  refine a_get (a := 79) X hn fg_X5_15 dX5_take_8 rfl rfl ?_
  refine r_sipush (v := 400) X dX5_take_11 (by decide +kernel) ?_
  refine r_icmp_ge_f (tgt := 43) X dX5_take_14 rfl (by decide +kernel) ?_
  refine r_aload_n X dX5_take_17 rfl ?_
  refine a_get (a := 79) X hn fg_X5_9 dX5_take_18 rfl rfl ?_
  refine r_aload_n X dX5_take_21 rfl ?_
  refine a_get (a := 79) X hn fg_X5_15 dX5_take_22 rfl rfl ?_
  refine r_iload_n X dX5_take_25 rfl ?_
  refine r_iload_n X dX5_take_26 rfl ?_
  refine r_iushr X dX5_take_27 rfl ?_
  refine r_sipush (v := 255) X dX5_take_28 (by decide +kernel) ?_
  refine r_iand X dX5_take_31 ?_
  refine a_iast_any (a := 80) X hn dX5_take_32 rfl (inK (by decide +kernel)) (fun g13 => ?_)
  refine r_eq (h' := h0 ++ (((frC n ++ T).set 79 (eO 5 [vR (n + 80), vI 10, vI 0, vI 0, vI 0, vI 2, vI 0, vI 0, vI ((-1)), vI 0, vR (n + 81), vI 0, vR (n + 82), vI 0])).set 80 (eI 400 g13))) rfl rfl rfl ?_
  refine r_aload_n X dX5_take_33 rfl ?_
  refine r_dup X dX5_take_34 ?_
  refine a_get (a := 79) X hn fg_X5_15 dX5_take_35 rfl rfl ?_
  refine r_iconst (v := 1) X dX5_take_38 (by decide +kernel) ?_
  refine r_iaddE (v := 11) X dX5_take_39 (by decide +kernel) ?_
  refine a_put (a := 79) X hn fp_X5_15 dX5_take_40 rfl rfl rfl rfl ?_
  refine r_eq (h' := h0 ++ (((frC n ++ T).set 79 (eO 5 [vR (n + 80), vI 11, vI 0, vI 0, vI 0, vI 2, vI 0, vI 0, vI ((-1)), vI 0, vR (n + 81), vI 0, vR (n + 82), vI 0])).set 80 (eI 400 g13))) rfl rfl rfl ?_
  refine r_iinc (v := 0) X dX5_take_43 rfl (by decide +kernel) (by decide) ?_
  refine r_goto (tgt := 3) X dX5_take_46 rfl ?_
  refine r_iload_n X dX5_take_3 rfl ?_
  refine r_if_lt_f (tgt := 49) X dX5_take_4 rfl (by decide +kernel) ?_
  refine r_aload_n X dX5_take_7 rfl ?_
  refine a_get (a := 79) X hn fg_X5_15 dX5_take_8 rfl rfl ?_
  refine r_sipush (v := 400) X dX5_take_11 (by decide +kernel) ?_
  refine r_icmp_ge_f (tgt := 43) X dX5_take_14 rfl (by decide +kernel) ?_
  refine r_aload_n X dX5_take_17 rfl ?_
  refine a_get (a := 79) X hn fg_X5_9 dX5_take_18 rfl rfl ?_
  refine r_aload_n X dX5_take_21 rfl ?_
  refine a_get (a := 79) X hn fg_X5_15 dX5_take_22 rfl rfl ?_
  refine r_iload_n X dX5_take_25 rfl ?_
  refine r_iload_n X dX5_take_26 rfl ?_
  refine r_iushr X dX5_take_27 rfl ?_
  refine r_sipush (v := 255) X dX5_take_28 (by decide +kernel) ?_
  refine r_iand X dX5_take_31 ?_
  refine a_iast_any (a := 80) X hn dX5_take_32 rfl (inK (by decide +kernel)) (fun g14 => ?_)
  refine r_eq (h' := h0 ++ (((frC n ++ T).set 79 (eO 5 [vR (n + 80), vI 11, vI 0, vI 0, vI 0, vI 2, vI 0, vI 0, vI ((-1)), vI 0, vR (n + 81), vI 0, vR (n + 82), vI 0])).set 80 (eI 400 g14))) rfl rfl rfl ?_
  refine r_aload_n X dX5_take_33 rfl ?_
  refine r_dup X dX5_take_34 ?_
  refine a_get (a := 79) X hn fg_X5_15 dX5_take_35 rfl rfl ?_
  refine r_iconst (v := 1) X dX5_take_38 (by decide +kernel) ?_
  refine r_iaddE (v := 12) X dX5_take_39 (by decide +kernel) ?_
  refine a_put (a := 79) X hn fp_X5_15 dX5_take_40 rfl rfl rfl rfl ?_
  refine r_eq (h' := h0 ++ (((frC n ++ T).set 79 (eO 5 [vR (n + 80), vI 12, vI 0, vI 0, vI 0, vI 2, vI 0, vI 0, vI ((-1)), vI 0, vR (n + 81), vI 0, vR (n + 82), vI 0])).set 80 (eI 400 g14))) rfl rfl rfl ?_
  refine r_iinc (v := (-8)) X dX5_take_43 rfl (by decide +kernel) (by decide) ?_
  refine r_eq (ls' := [some (vR (n + 79)), some (vI z0), some (vI ((-8)))]) rfl rfl rfl ?_
  refine r_goto (tgt := 3) X dX5_take_46 rfl ?_
  refine r_iload_n X dX5_take_3 rfl ?_
  refine r_if_lt_t (tgt := 49) X dX5_take_4 rfl (by decide +kernel) ?_
  exact r_ret_v X hr hlk dX5_take_49 (Nat.le_of_ble_eq_true rfl) (Nat.le_of_ble_eq_true rfl) ⟨rfl, ⟨_, rfl⟩⟩
set_option maxRecDepth 100000 in
set_option maxHeartbeats 4000000 in
theorem kx28_X5_take (l : Launch) (G : PG) (h0 : PH) (n : Nat) (hn : h0.length = n) (T : PH) (z0 : Int32) (g15 : Nat → Int32) : PMet l G yX5_take cX5_take 3 none 0 0 0 [vR (n + 79), vI z0] (h0 ++ (((frC n ++ T).set 79 (eO 5 [vR (n + 80), vI 12, vI 0, vI 0, vI 0, vI 2, vI 0, vI 0, vI ((-1)), vI 0, vR (n + 81), vI 0, vR (n + 82), vI 0])).set 80 (eI 400 g15))) (qV (fun h' => ∃ g19 : Nat → Int32, h' = h0 ++ (((frC n ++ T).set 79 (eO 5 [vR (n + 80), vI 16, vI 0, vI 0, vI 0, vI 2, vI 0, vI 0, vI ((-1)), vI 0, vR (n + 81), vI 0, vR (n + 82), vI 0])).set 80 (eI 400 g19)))) := by
  refine PMet.intro (by decide) (Nat.le_of_ble_eq_true rfl) ?_
  intro p e s m args below meth c X hr hlk hnm
  refine r_bipush (v := 24) X dX5_take_0 (by decide +kernel) ?_
  refine r_istore_n X dX5_take_2 (by decide) ?_
  refine r_iload_n X dX5_take_3 rfl ?_
  refine r_if_lt_f (tgt := 49) X dX5_take_4 rfl (by decide +kernel) ?_
  refine r_aload_n X dX5_take_7 rfl ?_
  refine a_get (a := 79) X hn fg_X5_15 dX5_take_8 rfl rfl ?_
  refine r_sipush (v := 400) X dX5_take_11 (by decide +kernel) ?_
  refine r_icmp_ge_f (tgt := 43) X dX5_take_14 rfl (by decide +kernel) ?_
  refine r_aload_n X dX5_take_17 rfl ?_
  refine a_get (a := 79) X hn fg_X5_9 dX5_take_18 rfl rfl ?_
  refine r_aload_n X dX5_take_21 rfl ?_
  refine a_get (a := 79) X hn fg_X5_15 dX5_take_22 rfl rfl ?_
  refine r_iload_n X dX5_take_25 rfl ?_
  refine r_iload_n X dX5_take_26 rfl ?_
  refine r_iushr X dX5_take_27 rfl ?_
  refine r_sipush (v := 255) X dX5_take_28 (by decide +kernel) ?_
  refine r_iand X dX5_take_31 ?_
  refine a_iast_any (a := 80) X hn dX5_take_32 rfl (inK (by decide +kernel)) (fun g16 => ?_)
  refine r_eq (h' := h0 ++ (((frC n ++ T).set 79 (eO 5 [vR (n + 80), vI 12, vI 0, vI 0, vI 0, vI 2, vI 0, vI 0, vI ((-1)), vI 0, vR (n + 81), vI 0, vR (n + 82), vI 0])).set 80 (eI 400 g16))) rfl rfl rfl ?_
  refine r_aload_n X dX5_take_33 rfl ?_
  refine r_dup X dX5_take_34 ?_
  refine a_get (a := 79) X hn fg_X5_15 dX5_take_35 rfl rfl ?_
  refine r_iconst (v := 1) X dX5_take_38 (by decide +kernel) ?_
  refine r_iaddE (v := 13) X dX5_take_39 (by decide +kernel) ?_
  refine a_put (a := 79) X hn fp_X5_15 dX5_take_40 rfl rfl rfl rfl ?_
  refine r_eq (h' := h0 ++ (((frC n ++ T).set 79 (eO 5 [vR (n + 80), vI 13, vI 0, vI 0, vI 0, vI 2, vI 0, vI 0, vI ((-1)), vI 0, vR (n + 81), vI 0, vR (n + 82), vI 0])).set 80 (eI 400 g16))) rfl rfl rfl ?_
  refine r_iinc (v := 16) X dX5_take_43 rfl (by decide +kernel) (by decide) ?_
  refine r_goto (tgt := 3) X dX5_take_46 rfl ?_
  refine r_iload_n X dX5_take_3 rfl ?_
  refine r_if_lt_f (tgt := 49) X dX5_take_4 rfl (by decide +kernel) ?_
  refine r_aload_n X dX5_take_7 rfl ?_
  refine a_get (a := 79) X hn fg_X5_15 dX5_take_8 rfl rfl ?_
  refine r_sipush (v := 400) X dX5_take_11 (by decide +kernel) ?_
  refine r_icmp_ge_f (tgt := 43) X dX5_take_14 rfl (by decide +kernel) ?_
  refine r_aload_n X dX5_take_17 rfl ?_
  refine a_get (a := 79) X hn fg_X5_9 dX5_take_18 rfl rfl ?_
  refine r_aload_n X dX5_take_21 rfl ?_
  refine a_get (a := 79) X hn fg_X5_15 dX5_take_22 rfl rfl ?_
  refine r_iload_n X dX5_take_25 rfl ?_
  refine r_iload_n X dX5_take_26 rfl ?_
  refine r_iushr X dX5_take_27 rfl ?_
  refine r_sipush (v := 255) X dX5_take_28 (by decide +kernel) ?_
  refine r_iand X dX5_take_31 ?_
  refine a_iast_any (a := 80) X hn dX5_take_32 rfl (inK (by decide +kernel)) (fun g17 => ?_)
  refine r_eq (h' := h0 ++ (((frC n ++ T).set 79 (eO 5 [vR (n + 80), vI 13, vI 0, vI 0, vI 0, vI 2, vI 0, vI 0, vI ((-1)), vI 0, vR (n + 81), vI 0, vR (n + 82), vI 0])).set 80 (eI 400 g17))) rfl rfl rfl ?_
  refine r_aload_n X dX5_take_33 rfl ?_
  refine r_dup X dX5_take_34 ?_
  refine a_get (a := 79) X hn fg_X5_15 dX5_take_35 rfl rfl ?_
  refine r_iconst (v := 1) X dX5_take_38 (by decide +kernel) ?_
  refine r_iaddE (v := 14) X dX5_take_39 (by decide +kernel) ?_
  refine a_put (a := 79) X hn fp_X5_15 dX5_take_40 rfl rfl rfl rfl ?_
  refine r_eq (h' := h0 ++ (((frC n ++ T).set 79 (eO 5 [vR (n + 80), vI 14, vI 0, vI 0, vI 0, vI 2, vI 0, vI 0, vI ((-1)), vI 0, vR (n + 81), vI 0, vR (n + 82), vI 0])).set 80 (eI 400 g17))) rfl rfl rfl ?_
  refine r_iinc (v := 8) X dX5_take_43 rfl (by decide +kernel) (by decide) ?_
  refine r_goto (tgt := 3) X dX5_take_46 rfl ?_
  refine r_iload_n X dX5_take_3 rfl ?_
  refine r_if_lt_f (tgt := 49) X dX5_take_4 rfl (by decide +kernel) ?_
  refine r_aload_n X dX5_take_7 rfl ?_
  refine a_get (a := 79) X hn fg_X5_15 dX5_take_8 rfl rfl ?_
  refine r_sipush (v := 400) X dX5_take_11 (by decide +kernel) ?_
  refine r_icmp_ge_f (tgt := 43) X dX5_take_14 rfl (by decide +kernel) ?_
  refine r_aload_n X dX5_take_17 rfl ?_
  refine a_get (a := 79) X hn fg_X5_9 dX5_take_18 rfl rfl ?_
  refine r_aload_n X dX5_take_21 rfl ?_
  refine a_get (a := 79) X hn fg_X5_15 dX5_take_22 rfl rfl ?_
  refine r_iload_n X dX5_take_25 rfl ?_
  refine r_iload_n X dX5_take_26 rfl ?_
  refine r_iushr X dX5_take_27 rfl ?_
  refine r_sipush (v := 255) X dX5_take_28 (by decide +kernel) ?_
  refine r_iand X dX5_take_31 ?_
  refine a_iast_any (a := 80) X hn dX5_take_32 rfl (inK (by decide +kernel)) (fun g18 => ?_)
  refine r_eq (h' := h0 ++ (((frC n ++ T).set 79 (eO 5 [vR (n + 80), vI 14, vI 0, vI 0, vI 0, vI 2, vI 0, vI 0, vI ((-1)), vI 0, vR (n + 81), vI 0, vR (n + 82), vI 0])).set 80 (eI 400 g18))) rfl rfl rfl ?_
  refine r_aload_n X dX5_take_33 rfl ?_
  refine r_dup X dX5_take_34 ?_
  refine a_get (a := 79) X hn fg_X5_15 dX5_take_35 rfl rfl ?_
  refine r_iconst (v := 1) X dX5_take_38 (by decide +kernel) ?_
  refine r_iaddE (v := 15) X dX5_take_39 (by decide +kernel) ?_
  refine a_put (a := 79) X hn fp_X5_15 dX5_take_40 rfl rfl rfl rfl ?_
  refine r_eq (h' := h0 ++ (((frC n ++ T).set 79 (eO 5 [vR (n + 80), vI 15, vI 0, vI 0, vI 0, vI 2, vI 0, vI 0, vI ((-1)), vI 0, vR (n + 81), vI 0, vR (n + 82), vI 0])).set 80 (eI 400 g18))) rfl rfl rfl ?_
  refine r_iinc (v := 0) X dX5_take_43 rfl (by decide +kernel) (by decide) ?_
  refine r_goto (tgt := 3) X dX5_take_46 rfl ?_
  refine r_iload_n X dX5_take_3 rfl ?_
  refine r_if_lt_f (tgt := 49) X dX5_take_4 rfl (by decide +kernel) ?_
  refine r_aload_n X dX5_take_7 rfl ?_
  refine a_get (a := 79) X hn fg_X5_15 dX5_take_8 rfl rfl ?_
  refine r_sipush (v := 400) X dX5_take_11 (by decide +kernel) ?_
  refine r_icmp_ge_f (tgt := 43) X dX5_take_14 rfl (by decide +kernel) ?_
  refine r_aload_n X dX5_take_17 rfl ?_
  refine a_get (a := 79) X hn fg_X5_9 dX5_take_18 rfl rfl ?_
  refine r_aload_n X dX5_take_21 rfl ?_
  refine a_get (a := 79) X hn fg_X5_15 dX5_take_22 rfl rfl ?_
  refine r_iload_n X dX5_take_25 rfl ?_
  refine r_iload_n X dX5_take_26 rfl ?_
  refine r_iushr X dX5_take_27 rfl ?_
  refine r_sipush (v := 255) X dX5_take_28 (by decide +kernel) ?_
  refine r_iand X dX5_take_31 ?_
  refine a_iast_any (a := 80) X hn dX5_take_32 rfl (inK (by decide +kernel)) (fun g19 => ?_)
  refine r_eq (h' := h0 ++ (((frC n ++ T).set 79 (eO 5 [vR (n + 80), vI 15, vI 0, vI 0, vI 0, vI 2, vI 0, vI 0, vI ((-1)), vI 0, vR (n + 81), vI 0, vR (n + 82), vI 0])).set 80 (eI 400 g19))) rfl rfl rfl ?_
  refine r_aload_n X dX5_take_33 rfl ?_
  refine r_dup X dX5_take_34 ?_
  refine a_get (a := 79) X hn fg_X5_15 dX5_take_35 rfl rfl ?_
  refine r_iconst (v := 1) X dX5_take_38 (by decide +kernel) ?_
  refine r_iaddE (v := 16) X dX5_take_39 (by decide +kernel) ?_
  refine a_put (a := 79) X hn fp_X5_15 dX5_take_40 rfl rfl rfl rfl ?_
  refine r_eq (h' := h0 ++ (((frC n ++ T).set 79 (eO 5 [vR (n + 80), vI 16, vI 0, vI 0, vI 0, vI 2, vI 0, vI 0, vI ((-1)), vI 0, vR (n + 81), vI 0, vR (n + 82), vI 0])).set 80 (eI 400 g19))) rfl rfl rfl ?_
  refine r_iinc (v := (-8)) X dX5_take_43 rfl (by decide +kernel) (by decide) ?_
  refine r_eq (ls' := [some (vR (n + 79)), some (vI z0), some (vI ((-8)))]) rfl rfl rfl ?_
  refine r_goto (tgt := 3) X dX5_take_46 rfl ?_
  refine r_iload_n X dX5_take_3 rfl ?_
  refine r_if_lt_t (tgt := 49) X dX5_take_4 rfl (by decide +kernel) ?_
  exact r_ret_v X hr hlk dX5_take_49 (Nat.le_of_ble_eq_true rfl) (Nat.le_of_ble_eq_true rfl) ⟨rfl, ⟨_, rfl⟩⟩
set_option maxRecDepth 100000 in
set_option maxHeartbeats 4000000 in
theorem kx29_X5_take (l : Launch) (G : PG) (h0 : PH) (n : Nat) (hn : h0.length = n) (T : PH) (z0 : Int32) (g20 : Nat → Int32) : PMet l G yX5_take cX5_take 3 none 0 0 0 [vR (n + 79), vI z0] (h0 ++ (((frC n ++ T).set 79 (eO 5 [vR (n + 80), vI 16, vI 0, vI 0, vI 0, vI 2, vI 0, vI 0, vI ((-1)), vI 0, vR (n + 81), vI 0, vR (n + 82), vI 0])).set 80 (eI 400 g20))) (qV (fun h' => ∃ g24 : Nat → Int32, h' = h0 ++ (((frC n ++ T).set 79 (eO 5 [vR (n + 80), vI 20, vI 0, vI 0, vI 0, vI 2, vI 0, vI 0, vI ((-1)), vI 0, vR (n + 81), vI 0, vR (n + 82), vI 0])).set 80 (eI 400 g24)))) := by
  refine PMet.intro (by decide) (Nat.le_of_ble_eq_true rfl) ?_
  intro p e s m args below meth c X hr hlk hnm
  refine r_bipush (v := 24) X dX5_take_0 (by decide +kernel) ?_
  refine r_istore_n X dX5_take_2 (by decide) ?_
  refine r_iload_n X dX5_take_3 rfl ?_
  refine r_if_lt_f (tgt := 49) X dX5_take_4 rfl (by decide +kernel) ?_
  refine r_aload_n X dX5_take_7 rfl ?_
  refine a_get (a := 79) X hn fg_X5_15 dX5_take_8 rfl rfl ?_
  refine r_sipush (v := 400) X dX5_take_11 (by decide +kernel) ?_
  refine r_icmp_ge_f (tgt := 43) X dX5_take_14 rfl (by decide +kernel) ?_
  refine r_aload_n X dX5_take_17 rfl ?_
  refine a_get (a := 79) X hn fg_X5_9 dX5_take_18 rfl rfl ?_
  refine r_aload_n X dX5_take_21 rfl ?_
  refine a_get (a := 79) X hn fg_X5_15 dX5_take_22 rfl rfl ?_
  refine r_iload_n X dX5_take_25 rfl ?_
  refine r_iload_n X dX5_take_26 rfl ?_
  refine r_iushr X dX5_take_27 rfl ?_
  refine r_sipush (v := 255) X dX5_take_28 (by decide +kernel) ?_
  refine r_iand X dX5_take_31 ?_
  refine a_iast_any (a := 80) X hn dX5_take_32 rfl (inK (by decide +kernel)) (fun g21 => ?_)
  refine r_eq (h' := h0 ++ (((frC n ++ T).set 79 (eO 5 [vR (n + 80), vI 16, vI 0, vI 0, vI 0, vI 2, vI 0, vI 0, vI ((-1)), vI 0, vR (n + 81), vI 0, vR (n + 82), vI 0])).set 80 (eI 400 g21))) rfl rfl rfl ?_
  refine r_aload_n X dX5_take_33 rfl ?_
  refine r_dup X dX5_take_34 ?_
  refine a_get (a := 79) X hn fg_X5_15 dX5_take_35 rfl rfl ?_
  refine r_iconst (v := 1) X dX5_take_38 (by decide +kernel) ?_
  refine r_iaddE (v := 17) X dX5_take_39 (by decide +kernel) ?_
  refine a_put (a := 79) X hn fp_X5_15 dX5_take_40 rfl rfl rfl rfl ?_
  refine r_eq (h' := h0 ++ (((frC n ++ T).set 79 (eO 5 [vR (n + 80), vI 17, vI 0, vI 0, vI 0, vI 2, vI 0, vI 0, vI ((-1)), vI 0, vR (n + 81), vI 0, vR (n + 82), vI 0])).set 80 (eI 400 g21))) rfl rfl rfl ?_
  refine r_iinc (v := 16) X dX5_take_43 rfl (by decide +kernel) (by decide) ?_
  refine r_goto (tgt := 3) X dX5_take_46 rfl ?_
  refine r_iload_n X dX5_take_3 rfl ?_
  refine r_if_lt_f (tgt := 49) X dX5_take_4 rfl (by decide +kernel) ?_
  refine r_aload_n X dX5_take_7 rfl ?_
  refine a_get (a := 79) X hn fg_X5_15 dX5_take_8 rfl rfl ?_
  refine r_sipush (v := 400) X dX5_take_11 (by decide +kernel) ?_
  refine r_icmp_ge_f (tgt := 43) X dX5_take_14 rfl (by decide +kernel) ?_
  refine r_aload_n X dX5_take_17 rfl ?_
  refine a_get (a := 79) X hn fg_X5_9 dX5_take_18 rfl rfl ?_
  refine r_aload_n X dX5_take_21 rfl ?_
  refine a_get (a := 79) X hn fg_X5_15 dX5_take_22 rfl rfl ?_
  refine r_iload_n X dX5_take_25 rfl ?_
  refine r_iload_n X dX5_take_26 rfl ?_
  refine r_iushr X dX5_take_27 rfl ?_
  refine r_sipush (v := 255) X dX5_take_28 (by decide +kernel) ?_
  refine r_iand X dX5_take_31 ?_
  refine a_iast_any (a := 80) X hn dX5_take_32 rfl (inK (by decide +kernel)) (fun g22 => ?_)
  refine r_eq (h' := h0 ++ (((frC n ++ T).set 79 (eO 5 [vR (n + 80), vI 17, vI 0, vI 0, vI 0, vI 2, vI 0, vI 0, vI ((-1)), vI 0, vR (n + 81), vI 0, vR (n + 82), vI 0])).set 80 (eI 400 g22))) rfl rfl rfl ?_
  refine r_aload_n X dX5_take_33 rfl ?_
  refine r_dup X dX5_take_34 ?_
  refine a_get (a := 79) X hn fg_X5_15 dX5_take_35 rfl rfl ?_
  refine r_iconst (v := 1) X dX5_take_38 (by decide +kernel) ?_
  refine r_iaddE (v := 18) X dX5_take_39 (by decide +kernel) ?_
  refine a_put (a := 79) X hn fp_X5_15 dX5_take_40 rfl rfl rfl rfl ?_
  refine r_eq (h' := h0 ++ (((frC n ++ T).set 79 (eO 5 [vR (n + 80), vI 18, vI 0, vI 0, vI 0, vI 2, vI 0, vI 0, vI ((-1)), vI 0, vR (n + 81), vI 0, vR (n + 82), vI 0])).set 80 (eI 400 g22))) rfl rfl rfl ?_
  refine r_iinc (v := 8) X dX5_take_43 rfl (by decide +kernel) (by decide) ?_
  refine r_goto (tgt := 3) X dX5_take_46 rfl ?_
  refine r_iload_n X dX5_take_3 rfl ?_
  refine r_if_lt_f (tgt := 49) X dX5_take_4 rfl (by decide +kernel) ?_
  refine r_aload_n X dX5_take_7 rfl ?_
  refine a_get (a := 79) X hn fg_X5_15 dX5_take_8 rfl rfl ?_
  refine r_sipush (v := 400) X dX5_take_11 (by decide +kernel) ?_
  refine r_icmp_ge_f (tgt := 43) X dX5_take_14 rfl (by decide +kernel) ?_
  refine r_aload_n X dX5_take_17 rfl ?_
  refine a_get (a := 79) X hn fg_X5_9 dX5_take_18 rfl rfl ?_
  refine r_aload_n X dX5_take_21 rfl ?_
  refine a_get (a := 79) X hn fg_X5_15 dX5_take_22 rfl rfl ?_
  refine r_iload_n X dX5_take_25 rfl ?_
  refine r_iload_n X dX5_take_26 rfl ?_
  refine r_iushr X dX5_take_27 rfl ?_
  refine r_sipush (v := 255) X dX5_take_28 (by decide +kernel) ?_
  refine r_iand X dX5_take_31 ?_
  refine a_iast_any (a := 80) X hn dX5_take_32 rfl (inK (by decide +kernel)) (fun g23 => ?_)
  refine r_eq (h' := h0 ++ (((frC n ++ T).set 79 (eO 5 [vR (n + 80), vI 18, vI 0, vI 0, vI 0, vI 2, vI 0, vI 0, vI ((-1)), vI 0, vR (n + 81), vI 0, vR (n + 82), vI 0])).set 80 (eI 400 g23))) rfl rfl rfl ?_
  refine r_aload_n X dX5_take_33 rfl ?_
  refine r_dup X dX5_take_34 ?_
  refine a_get (a := 79) X hn fg_X5_15 dX5_take_35 rfl rfl ?_
  refine r_iconst (v := 1) X dX5_take_38 (by decide +kernel) ?_
  refine r_iaddE (v := 19) X dX5_take_39 (by decide +kernel) ?_
  refine a_put (a := 79) X hn fp_X5_15 dX5_take_40 rfl rfl rfl rfl ?_
  refine r_eq (h' := h0 ++ (((frC n ++ T).set 79 (eO 5 [vR (n + 80), vI 19, vI 0, vI 0, vI 0, vI 2, vI 0, vI 0, vI ((-1)), vI 0, vR (n + 81), vI 0, vR (n + 82), vI 0])).set 80 (eI 400 g23))) rfl rfl rfl ?_
  refine r_iinc (v := 0) X dX5_take_43 rfl (by decide +kernel) (by decide) ?_
  refine r_goto (tgt := 3) X dX5_take_46 rfl ?_
  refine r_iload_n X dX5_take_3 rfl ?_
  refine r_if_lt_f (tgt := 49) X dX5_take_4 rfl (by decide +kernel) ?_
  refine r_aload_n X dX5_take_7 rfl ?_
  refine a_get (a := 79) X hn fg_X5_15 dX5_take_8 rfl rfl ?_
  refine r_sipush (v := 400) X dX5_take_11 (by decide +kernel) ?_
  refine r_icmp_ge_f (tgt := 43) X dX5_take_14 rfl (by decide +kernel) ?_
  refine r_aload_n X dX5_take_17 rfl ?_
  refine a_get (a := 79) X hn fg_X5_9 dX5_take_18 rfl rfl ?_
  refine r_aload_n X dX5_take_21 rfl ?_
  refine a_get (a := 79) X hn fg_X5_15 dX5_take_22 rfl rfl ?_
  refine r_iload_n X dX5_take_25 rfl ?_
  refine r_iload_n X dX5_take_26 rfl ?_
  refine r_iushr X dX5_take_27 rfl ?_
  refine r_sipush (v := 255) X dX5_take_28 (by decide +kernel) ?_
  refine r_iand X dX5_take_31 ?_
  refine a_iast_any (a := 80) X hn dX5_take_32 rfl (inK (by decide +kernel)) (fun g24 => ?_)
  refine r_eq (h' := h0 ++ (((frC n ++ T).set 79 (eO 5 [vR (n + 80), vI 19, vI 0, vI 0, vI 0, vI 2, vI 0, vI 0, vI ((-1)), vI 0, vR (n + 81), vI 0, vR (n + 82), vI 0])).set 80 (eI 400 g24))) rfl rfl rfl ?_
  refine r_aload_n X dX5_take_33 rfl ?_
  refine r_dup X dX5_take_34 ?_
  refine a_get (a := 79) X hn fg_X5_15 dX5_take_35 rfl rfl ?_
  refine r_iconst (v := 1) X dX5_take_38 (by decide +kernel) ?_
  refine r_iaddE (v := 20) X dX5_take_39 (by decide +kernel) ?_
  refine a_put (a := 79) X hn fp_X5_15 dX5_take_40 rfl rfl rfl rfl ?_
  refine r_eq (h' := h0 ++ (((frC n ++ T).set 79 (eO 5 [vR (n + 80), vI 20, vI 0, vI 0, vI 0, vI 2, vI 0, vI 0, vI ((-1)), vI 0, vR (n + 81), vI 0, vR (n + 82), vI 0])).set 80 (eI 400 g24))) rfl rfl rfl ?_
  refine r_iinc (v := (-8)) X dX5_take_43 rfl (by decide +kernel) (by decide) ?_
  refine r_eq (ls' := [some (vR (n + 79)), some (vI z0), some (vI ((-8)))]) rfl rfl rfl ?_
  refine r_goto (tgt := 3) X dX5_take_46 rfl ?_
  refine r_iload_n X dX5_take_3 rfl ?_
  refine r_if_lt_t (tgt := 49) X dX5_take_4 rfl (by decide +kernel) ?_
  exact r_ret_v X hr hlk dX5_take_49 (Nat.le_of_ble_eq_true rfl) (Nat.le_of_ble_eq_true rfl) ⟨rfl, ⟨_, rfl⟩⟩
set_option maxRecDepth 100000 in
set_option maxHeartbeats 4000000 in
theorem x_feed (l : Launch) (G : PG) (h0 : PH) (n : Nat) (hn : h0.length = n) (T : PH) (a b c0 d f : Int32) : PMet l G yX11_feed cX11_feed 6 (some .int) 1 0 0 [vR (n + 0), vI a, vI b, vI c0, vI d, vI f] (h0 ++ (frC n ++ T)) (qI (fun x h' => x = sp_feed a b c0 d f ∧ kp n 103 T h')) := by
  refine PMet.intro (by decide) (Nat.le_of_ble_eq_true rfl) ?_
  intro p e s m args below meth c X hr hlk hnm
  refine r_aload_n X dX11_feed_0 rfl ?_
  refine a_get (a := 0) X hn fg_X11_33 dX11_feed_1 rfl rfl ?_
  refine a_get (a := 79) X hn fg_X11_147 dX11_feed_4 rfl rfl ?_
  refine r_bipush (v := 20) X dX11_feed_7 (by decide +kernel) ?_
  refine r_iaddE (v := 20) X dX11_feed_9 (by decide +kernel) ?_
  refine r_sipush (v := 400) X dX11_feed_10 (by decide +kernel) ?_
  refine r_icmp_le_t (tgt := 18) X dX11_feed_13 rfl (by decide +kernel) ?_
  refine r_aload_n X dX11_feed_18 rfl ?_
  refine a_get (a := 0) X hn fg_X11_33 dX11_feed_19 rfl rfl ?_
  refine r_iload_n X dX11_feed_22 rfl ?_
  refine r_V1v X kv_X11_150 dX11_feed_23 (apG (k := 79) hn rfl) rfl (kx25_X5_take l G _ _ hn _ _) rfl (fun h' hΨ => ?_)
  obtain ⟨g5, rfl⟩ := hΨ
  refine r_aload_n X dX11_feed_26 rfl ?_
  refine a_get (a := 0) X hn fg_X11_33 dX11_feed_27 rfl rfl ?_
  refine r_iload_n X dX11_feed_30 rfl ?_
  refine r_V1v X kv_X11_150 dX11_feed_31 (apG (k := 79) hn rfl) rfl (kx26_X5_take l G _ _ hn _ _ _) rfl (fun h' hΨ => ?_)
  obtain ⟨g10, rfl⟩ := hΨ
  refine r_aload_n X dX11_feed_34 rfl ?_
  refine a_get (a := 0) X hn fg_X11_33 dX11_feed_35 rfl rfl ?_
  refine r_iload_n X dX11_feed_38 rfl ?_
  refine r_V1v X kv_X11_150 dX11_feed_39 (apG (k := 79) hn rfl) rfl (kx27_X5_take l G _ _ hn _ _ _) rfl (fun h' hΨ => ?_)
  obtain ⟨g15, rfl⟩ := hΨ
  refine r_aload_n X dX11_feed_42 rfl ?_
  refine a_get (a := 0) X hn fg_X11_33 dX11_feed_43 rfl rfl ?_
  refine r_iload X dX11_feed_46 rfl ?_
  refine r_V1v X kv_X11_150 dX11_feed_48 (apG (k := 79) hn rfl) rfl (kx28_X5_take l G _ _ hn _ _ _) rfl (fun h' hΨ => ?_)
  obtain ⟨g20, rfl⟩ := hΨ
  refine r_aload_n X dX11_feed_51 rfl ?_
  refine a_get (a := 0) X hn fg_X11_33 dX11_feed_52 rfl rfl ?_
  refine r_iload X dX11_feed_55 rfl ?_
  refine r_V1v X kv_X11_150 dX11_feed_57 (apG (k := 79) hn rfl) rfl (kx29_X5_take l G _ _ hn _ _ _) rfl (fun h' hΨ => ?_)
  obtain ⟨g25, rfl⟩ := hΨ
  refine r_aload_n X dX11_feed_60 rfl ?_
  refine a_get (a := 0) X hn fg_X11_33 dX11_feed_61 rfl rfl ?_
  refine a_get (a := 79) X hn fg_X11_147 dX11_feed_64 rfl rfl ?_
  exact r_ret_i X hr hlk dX11_feed_67 (Nat.le_of_ble_eq_true rfl) (Nat.le_of_ble_eq_true rfl) ⟨_, rfl, rfl, kp_of hn rfl rfl⟩
