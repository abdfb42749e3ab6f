set_option maxRecDepth 100000 in
set_option maxHeartbeats 4000000 in
theorem km9_X12_types (l : Launch) (G : PG) (h0 : PH) (n : Nat) (hn : h0.length = n) (wf : Nat → Int32) (z0 : Int32) : PMet l G yX12_types cX12_types 3 none 0 0 0 [vR (n + 0), vI z0] (h0 ++ (frM n wf)) (qV (fun h' => ∃ g4 : Nat → Int32, h' = h0 ++ (((frM n wf).set 0 (eO 12 [vI 0, vR (n + 1), vR (n + 2), vI 0, vR (n + 3), vI 0, vI 0, vR (n + 4), vR (n + 5), vR (n + 6), vR (n + 7), vR (n + 8), vI 4, vI 0, vI 0, vI 0, vI 0, vR (n + 9), vR (n + 10), vR (n + 11), vR (n + 12), vR (n + 13), vR (n + 14), vR (n + 15), vR (n + 16), vI 0, vI 0, vI 0, vR (n + 17), vI 0, vI 0, vI 0, vI 0, vI ((-1)), vI 0, vR (n + 18), vI 0, vR (n + 19), vI 0, vR (n + 20), vR (n + 21), vR (n + 22), vR (n + 23), vI 0, vR (n + 24), vR (n + 25), vI 0, vR (n + 26), vR (n + 27), vR (n + 28), vI 0, vR (n + 29), vI 0, vR (n + 30), vI 0, vR (n + 31), vR (n + 32), vI 0, vR (n + 33), vR (n + 34), vR (n + 35), vI 0, vR (n + 36), vI 0, vR (n + 37), vI 0, vR (n + 38), vR (n + 39), vR (n + 40), vR (n + 41), vI 0, vI 0, vI 0, vI 0, vI 0, vR (n + 42)])).set 8 (eI 400 g4)))) := by
  refine PMet.intro (by decide) (Nat.le_of_ble_eq_true rfl) ?_
  intro p e s m args below meth c X hr hlk hnm
  refine r_bipush (v := 24) X dX12_types_0 (by decide +kernel) ?_
  refine r_istore_n X dX12_types_2 (by decide) ?_
  refine r_iload_n X dX12_types_3 rfl ?_
  refine r_if_lt_f (tgt := 39) X dX12_types_4 rfl (by decide +kernel) ?_
  refine r_aload_n X dX12_types_7 rfl ?_
  refine a_get (a := 0) X hn fg_X12_31 dX12_types_8 rfl rfl ?_
  refine r_aload_n X dX12_types_11 rfl ?_
  refine a_get (a := 0) X hn fg_X12_166 dX12_types_12 rfl rfl ?_
  refine r_iload_n X dX12_types_15 rfl ?_
  refine r_iload_n X dX12_types_16 rfl ?_
  refine r_ishr X dX12_types_17 ?_
  refine r_sipush (v := 255) X dX12_types_18 (by decide +kernel) ?_
  refine r_iand X dX12_types_21 ?_
  refine a_iast_any (a := 8) X hn dX12_types_22 rfl (inK (by decide +kernel)) (fun g1 => ?_)
  refine r_eq (h' := h0 ++ ((frM n wf).set 8 (eI 400 g1))) rfl rfl rfl ?_
  refine r_aload_n X dX12_types_23 rfl ?_
  refine r_aload_n X dX12_types_24 rfl ?_
  refine a_get (a := 0) X hn fg_X12_166 dX12_types_25 rfl rfl ?_
  refine r_iconst (v := 1) X dX12_types_28 (by decide +kernel) ?_
  refine r_iaddE (v := 1) X dX12_types_29 (by decide +kernel) ?_
  refine a_put (a := 0) X hn fp_X12_166 dX12_types_30 rfl rfl rfl rfl ?_
  refine r_eq (h' := h0 ++ (((frM n wf).set 0 (eO 12 [vI 0, vR (n + 1), vR (n + 2), vI 0, vR (n + 3), vI 0, vI 0, vR (n + 4), vR (n + 5), vR (n + 6), vR (n + 7), vR (n + 8), vI 1, vI 0, vI 0, vI 0, vI 0, vR (n + 9), vR (n + 10), vR (n + 11), vR (n + 12), vR (n + 13), vR (n + 14), vR (n + 15), vR (n + 16), vI 0, vI 0, vI 0, vR (n + 17), vI 0, vI 0, vI 0, vI 0, vI ((-1)), vI 0, vR (n + 18), vI 0, vR (n + 19), vI 0, vR (n + 20), vR (n + 21), vR (n + 22), vR (n + 23), vI 0, vR (n + 24), vR (n + 25), vI 0, vR (n + 26), vR (n + 27), vR (n + 28), vI 0, vR (n + 29), vI 0, vR (n + 30), vI 0, vR (n + 31), vR (n + 32), vI 0, vR (n + 33), vR (n + 34), vR (n + 35), vI 0, vR (n + 36), vI 0, vR (n + 37), vI 0, vR (n + 38), vR (n + 39), vR (n + 40), vR (n + 41), vI 0, vI 0, vI 0, vI 0, vI 0, vR (n + 42)])).set 8 (eI 400 g1))) rfl rfl rfl ?_
  refine r_iinc (v := 16) X dX12_types_33 rfl (by decide +kernel) (by decide) ?_
  refine r_goto (tgt := 3) X dX12_types_36 rfl ?_
  refine r_iload_n X dX12_types_3 rfl ?_
  refine r_if_lt_f (tgt := 39) X dX12_types_4 rfl (by decide +kernel) ?_
  refine r_aload_n X dX12_types_7 rfl ?_
  refine a_get (a := 0) X hn fg_X12_31 dX12_types_8 rfl rfl ?_
  refine r_aload_n X dX12_types_11 rfl ?_
  refine a_get (a := 0) X hn fg_X12_166 dX12_types_12 rfl rfl ?_
  refine r_iload_n X dX12_types_15 rfl ?_
  refine r_iload_n X dX12_types_16 rfl ?_
  refine r_ishr X dX12_types_17 ?_
  refine r_sipush (v := 255) X dX12_types_18 (by decide +kernel) ?_
  refine r_iand X dX12_types_21 ?_
  refine a_iast_any (a := 8) X hn dX12_types_22 rfl (inK (by decide +kernel)) (fun g2 => ?_)
  refine r_eq (h' := h0 ++ (((frM n wf).set 0 (eO 12 [vI 0, vR (n + 1), vR (n + 2), vI 0, vR (n + 3), vI 0, vI 0, vR (n + 4), vR (n + 5), vR (n + 6), vR (n + 7), vR (n + 8), vI 1, vI 0, vI 0, vI 0, vI 0, vR (n + 9), vR (n + 10), vR (n + 11), vR (n + 12), vR (n + 13), vR (n + 14), vR (n + 15), vR (n + 16), vI 0, vI 0, vI 0, vR (n + 17), vI 0, vI 0, vI 0, vI 0, vI ((-1)), vI 0, vR (n + 18), vI 0, vR (n + 19), vI 0, vR (n + 20), vR (n + 21), vR (n + 22), vR (n + 23), vI 0, vR (n + 24), vR (n + 25), vI 0, vR (n + 26), vR (n + 27), vR (n + 28), vI 0, vR (n + 29), vI 0, vR (n + 30), vI 0, vR (n + 31), vR (n + 32), vI 0, vR (n + 33), vR (n + 34), vR (n + 35), vI 0, vR (n + 36), vI 0, vR (n + 37), vI 0, vR (n + 38), vR (n + 39), vR (n + 40), vR (n + 41), vI 0, vI 0, vI 0, vI 0, vI 0, vR (n + 42)])).set 8 (eI 400 g2))) rfl rfl rfl ?_
  refine r_aload_n X dX12_types_23 rfl ?_
  refine r_aload_n X dX12_types_24 rfl ?_
  refine a_get (a := 0) X hn fg_X12_166 dX12_types_25 rfl rfl ?_
  refine r_iconst (v := 1) X dX12_types_28 (by decide +kernel) ?_
  refine r_iaddE (v := 2) X dX12_types_29 (by decide +kernel) ?_
  refine a_put (a := 0) X hn fp_X12_166 dX12_types_30 rfl rfl rfl rfl ?_
  refine r_eq (h' := h0 ++ (((frM n wf).set 0 (eO 12 [vI 0, vR (n + 1), vR (n + 2), vI 0, vR (n + 3), vI 0, vI 0, vR (n + 4), vR (n + 5), vR (n + 6), vR (n + 7), vR (n + 8), vI 2, vI 0, vI 0, vI 0, vI 0, vR (n + 9), vR (n + 10), vR (n + 11), vR (n + 12), vR (n + 13), vR (n + 14), vR (n + 15), vR (n + 16), vI 0, vI 0, vI 0, vR (n + 17), vI 0, vI 0, vI 0, vI 0, vI ((-1)), vI 0, vR (n + 18), vI 0, vR (n + 19), vI 0, vR (n + 20), vR (n + 21), vR (n + 22), vR (n + 23), vI 0, vR (n + 24), vR (n + 25), vI 0, vR (n + 26), vR (n + 27), vR (n + 28), vI 0, vR (n + 29), vI 0, vR (n + 30), vI 0, vR (n + 31), vR (n + 32), vI 0, vR (n + 33), vR (n + 34), vR (n + 35), vI 0, vR (n + 36), vI 0, vR (n + 37), vI 0, vR (n + 38), vR (n + 39), vR (n + 40), vR (n + 41), vI 0, vI 0, vI 0, vI 0, vI 0, vR (n + 42)])).set 8 (eI 400 g2))) rfl rfl rfl ?_
  refine r_iinc (v := 8) X dX12_types_33 rfl (by decide +kernel) (by decide) ?_
  refine r_goto (tgt := 3) X dX12_types_36 rfl ?_
  refine r_iload_n X dX12_types_3 rfl ?_
  refine r_if_lt_f (tgt := 39) X dX12_types_4 rfl (by decide +kernel) ?_
  refine r_aload_n X dX12_types_7 rfl ?_
  refine a_get (a := 0) X hn fg_X12_31 dX12_types_8 rfl rfl ?_
  refine r_aload_n X dX12_types_11 rfl ?_
  refine a_get (a := 0) X hn fg_X12_166 dX12_types_12 rfl rfl ?_
  refine r_iload_n X dX12_types_15 rfl ?_
  refine r_iload_n X dX12_types_16 rfl ?_
  refine r_ishr X dX12_types_17 ?_
  refine r_sipush (v := 255) X dX12_types_18 (by decide +kernel) ?_
  refine r_iand X dX12_types_21 ?_
  refine a_iast_any (a := 8) X hn dX12_types_22 rfl (inK (by decide +kernel)) (fun g3 => ?_)
  refine r_eq (h' := h0 ++ (((frM n wf).set 0 (eO 12 [vI 0, vR (n + 1), vR (n + 2), vI 0, vR (n + 3), vI 0, vI 0, vR (n + 4), vR (n + 5), vR (n + 6), vR (n + 7), vR (n + 8), vI 2, vI 0, vI 0, vI 0, vI 0, vR (n + 9), vR (n + 10), vR (n + 11), vR (n + 12), vR (n + 13), vR (n + 14), vR (n + 15), vR (n + 16), vI 0, vI 0, vI 0, vR (n + 17), vI 0, vI 0, vI 0, vI 0, vI ((-1)), vI 0, vR (n + 18), vI 0, vR (n + 19), vI 0, vR (n + 20), vR (n + 21), vR (n + 22), vR (n + 23), vI 0, vR (n + 24), vR (n + 25), vI 0, vR (n + 26), vR (n + 27), vR (n + 28), vI 0, vR (n + 29), vI 0, vR (n + 30), vI 0, vR (n + 31), vR (n + 32), vI 0, vR (n + 33), vR (n + 34), vR (n + 35), vI 0, vR (n + 36), vI 0, vR (n + 37), vI 0, vR (n + 38), vR (n + 39), vR (n + 40), vR (n + 41), vI 0, vI 0, vI 0, vI 0, vI 0, vR (n + 42)])).set 8 (eI 400 g3))) rfl rfl rfl ?_
  refine r_aload_n X dX12_types_23 rfl ?_
  refine r_aload_n X dX12_types_24 rfl ?_
  refine a_get (a := 0) X hn fg_X12_166 dX12_types_25 rfl rfl ?_
  refine r_iconst (v := 1) X dX12_types_28 (by decide +kernel) ?_
  refine r_iaddE (v := 3) X dX12_types_29 (by decide +kernel) ?_
  refine a_put (a := 0) X hn fp_X12_166 dX12_types_30 rfl rfl rfl rfl ?_
  refine r_eq (h' := h0 ++ (((frM n wf).set 0 (eO 12 [vI 0, vR (n + 1), vR (n + 2), vI 0, vR (n + 3), vI 0, vI 0, vR (n + 4), vR (n + 5), vR (n + 6), vR (n + 7), vR (n + 8), vI 3, vI 0, vI 0, vI 0, vI 0, vR (n + 9), vR (n + 10), vR (n + 11), vR (n + 12), vR (n + 13), vR (n + 14), vR (n + 15), vR (n + 16), vI 0, vI 0, vI 0, vR (n + 17), vI 0, vI 0, vI 0, vI 0, vI ((-1)), vI 0, vR (n + 18), vI 0, vR (n + 19), vI 0, vR (n + 20), vR (n + 21), vR (n + 22), vR (n + 23), vI 0, vR (n + 24), vR (n + 25), vI 0, vR (n + 26), vR (n + 27), vR (n + 28), vI 0, vR (n + 29), vI 0, vR (n + 30), vI 0, vR (n + 31), vR (n + 32), vI 0, vR (n + 33), vR (n + 34), vR (n + 35), vI 0, vR (n + 36), vI 0, vR (n + 37), vI 0, vR (n + 38), vR (n + 39), vR (n + 40), vR (n + 41), vI 0, vI 0, vI 0, vI 0, vI 0, vR (n + 42)])).set 8 (eI 400 g3))) rfl rfl rfl ?_
  refine r_iinc (v := 0) X dX12_types_33 rfl (by decide +kernel) (by decide) ?_
  refine r_goto (tgt := 3) X dX12_types_36 rfl ?_
  refine r_iload_n X dX12_types_3 rfl ?_
  refine r_if_lt_f (tgt := 39) X dX12_types_4 rfl (by decide +kernel) ?_
  refine r_aload_n X dX12_types_7 rfl ?_
  refine a_get (a := 0) X hn fg_X12_31 dX12_types_8 rfl rfl ?_
  refine r_aload_n X dX12_types_11 rfl ?_
  refine a_get (a := 0) X hn fg_X12_166 dX12_types_12 rfl rfl ?_
  refine r_iload_n X dX12_types_15 rfl ?_
  refine r_iload_n X dX12_types_16 rfl ?_
  refine r_ishr X dX12_types_17 ?_
  refine r_sipush (v := 255) X dX12_types_18 (by decide +kernel) ?_
  refine r_iand X dX12_types_21 ?_
  refine a_iast_any (a := 8) X hn dX12_types_22 rfl (inK (by decide +kernel)) (fun g4 => ?_)
  refine r_eq (h' := h0 ++ (((frM n wf).set 0 (eO 12 [vI 0, vR (n + 1), vR (n + 2), vI 0, vR (n + 3), vI 0, vI 0, vR (n + 4), vR (n + 5), vR (n + 6), vR (n + 7), vR (n + 8), vI 3, vI 0, vI 0, vI 0, vI 0, vR (n + 9), vR (n + 10), vR (n + 11), vR (n + 12), vR (n + 13), vR (n + 14), vR (n + 15), vR (n + 16), vI 0, vI 0, vI 0, vR (n + 17), vI 0, vI 0, vI 0, vI 0, vI ((-1)), vI 0, vR (n + 18), vI 0, vR (n + 19), vI 0, vR (n + 20), vR (n + 21), vR (n + 22), vR (n + 23), vI 0, vR (n + 24), vR (n + 25), vI 0, vR (n + 26), vR (n + 27), vR (n + 28), vI 0, vR (n + 29), vI 0, vR (n + 30), vI 0, vR (n + 31), vR (n + 32), vI 0, vR (n + 33), vR (n + 34), vR (n + 35), vI 0, vR (n + 36), vI 0, vR (n + 37), vI 0, vR (n + 38), vR (n + 39), vR (n + 40), vR (n + 41), vI 0, vI 0, vI 0, vI 0, vI 0, vR (n + 42)])).set 8 (eI 400 g4))) rfl rfl rfl ?_
  refine r_aload_n X dX12_types_23 rfl ?_
  refine r_aload_n X dX12_types_24 rfl ?_
  refine a_get (a := 0) X hn fg_X12_166 dX12_types_25 rfl rfl ?_
  refine r_iconst (v := 1) X dX12_types_28 (by decide +kernel) ?_
  refine r_iaddE (v := 4) X dX12_types_29 (by decide +kernel) ?_
  refine a_put (a := 0) X hn fp_X12_166 dX12_types_30 rfl rfl rfl rfl ?_
  refine r_eq (h' := h0 ++ (((frM n wf).set 0 (eO 12 [vI 0, vR (n + 1), vR (n + 2), vI 0, vR (n + 3), vI 0, vI 0, vR (n + 4), vR (n + 5), vR (n + 6), vR (n + 7), vR (n + 8), vI 4, vI 0, vI 0, vI 0, vI 0, vR (n + 9), vR (n + 10), vR (n + 11), vR (n + 12), vR (n + 13), vR (n + 14), vR (n + 15), vR (n + 16), vI 0, vI 0, vI 0, vR (n + 17), vI 0, vI 0, vI 0, vI 0, vI ((-1)), vI 0, vR (n + 18), vI 0, vR (n + 19), vI 0, vR (n + 20), vR (n + 21), vR (n + 22), vR (n + 23), vI 0, vR (n + 24), vR (n + 25), vI 0, vR (n + 26), vR (n + 27), vR (n + 28), vI 0, vR (n + 29), vI 0, vR (n + 30), vI 0, vR (n + 31), vR (n + 32), vI 0, vR (n + 33), vR (n + 34), vR (n + 35), vI 0, vR (n + 36), vI 0, vR (n + 37), vI 0, vR (n + 38), vR (n + 39), vR (n + 40), vR (n + 41), vI 0, vI 0, vI 0, vI 0, vI 0, vR (n + 42)])).set 8 (eI 400 g4))) rfl rfl rfl ?_
  refine r_iinc (v := (-8)) X dX12_types_33 rfl (by decide +kernel) (by decide) ?_
  refine r_eq (ls' := [some (vR (n + 0)), some (vI z0), some (vI ((-8)))]) rfl rfl rfl ?_
  refine r_goto (tgt := 3) X dX12_types_36 rfl ?_
  refine r_iload_n X dX12_types_3 rfl ?_
  refine r_if_lt_t (tgt := 39) X dX12_types_4 rfl (by decide +kernel) ?_
  exact r_ret_v X hr hlk dX12_types_39 (Nat.le_of_ble_eq_true rfl) (Nat.le_of_ble_eq_true rfl) ⟨rfl, ⟨_, rfl⟩⟩
set_option maxRecDepth 100000 in
set_option maxHeartbeats 4000000 in
theorem km10_X12_types (l : Launch) (G : PG) (h0 : PH) (n : Nat) (hn : h0.length = n) (wf : Nat → Int32) (z0 : Int32) (g5 : Nat → Int32) : PMet l G yX12_types cX12_types 3 none 0 0 0 [vR (n + 0), vI z0] (h0 ++ (((frM n wf).set 0 (eO 12 [vI 0, vR (n + 1), vR (n + 2), vI 0, vR (n + 3), vI 0, vI 0, vR (n + 4), vR (n + 5), vR (n + 6), vR (n + 7), vR (n + 8), vI 4, vI 0, vI 0, vI 0, vI 0, vR (n + 9), vR (n + 10), vR (n + 11), vR (n + 12), vR (n + 13), vR (n + 14), vR (n + 15), vR (n + 16), vI 0, vI 0, vI 0, vR (n + 17), vI 0, vI 0, vI 0, vI 0, vI ((-1)), vI 0, vR (n + 18), vI 0, vR (n + 19), vI 0, vR (n + 20), vR (n + 21), vR (n + 22), vR (n + 23), vI 0, vR (n + 24), vR (n + 25), vI 0, vR (n + 26), vR (n + 27), vR (n + 28), vI 0, vR (n + 29), vI 0, vR (n + 30), vI 0, vR (n + 31), vR (n + 32), vI 0, vR (n + 33), vR (n + 34), vR (n + 35), vI 0, vR (n + 36), vI 0, vR (n + 37), vI 0, vR (n + 38), vR (n + 39), vR (n + 40), vR (n + 41), vI 0, vI 0, vI 0, vI 0, vI 0, vR (n + 42)])).set 8 (eI 400 g5))) (qV (fun h' => ∃ g9 : Nat → Int32, h' = h0 ++ (((frM n wf).set 0 (eO 12 [vI 0, vR (n + 1), vR (n + 2), vI 0, vR (n + 3), vI 0, vI 0, vR (n + 4), vR (n + 5), vR (n + 6), vR (n + 7), vR (n + 8), vI 8, vI 0, vI 0, vI 0, vI 0, vR (n + 9), vR (n + 10), vR (n + 11), vR (n + 12), vR (n + 13), vR (n + 14), vR (n + 15), vR (n + 16), vI 0, vI 0, vI 0, vR (n + 17), vI 0, vI 0, vI 0, vI 0, vI ((-1)), vI 0, vR (n + 18), vI 0, vR (n + 19), vI 0, vR (n + 20), vR (n + 21), vR (n + 22), vR (n + 23), vI 0, vR (n + 24), vR (n + 25), vI 0, vR (n + 26), vR (n + 27), vR (n + 28), vI 0, vR (n + 29), vI 0, vR (n + 30), vI 0, vR (n + 31), vR (n + 32), vI 0, vR (n + 33), vR (n + 34), vR (n + 35), vI 0, vR (n + 36), vI 0, vR (n + 37), vI 0, vR (n + 38), vR (n + 39), vR (n + 40), vR (n + 41), vI 0, vI 0, vI 0, vI 0, vI 0, vR (n + 42)])).set 8 (eI 400 g9)))) := by
  refine PMet.intro (by decide) (Nat.le_of_ble_eq_true rfl) ?_
  intro p e s m args below meth c X hr hlk hnm
  refine r_bipush (v := 24) X dX12_types_0 (by decide +kernel) ?_
  refine r_istore_n X dX12_types_2 (by decide) ?_
  refine r_iload_n X dX12_types_3 rfl ?_
  refine r_if_lt_f (tgt := 39) X dX12_types_4 rfl (by decide +kernel) ?_
  refine r_aload_n X dX12_types_7 rfl ?_
  refine a_get (a := 0) X hn fg_X12_31 dX12_types_8 rfl rfl ?_
  refine r_aload_n X dX12_types_11 rfl ?_
  refine a_get (a := 0) X hn fg_X12_166 dX12_types_12 rfl rfl ?_
  refine r_iload_n X dX12_types_15 rfl ?_
  refine r_iload_n X dX12_types_16 rfl ?_
  refine r_ishr X dX12_types_17 ?_
  refine r_sipush (v := 255) X dX12_types_18 (by decide +kernel) ?_
  refine r_iand X dX12_types_21 ?_
  refine a_iast_any (a := 8) X hn dX12_types_22 rfl (inK (by decide +kernel)) (fun g6 => ?_)
  refine r_eq (h' := h0 ++ (((frM n wf).set 0 (eO 12 [vI 0, vR (n + 1), vR (n + 2), vI 0, vR (n + 3), vI 0, vI 0, vR (n + 4), vR (n + 5), vR (n + 6), vR (n + 7), vR (n + 8), vI 4, vI 0, vI 0, vI 0, vI 0, vR (n + 9), vR (n + 10), vR (n + 11), vR (n + 12), vR (n + 13), vR (n + 14), vR (n + 15), vR (n + 16), vI 0, vI 0, vI 0, vR (n + 17), vI 0, vI 0, vI 0, vI 0, vI ((-1)), vI 0, vR (n + 18), vI 0, vR (n + 19), vI 0, vR (n + 20), vR (n + 21), vR (n + 22), vR (n + 23), vI 0, vR (n + 24), vR (n + 25), vI 0, vR (n + 26), vR (n + 27), vR (n + 28), vI 0, vR (n + 29), vI 0, vR (n + 30), vI 0, vR (n + 31), vR (n + 32), vI 0, vR (n + 33), vR (n + 34), vR (n + 35), vI 0, vR (n + 36), vI 0, vR (n + 37), vI 0, vR (n + 38), vR (n + 39), vR (n + 40), vR (n + 41), vI 0, vI 0, vI 0, vI 0, vI 0, vR (n + 42)])).set 8 (eI 400 g6))) rfl rfl rfl ?_
  refine r_aload_n X dX12_types_23 rfl ?_
  refine r_aload_n X dX12_types_24 rfl ?_
  refine a_get (a := 0) X hn fg_X12_166 dX12_types_25 rfl rfl ?_
  refine r_iconst (v := 1) X dX12_types_28 (by decide +kernel) ?_
  refine r_iaddE (v := 5) X dX12_types_29 (by decide +kernel) ?_
  refine a_put (a := 0) X hn fp_X12_166 dX12_types_30 rfl rfl rfl rfl ?_
  refine r_eq (h' := h0 ++ (((frM n wf).set 0 (eO 12 [vI 0, vR (n + 1), vR (n + 2), vI 0, vR (n + 3), vI 0, vI 0, vR (n + 4), vR (n + 5), vR (n + 6), vR (n + 7), vR (n + 8), vI 5, vI 0, vI 0, vI 0, vI 0, vR (n + 9), vR (n + 10), vR (n + 11), vR (n + 12), vR (n + 13), vR (n + 14), vR (n + 15), vR (n + 16), vI 0, vI 0, vI 0, vR (n + 17), vI 0, vI 0, vI 0, vI 0, vI ((-1)), vI 0, vR (n + 18), vI 0, vR (n + 19), vI 0, vR (n + 20), vR (n + 21), vR (n + 22), vR (n + 23), vI 0, vR (n + 24), vR (n + 25), vI 0, vR (n + 26), vR (n + 27), vR (n + 28), vI 0, vR (n + 29), vI 0, vR (n + 30), vI 0, vR (n + 31), vR (n + 32), vI 0, vR (n + 33), vR (n + 34), vR (n + 35), vI 0, vR (n + 36), vI 0, vR (n + 37), vI 0, vR (n + 38), vR (n + 39), vR (n + 40), vR (n + 41), vI 0, vI 0, vI 0, vI 0, vI 0, vR (n + 42)])).set 8 (eI 400 g6))) rfl rfl rfl ?_
  refine r_iinc (v := 16) X dX12_types_33 rfl (by decide +kernel) (by decide) ?_
  refine r_goto (tgt := 3) X dX12_types_36 rfl ?_
  refine r_iload_n X dX12_types_3 rfl ?_
  refine r_if_lt_f (tgt := 39) X dX12_types_4 rfl (by decide +kernel) ?_
  refine r_aload_n X dX12_types_7 rfl ?_
  refine a_get (a := 0) X hn fg_X12_31 dX12_types_8 rfl rfl ?_
  refine r_aload_n X dX12_types_11 rfl ?_
  refine a_get (a := 0) X hn fg_X12_166 dX12_types_12 rfl rfl ?_
  refine r_iload_n X dX12_types_15 rfl ?_
  refine r_iload_n X dX12_types_16 rfl ?_
  refine r_ishr X dX12_types_17 ?_
  refine r_sipush (v := 255) X dX12_types_18 (by decide +kernel) ?_
  refine r_iand X dX12_types_21 ?_
  refine a_iast_any (a := 8) X hn dX12_types_22 rfl (inK (by decide +kernel)) (fun g7 => ?_)
  refine r_eq (h' := h0 ++ (((frM n wf).set 0 (eO 12 [vI 0, vR (n + 1), vR (n + 2), vI 0, vR (n + 3), vI 0, vI 0, vR (n + 4), vR (n + 5), vR (n + 6), vR (n + 7), vR (n + 8), vI 5, vI 0, vI 0, vI 0, vI 0, vR (n + 9), vR (n + 10), vR (n + 11), vR (n + 12), vR (n + 13), vR (n + 14), vR (n + 15), vR (n + 16), vI 0, vI 0, vI 0, vR (n + 17), vI 0, vI 0, vI 0, vI 0, vI ((-1)), vI 0, vR (n + 18), vI 0, vR (n + 19), vI 0, vR (n + 20), vR (n + 21), vR (n + 22), vR (n + 23), vI 0, vR (n + 24), vR (n + 25), vI 0, vR (n + 26), vR (n + 27), vR (n + 28), vI 0, vR (n + 29), vI 0, vR (n + 30), vI 0, vR (n + 31), vR (n + 32), vI 0, vR (n + 33), vR (n + 34), vR (n + 35), vI 0, vR (n + 36), vI 0, vR (n + 37), vI 0, vR (n + 38), vR (n + 39), vR (n + 40), vR (n + 41), vI 0, vI 0, vI 0, vI 0, vI 0, vR (n + 42)])).set 8 (eI 400 g7))) rfl rfl rfl ?_
  refine r_aload_n X dX12_types_23 rfl ?_
  refine r_aload_n X dX12_types_24 rfl ?_
  refine a_get (a := 0) X hn fg_X12_166 dX12_types_25 rfl rfl ?_
  refine r_iconst (v := 1) X dX12_types_28 (by decide +kernel) ?_
  refine r_iaddE (v := 6) X dX12_types_29 (by decide +kernel) ?_
  refine a_put (a := 0) X hn fp_X12_166 dX12_types_30 rfl rfl rfl rfl ?_
  refine r_eq (h' := h0 ++ (((frM n wf).set 0 (eO 12 [vI 0, vR (n + 1), vR (n + 2), vI 0, vR (n + 3), vI 0, vI 0, vR (n + 4), vR (n + 5), vR (n + 6), vR (n + 7), vR (n + 8), vI 6, vI 0, vI 0, vI 0, vI 0, vR (n + 9), vR (n + 10), vR (n + 11), vR (n + 12), vR (n + 13), vR (n + 14), vR (n + 15), vR (n + 16), vI 0, vI 0, vI 0, vR (n + 17), vI 0, vI 0, vI 0, vI 0, vI ((-1)), vI 0, vR (n + 18), vI 0, vR (n + 19), vI 0, vR (n + 20), vR (n + 21), vR (n + 22), vR (n + 23), vI 0, vR (n + 24), vR (n + 25), vI 0, vR (n + 26), vR (n + 27), vR (n + 28), vI 0, vR (n + 29), vI 0, vR (n + 30), vI 0, vR (n + 31), vR (n + 32), vI 0, vR (n + 33), vR (n + 34), vR (n + 35), vI 0, vR (n + 36), vI 0, vR (n + 37), vI 0, vR (n + 38), vR (n + 39), vR (n + 40), vR (n + 41), vI 0, vI 0, vI 0, vI 0, vI 0, vR (n + 42)])).set 8 (eI 400 g7))) rfl rfl rfl ?_
  refine r_iinc (v := 8) X dX12_types_33 rfl (by decide +kernel) (by decide) ?_
  refine r_goto (tgt := 3) X dX12_types_36 rfl ?_
  refine r_iload_n X dX12_types_3 rfl ?_
  refine r_if_lt_f (tgt := 39) X dX12_types_4 rfl (by decide +kernel) ?_
  refine r_aload_n X dX12_types_7 rfl ?_
  refine a_get (a := 0) X hn fg_X12_31 dX12_types_8 rfl rfl ?_
  refine r_aload_n X dX12_types_11 rfl ?_
  refine a_get (a := 0) X hn fg_X12_166 dX12_types_12 rfl rfl ?_
  refine r_iload_n X dX12_types_15 rfl ?_
  refine r_iload_n X dX12_types_16 rfl ?_
  refine r_ishr X dX12_types_17 ?_
  refine r_sipush (v := 255) X dX12_types_18 (by decide +kernel) ?_
  refine r_iand X dX12_types_21 ?_
  refine a_iast_any (a := 8) X hn dX12_types_22 rfl (inK (by decide +kernel)) (fun g8 => ?_)
  refine r_eq (h' := h0 ++ (((frM n wf).set 0 (eO 12 [vI 0, vR (n + 1), vR (n + 2), vI 0, vR (n + 3), vI 0, vI 0, vR (n + 4), vR (n + 5), vR (n + 6), vR (n + 7), vR (n + 8), vI 6, vI 0, vI 0, vI 0, vI 0, vR (n + 9), vR (n + 10), vR (n + 11), vR (n + 12), vR (n + 13), vR (n + 14), vR (n + 15), vR (n + 16), vI 0, vI 0, vI 0, vR (n + 17), vI 0, vI 0, vI 0, vI 0, vI ((-1)), vI 0, vR (n + 18), vI 0, vR (n + 19), vI 0, vR (n + 20), vR (n + 21), vR (n + 22), vR (n + 23), vI 0, vR (n + 24), vR (n + 25), vI 0, vR (n + 26), vR (n + 27), vR (n + 28), vI 0, vR (n + 29), vI 0, vR (n + 30), vI 0, vR (n + 31), vR (n + 32), vI 0, vR (n + 33), vR (n + 34), vR (n + 35), vI 0, vR (n + 36), vI 0, vR (n + 37), vI 0, vR (n + 38), vR (n + 39), vR (n + 40), vR (n + 41), vI 0, vI 0, vI 0, vI 0, vI 0, vR (n + 42)])).set 8 (eI 400 g8))) rfl rfl rfl ?_
  refine r_aload_n X dX12_types_23 rfl ?_
  refine r_aload_n X dX12_types_24 rfl ?_
  refine a_get (a := 0) X hn fg_X12_166 dX12_types_25 rfl rfl ?_
  refine r_iconst (v := 1) X dX12_types_28 (by decide +kernel) ?_
  refine r_iaddE (v := 7) X dX12_types_29 (by decide +kernel) ?_
  refine a_put (a := 0) X hn fp_X12_166 dX12_types_30 rfl rfl rfl rfl ?_
  refine r_eq (h' := h0 ++ (((frM n wf).set 0 (eO 12 [vI 0, vR (n + 1), vR (n + 2), vI 0, vR (n + 3), vI 0, vI 0, vR (n + 4), vR (n + 5), vR (n + 6), vR (n + 7), vR (n + 8), vI 7, vI 0, vI 0, vI 0, vI 0, vR (n + 9), vR (n + 10), vR (n + 11), vR (n + 12), vR (n + 13), vR (n + 14), vR (n + 15), vR (n + 16), vI 0, vI 0, vI 0, vR (n + 17), vI 0, vI 0, vI 0, vI 0, vI ((-1)), vI 0, vR (n + 18), vI 0, vR (n + 19), vI 0, vR (n + 20), vR (n + 21), vR (n + 22), vR (n + 23), vI 0, vR (n + 24), vR (n + 25), vI 0, vR (n + 26), vR (n + 27), vR (n + 28), vI 0, vR (n + 29), vI 0, vR (n + 30), vI 0, vR (n + 31), vR (n + 32), vI 0, vR (n + 33), vR (n + 34), vR (n + 35), vI 0, vR (n + 36), vI 0, vR (n + 37), vI 0, vR (n + 38), vR (n + 39), vR (n + 40), vR (n + 41), vI 0, vI 0, vI 0, vI 0, vI 0, vR (n + 42)])).set 8 (eI 400 g8))) rfl rfl rfl ?_
  refine r_iinc (v := 0) X dX12_types_33 rfl (by decide +kernel) (by decide) ?_
  refine r_goto (tgt := 3) X dX12_types_36 rfl ?_
  refine r_iload_n X dX12_types_3 rfl ?_
  refine r_if_lt_f (tgt := 39) X dX12_types_4 rfl (by decide +kernel) ?_
  refine r_aload_n X dX12_types_7 rfl ?_
  refine a_get (a := 0) X hn fg_X12_31 dX12_types_8 rfl rfl ?_
  refine r_aload_n X dX12_types_11 rfl ?_
  refine a_get (a := 0) X hn fg_X12_166 dX12_types_12 rfl rfl ?_
  refine r_iload_n X dX12_types_15 rfl ?_
  refine r_iload_n X dX12_types_16 rfl ?_
  refine r_ishr X dX12_types_17 ?_
  refine r_sipush (v := 255) X dX12_types_18 (by decide +kernel) ?_
  refine r_iand X dX12_types_21 ?_
  refine a_iast_any (a := 8) X hn dX12_types_22 rfl (inK (by decide +kernel)) (fun g9 => ?_)
  refine r_eq (h' := h0 ++ (((frM n wf).set 0 (eO 12 [vI 0, vR (n + 1), vR (n + 2), vI 0, vR (n + 3), vI 0, vI 0, vR (n + 4), vR (n + 5), vR (n + 6), vR (n + 7), vR (n + 8), vI 7, vI 0, vI 0, vI 0, vI 0, vR (n + 9), vR (n + 10), vR (n + 11), vR (n + 12), vR (n + 13), vR (n + 14), vR (n + 15), vR (n + 16), vI 0, vI 0, vI 0, vR (n + 17), vI 0, vI 0, vI 0, vI 0, vI ((-1)), vI 0, vR (n + 18), vI 0, vR (n + 19), vI 0, vR (n + 20), vR (n + 21), vR (n + 22), vR (n + 23), vI 0, vR (n + 24), vR (n + 25), vI 0, vR (n + 26), vR (n + 27), vR (n + 28), vI 0, vR (n + 29), vI 0, vR (n + 30), vI 0, vR (n + 31), vR (n + 32), vI 0, vR (n + 33), vR (n + 34), vR (n + 35), vI 0, vR (n + 36), vI 0, vR (n + 37), vI 0, vR (n + 38), vR (n + 39), vR (n + 40), vR (n + 41), vI 0, vI 0, vI 0, vI 0, vI 0, vR (n + 42)])).set 8 (eI 400 g9))) rfl rfl rfl ?_
  refine r_aload_n X dX12_types_23 rfl ?_
  refine r_aload_n X dX12_types_24 rfl ?_
  refine a_get (a := 0) X hn fg_X12_166 dX12_types_25 rfl rfl ?_
  refine r_iconst (v := 1) X dX12_types_28 (by decide +kernel) ?_
  refine r_iaddE (v := 8) X dX12_types_29 (by decide +kernel) ?_
  refine a_put (a := 0) X hn fp_X12_166 dX12_types_30 rfl rfl rfl rfl ?_
  refine r_eq (h' := h0 ++ (((frM n wf).set 0 (eO 12 [vI 0, vR (n + 1), vR (n + 2), vI 0, vR (n + 3), vI 0, vI 0, vR (n + 4), vR (n + 5), vR (n + 6), vR (n + 7), vR (n + 8), vI 8, vI 0, vI 0, vI 0, vI 0, vR (n + 9), vR (n + 10), vR (n + 11), vR (n + 12), vR (n + 13), vR (n + 14), vR (n + 15), vR (n + 16), vI 0, vI 0, vI 0, vR (n + 17), vI 0, vI 0, vI 0, vI 0, vI ((-1)), vI 0, vR (n + 18), vI 0, vR (n + 19), vI 0, vR (n + 20), vR (n + 21), vR (n + 22), vR (n + 23), vI 0, vR (n + 24), vR (n + 25), vI 0, vR (n + 26), vR (n + 27), vR (n + 28), vI 0, vR (n + 29), vI 0, vR (n + 30), vI 0, vR (n + 31), vR (n + 32), vI 0, vR (n + 33), vR (n + 34), vR (n + 35), vI 0, vR (n + 36), vI 0, vR (n + 37), vI 0, vR (n + 38), vR (n + 39), vR (n + 40), vR (n + 41), vI 0, vI 0, vI 0, vI 0, vI 0, vR (n + 42)])).set 8 (eI 400 g9))) rfl rfl rfl ?_
  refine r_iinc (v := (-8)) X dX12_types_33 rfl (by decide +kernel) (by decide) ?_
  refine r_eq (ls' := [some (vR (n + 0)), some (vI z0), some (vI ((-8)))]) rfl rfl rfl ?_
  refine r_goto (tgt := 3) X dX12_types_36 rfl ?_
  refine r_iload_n X dX12_types_3 rfl ?_
  refine r_if_lt_t (tgt := 39) X dX12_types_4 rfl (by decide +kernel) ?_
  exact r_ret_v X hr hlk dX12_types_39 (Nat.le_of_ble_eq_true rfl) (Nat.le_of_ble_eq_true rfl) ⟨rfl, ⟨_, rfl⟩⟩
set_option maxRecDepth 100000 in
set_option maxHeartbeats 4000000 in
theorem km11_X12_types (l : Launch) (G : PG) (h0 : PH) (n : Nat) (hn : h0.length = n) (wf : Nat → Int32) (z0 : Int32) (g10 : Nat → Int32) : PMet l G yX12_types cX12_types 3 none 0 0 0 [vR (n + 0), vI z0] (h0 ++ (((frM n wf).set 0 (eO 12 [vI 0, vR (n + 1), vR (n + 2), vI 0, vR (n + 3), vI 0, vI 0, vR (n + 4), vR (n + 5), vR (n + 6), vR (n + 7), vR (n + 8), vI 8, vI 0, vI 0, vI 0, vI 0, vR (n + 9), vR (n + 10), vR (n + 11), vR (n + 12), vR (n + 13), vR (n + 14), vR (n + 15), vR (n + 16), vI 0, vI 0, vI 0, vR (n + 17), vI 0, vI 0, vI 0, vI 0, vI ((-1)), vI 0, vR (n + 18), vI 0, vR (n + 19), vI 0, vR (n + 20), vR (n + 21), vR (n + 22), vR (n + 23), vI 0, vR (n + 24), vR (n + 25), vI 0, vR (n + 26), vR (n + 27), vR (n + 28), vI 0, vR (n + 29), vI 0, vR (n + 30), vI 0, vR (n + 31), vR (n + 32), vI 0, vR (n + 33), vR (n + 34), vR (n + 35), vI 0, vR (n + 36), vI 0, vR (n + 37), vI 0, vR (n + 38), vR (n + 39), vR (n + 40), vR (n + 41), vI 0, vI 0, vI 0, vI 0, vI 0, vR (n + 42)])).set 8 (eI 400 g10))) (qV (fun h' => ∃ g14 : Nat → Int32, h' = h0 ++ (((frM n wf).set 0 (eO 12 [vI 0, vR (n + 1), vR (n + 2), vI 0, vR (n + 3), vI 0, vI 0, vR (n + 4), vR (n + 5), vR (n + 6), vR (n + 7), vR (n + 8), vI 12, vI 0, vI 0, vI 0, vI 0, vR (n + 9), vR (n + 10), vR (n + 11), vR (n + 12), vR (n + 13), vR (n + 14), vR (n + 15), vR (n + 16), vI 0, vI 0, vI 0, vR (n + 17), vI 0, vI 0, vI 0, vI 0, vI ((-1)), vI 0, vR (n + 18), vI 0, vR (n + 19), vI 0, vR (n + 20), vR (n + 21), vR (n + 22), vR (n + 23), vI 0, vR (n + 24), vR (n + 25), vI 0, vR (n + 26), vR (n + 27), vR (n + 28), vI 0, vR (n + 29), vI 0, vR (n + 30), vI 0, vR (n + 31), vR (n + 32), vI 0, vR (n + 33), vR (n + 34), vR (n + 35), vI 0, vR (n + 36), vI 0, vR (n + 37), vI 0, vR (n + 38), vR (n + 39), vR (n + 40), vR (n + 41), vI 0, vI 0, vI 0, vI 0, vI 0, vR (n + 42)])).set 8 (eI 400 g14)))) := by
  refine PMet.intro (by decide) (Nat.le_of_ble_eq_true rfl) ?_
  intro p e s m args below meth c X hr hlk hnm
  refine r_bipush (v := 24) X dX12_types_0 (by decide +kernel) ?_
  refine r_istore_n X dX12_types_2 (by decide) ?_
  refine r_iload_n X dX12_types_3 rfl ?_
  refine r_if_lt_f (tgt := 39) X dX12_types_4 rfl (by decide +kernel) ?_
  refine r_aload_n X dX12_types_7 rfl ?_
  refine a_get (a := 0) X hn fg_X12_31 dX12_types_8 rfl rfl ?_
  refine r_aload_n X dX12_types_11 rfl ?_
  refine a_get (a := 0) X hn fg_X12_166 dX12_types_12 rfl rfl ?_
  refine r_iload_n X dX12_types_15 rfl ?_
  refine r_iload_n X dX12_types_16 rfl ?_
  refine r_ishr X dX12_types_17 ?_
  refine r_sipush (v := 255) X dX12_types_18 (by decide +kernel) ?_
  refine r_iand X dX12_types_21 ?_
  refine a_iast_any (a := 8) X hn dX12_types_22 rfl (inK (by decide +kernel)) (fun g11 => ?_)
  refine r_eq (h' := h0 ++ (((frM n wf).set 0 (eO 12 [vI 0, vR (n + 1), vR (n + 2), vI 0, vR (n + 3), vI 0, vI 0, vR (n + 4), vR (n + 5), vR (n + 6), vR (n + 7), vR (n + 8), vI 8, vI 0, vI 0, vI 0, vI 0, vR (n + 9), vR (n + 10), vR (n + 11), vR (n + 12), vR (n + 13), vR (n + 14), vR (n + 15), vR (n + 16), vI 0, vI 0, vI 0, vR (n + 17), vI 0, vI 0, vI 0, vI 0, vI ((-1)), vI 0, vR (n + 18), vI 0, vR (n + 19), vI 0, vR (n + 20), vR (n + 21), vR (n + 22), vR (n + 23), vI 0, vR (n + 24), vR (n + 25), vI 0, vR (n + 26), vR (n + 27), vR (n + 28), vI 0, vR (n + 29), vI 0, vR (n + 30), vI 0, vR (n + 31), vR (n + 32), vI 0, vR (n + 33), vR (n + 34), vR (n + 35), vI 0, vR (n + 36), vI 0, vR (n + 37), vI 0, vR (n + 38), vR (n + 39), vR (n + 40), vR (n + 41), vI 0, vI 0, vI 0, vI 0, vI 0, vR (n + 42)])).set 8 (eI 400 g11))) rfl rfl rfl ?_
  refine r_aload_n X dX12_types_23 rfl ?_
  refine r_aload_n X dX12_types_24 rfl ?_
  refine a_get (a := 0) X hn fg_X12_166 dX12_types_25 rfl rfl ?_
  refine r_iconst (v := 1) X dX12_types_28 (by decide +kernel) ?_
  refine r_iaddE (v := 9) X dX12_types_29 (by decide +kernel) ?_
  refine a_put (a := 0) X hn fp_X12_166 dX12_types_30 rfl rfl rfl rfl ?_
  refine r_eq (h' := h0 ++ (((frM n wf).set 0 (eO 12 [vI 0, vR (n + 1), vR (n + 2), vI 0, vR (n + 3), vI 0, vI 0, vR (n + 4), vR (n + 5), vR (n + 6), vR (n + 7), vR (n + 8), vI 9, vI 0, vI 0, vI 0, vI 0, vR (n + 9), vR (n + 10), vR (n + 11), vR (n + 12), vR (n + 13), vR (n + 14), vR (n + 15), vR (n + 16), vI 0, vI 0, vI 0, vR (n + 17), vI 0, vI 0, vI 0, vI 0, vI ((-1)), vI 0, vR (n + 18), vI 0, vR (n + 19), vI 0, vR (n + 20), vR (n + 21), vR (n + 22), vR (n + 23), vI 0, vR (n + 24), vR (n + 25), vI 0, vR (n + 26), vR (n + 27), vR (n + 28), vI 0, vR (n + 29), vI 0, vR (n + 30), vI 0, vR (n + 31), vR (n + 32), vI 0, vR (n + 33), vR (n + 34), vR (n + 35), vI 0, vR (n + 36), vI 0, vR (n + 37), vI 0, vR (n + 38), vR (n + 39), vR (n + 40), vR (n + 41), vI 0, vI 0, vI 0, vI 0, vI 0, vR (n + 42)])).set 8 (eI 400 g11))) rfl rfl rfl ?_
  refine r_iinc (v := 16) X dX12_types_33 rfl (by decide +kernel) (by decide) ?_
  refine r_goto (tgt := 3) X dX12_types_36 rfl ?_
  refine r_iload_n X dX12_types_3 rfl ?_
  refine r_if_lt_f (tgt := 39) X dX12_types_4 rfl (by decide +kernel) ?_
  refine r_aload_n X dX12_types_7 rfl ?_
  refine a_get (a := 0) X hn fg_X12_31 dX12_types_8 rfl rfl ?_
  refine r_aload_n X dX12_types_11 rfl ?_
  refine a_get (a := 0) X hn fg_X12_166 dX12_types_12 rfl rfl ?_
  refine r_iload_n X dX12_types_15 rfl ?_
  refine r_iload_n X dX12_types_16 rfl ?_
  refine r_ishr X dX12_types_17 ?_
  refine r_sipush (v := 255) X dX12_types_18 (by decide +kernel) ?_
  refine r_iand X dX12_types_21 ?_
  refine a_iast_any (a := 8) X hn dX12_types_22 rfl (inK (by decide +kernel)) (fun g12 => ?_)
  refine r_eq (h' := h0 ++ (((frM n wf).set 0 (eO 12 [vI 0, vR (n + 1), vR (n + 2), vI 0, vR (n + 3), vI 0, vI 0, vR (n + 4), vR (n + 5), vR (n + 6), vR (n + 7), vR (n + 8), vI 9, vI 0, vI 0, vI 0, vI 0, vR (n + 9), vR (n + 10), vR (n + 11), vR (n + 12), vR (n + 13), vR (n + 14), vR (n + 15), vR (n + 16), vI 0, vI 0, vI 0, vR (n + 17), vI 0, vI 0, vI 0, vI 0, vI ((-1)), vI 0, vR (n + 18), vI 0, vR (n + 19), vI 0, vR (n + 20), vR (n + 21), vR (n + 22), vR (n + 23), vI 0, vR (n + 24), vR (n + 25), vI 0, vR (n + 26), vR (n + 27), vR (n + 28), vI 0, vR (n + 29), vI 0, vR (n + 30), vI 0, vR (n + 31), vR (n + 32), vI 0, vR (n + 33), vR (n + 34), vR (n + 35), vI 0, vR (n + 36), vI 0, vR (n + 37), vI 0, vR (n + 38), vR (n + 39), vR (n + 40), vR (n + 41), vI 0, vI 0, vI 0, vI 0, vI 0, vR (n + 42)])).set 8 (eI 400 g12))) rfl rfl rfl ?_
  refine r_aload_n X dX12_types_23 rfl ?_
  refine r_aload_n X dX12_types_24 rfl ?_
  refine a_get (a := 0) X hn fg_X12_166 dX12_types_25 rfl rfl ?_
  refine r_iconst (v := 1) X dX12_types_28 (by decide +kernel) ?_
  refine r_iaddE (v := 10) X dX12_types_29 (by decide +kernel) ?_
  refine a_put (a := 0) X hn fp_X12_166 dX12_types_30 rfl rfl rfl rfl ?_
  refine r_eq (h' := h0 ++ (((frM n wf).set 0 (eO 12 [vI 0, vR (n + 1), vR (n + 2), vI 0, vR (n + 3), vI 0, vI 0, vR (n + 4), vR (n + 5), vR (n + 6), vR (n + 7), vR (n + 8), vI 10, vI 0, vI 0, vI 0, vI 0, vR (n + 9), vR (n + 10), vR (n + 11), vR (n + 12), vR (n + 13), vR (n + 14), vR (n + 15), vR (n + 16), vI 0, vI 0, vI 0, vR (n + 17), vI 0, vI 0, vI 0, vI 0, vI ((-1)), vI 0, vR (n + 18), vI 0, vR (n + 19), vI 0, vR (n + 20), vR (n + 21), vR (n + 22), vR (n + 23), vI 0, vR (n + 24), vR (n + 25), vI 0, vR (n + 26), vR (n + 27), vR (n + 28), vI 0, vR (n + 29), vI 0, vR (n + 30), vI 0, vR (n + 31), vR (n + 32), vI 0, vR (n + 33), vR (n + 34), vR (n + 35), vI 0, vR (n + 36), vI 0, vR (n + 37), vI 0, vR (n + 38), vR (n + 39), vR (n + 40), vR (n + 41), vI 0, vI 0, vI 0, vI 0, vI 0, vR (n + 42)])).set 8 (eI 400 g12))) rfl rfl rfl ?_
  refine r_iinc (v := 8) X dX12_types_33 rfl (by decide +kernel) (by decide) ?_
  refine r_goto (tgt := 3) X dX12_types_36 rfl ?_
  refine r_iload_n X dX12_types_3 rfl ?_
  refine r_if_lt_f (tgt := 39) X dX12_types_4 rfl (by decide +kernel) ?_
  refine r_aload_n X dX12_types_7 rfl ?_
  refine a_get (a := 0) X hn fg_X12_31 dX12_types_8 rfl rfl ?_
  refine r_aload_n X dX12_types_11 rfl ?_
  refine a_get (a := 0) X hn fg_X12_166 dX12_types_12 rfl rfl ?_
  refine r_iload_n X dX12_types_15 rfl ?_
  refine r_iload_n X dX12_types_16 rfl ?_
  refine r_ishr X dX12_types_17 ?_
  refine r_sipush (v := 255) X dX12_types_18 (by decide +kernel) ?_
  refine r_iand X dX12_types_21 ?_
  refine a_iast_any (a := 8) X hn dX12_types_22 rfl (inK (by decide +kernel)) (fun g13 => ?_)
  refine r_eq (h' := h0 ++ (((frM n wf).set 0 (eO 12 [vI 0, vR (n + 1), vR (n + 2), vI 0, vR (n + 3), vI 0, vI 0, vR (n + 4), vR (n + 5), vR (n + 6), vR (n + 7), vR (n + 8), vI 10, vI 0, vI 0, vI 0, vI 0, vR (n + 9), vR (n + 10), vR (n + 11), vR (n + 12), vR (n + 13), vR (n + 14), vR (n + 15), vR (n + 16), vI 0, vI 0, vI 0, vR (n + 17), vI 0, vI 0, vI 0, vI 0, vI ((-1)), vI 0, vR (n + 18), vI 0, vR (n + 19), vI 0, vR (n + 20), vR (n + 21), vR (n + 22), vR (n + 23), vI 0, vR (n + 24), vR (n + 25), vI 0, vR (n + 26), vR (n + 27), vR (n + 28), vI 0, vR (n + 29), vI 0, vR (n + 30), vI 0, vR (n + 31), vR (n + 32), vI 0, vR (n + 33), vR (n + 34), vR (n + 35), vI 0, vR (n + 36), vI 0, vR (n + 37), vI 0, vR (n + 38), vR (n + 39), vR (n + 40), vR (n + 41), vI 0, vI 0, vI 0, vI 0, vI 0, vR (n + 42)])).set 8 (eI 400 g13))) rfl rfl rfl ?_
  refine r_aload_n X dX12_types_23 rfl ?_
  refine r_aload_n X dX12_types_24 rfl ?_
  refine a_get (a := 0) X hn fg_X12_166 dX12_types_25 rfl rfl ?_
  refine r_iconst (v := 1) X dX12_types_28 (by decide +kernel) ?_
  refine r_iaddE (v := 11) X dX12_types_29 (by decide +kernel) ?_
  refine a_put (a := 0) X hn fp_X12_166 dX12_types_30 rfl rfl rfl rfl ?_
  refine r_eq (h' := h0 ++ (((frM n wf).set 0 (eO 12 [vI 0, vR (n + 1), vR (n + 2), vI 0, vR (n + 3), vI 0, vI 0, vR (n + 4), vR (n + 5), vR (n + 6), vR (n + 7), vR (n + 8), vI 11, vI 0, vI 0, vI 0, vI 0, vR (n + 9), vR (n + 10), vR (n + 11), vR (n + 12), vR (n + 13), vR (n + 14), vR (n + 15), vR (n + 16), vI 0, vI 0, vI 0, vR (n + 17), vI 0, vI 0, vI 0, vI 0, vI ((-1)), vI 0, vR (n + 18), vI 0, vR (n + 19), vI 0, vR (n + 20), vR (n + 21), vR (n + 22), vR (n + 23), vI 0, vR (n + 24), vR (n + 25), vI 0, vR (n + 26), vR (n + 27), vR (n + 28), vI 0, vR (n + 29), vI 0, vR (n + 30), vI 0, vR (n + 31), vR (n + 32), vI 0, vR (n + 33), vR (n + 34), vR (n + 35), vI 0, vR (n + 36), vI 0, vR (n + 37), vI 0, vR (n + 38), vR (n + 39), vR (n + 40), vR (n + 41), vI 0, vI 0, vI 0, vI 0, vI 0, vR (n + 42)])).set 8 (eI 400 g13))) rfl rfl rfl ?_
  refine r_iinc (v := 0) X dX12_types_33 rfl (by decide +kernel) (by decide) ?_
  refine r_goto (tgt := 3) X dX12_types_36 rfl ?_
  refine r_iload_n X dX12_types_3 rfl ?_
  refine r_if_lt_f (tgt := 39) X dX12_types_4 rfl (by decide +kernel) ?_
  refine r_aload_n X dX12_types_7 rfl ?_
  refine a_get (a := 0) X hn fg_X12_31 dX12_types_8 rfl rfl ?_
  refine r_aload_n X dX12_types_11 rfl ?_
  refine a_get (a := 0) X hn fg_X12_166 dX12_types_12 rfl rfl ?_
  refine r_iload_n X dX12_types_15 rfl ?_
  refine r_iload_n X dX12_types_16 rfl ?_
  refine r_ishr X dX12_types_17 ?_
  refine r_sipush (v := 255) X dX12_types_18 (by decide +kernel) ?_
  refine r_iand X dX12_types_21 ?_
  refine a_iast_any (a := 8) X hn dX12_types_22 rfl (inK (by decide +kernel)) (fun g14 => ?_)
  refine r_eq (h' := h0 ++ (((frM n wf).set 0 (eO 12 [vI 0, vR (n + 1), vR (n + 2), vI 0, vR (n + 3), vI 0, vI 0, vR (n + 4), vR (n + 5), vR (n + 6), vR (n + 7), vR (n + 8), vI 11, vI 0, vI 0, vI 0, vI 0, vR (n + 9), vR (n + 10), vR (n + 11), vR (n + 12), vR (n + 13), vR (n + 14), vR (n + 15), vR (n + 16), vI 0, vI 0, vI 0, vR (n + 17), vI 0, vI 0, vI 0, vI 0, vI ((-1)), vI 0, vR (n + 18), vI 0, vR (n + 19), vI 0, vR (n + 20), vR (n + 21), vR (n + 22), vR (n + 23), vI 0, vR (n + 24), vR (n + 25), vI 0, vR (n + 26), vR (n + 27), vR (n + 28), vI 0, vR (n + 29), vI 0, vR (n + 30), vI 0, vR (n + 31), vR (n + 32), vI 0, vR (n + 33), vR (n + 34), vR (n + 35), vI 0, vR (n + 36), vI 0, vR (n + 37), vI 0, vR (n + 38), vR (n + 39), vR (n + 40), vR (n + 41), vI 0, vI 0, vI 0, vI 0, vI 0, vR (n + 42)])).set 8 (eI 400 g14))) rfl rfl rfl ?_
  refine r_aload_n X dX12_types_23 rfl ?_
  refine r_aload_n X dX12_types_24 rfl ?_
  refine a_get (a := 0) X hn fg_X12_166 dX12_types_25 rfl rfl ?_
  refine r_iconst (v := 1) X dX12_types_28 (by decide +kernel) ?_
  refine r_iaddE (v := 12) X dX12_types_29 (by decide +kernel) ?_
  refine a_put (a := 0) X hn fp_X12_166 dX12_types_30 rfl rfl rfl rfl ?_
  refine r_eq (h' := h0 ++ (((frM n wf).set 0 (eO 12 [vI 0, vR (n + 1), vR (n + 2), vI 0, vR (n + 3), vI 0, vI 0, vR (n + 4), vR (n + 5), vR (n + 6), vR (n + 7), vR (n + 8), vI 12, vI 0, vI 0, vI 0, vI 0, vR (n + 9), vR (n + 10), vR (n + 11), vR (n + 12), vR (n + 13), vR (n + 14), vR (n + 15), vR (n + 16), vI 0, vI 0, vI 0, vR (n + 17), vI 0, vI 0, vI 0, vI 0, vI ((-1)), vI 0, vR (n + 18), vI 0, vR (n + 19), vI 0, vR (n + 20), vR (n + 21), vR (n + 22), vR (n + 23), vI 0, vR (n + 24), vR (n + 25), vI 0, vR (n + 26), vR (n + 27), vR (n + 28), vI 0, vR (n + 29), vI 0, vR (n + 30), vI 0, vR (n + 31), vR (n + 32), vI 0, vR (n + 33), vR (n + 34), vR (n + 35), vI 0, vR (n + 36), vI 0, vR (n + 37), vI 0, vR (n + 38), vR (n + 39), vR (n + 40), vR (n + 41), vI 0, vI 0, vI 0, vI 0, vI 0, vR (n + 42)])).set 8 (eI 400 g14))) rfl rfl rfl ?_
  refine r_iinc (v := (-8)) X dX12_types_33 rfl (by decide +kernel) (by decide) ?_
  refine r_eq (ls' := [some (vR (n + 0)), some (vI z0), some (vI ((-8)))]) rfl rfl rfl ?_
  refine r_goto (tgt := 3) X dX12_types_36 rfl ?_
  refine r_iload_n X dX12_types_3 rfl ?_
  refine r_if_lt_t (tgt := 39) X dX12_types_4 rfl (by decide +kernel) ?_
  exact r_ret_v X hr hlk dX12_types_39 (Nat.le_of_ble_eq_true rfl) (Nat.le_of_ble_eq_true rfl) ⟨rfl, ⟨_, rfl⟩⟩
set_option maxRecDepth 100000 in
set_option maxHeartbeats 4000000 in
theorem km12_X12_types (l : Launch) (G : PG) (h0 : PH) (n : Nat) (hn : h0.length = n) (wf : Nat → Int32) (z0 : Int32) (g15 : Nat → Int32) : PMet l G yX12_types cX12_types 3 none 0 0 0 [vR (n + 0), vI z0] (h0 ++ (((frM n wf).set 0 (eO 12 [vI 0, vR (n + 1), vR (n + 2), vI 0, vR (n + 3), vI 0, vI 0, vR (n + 4), vR (n + 5), vR (n + 6), vR (n + 7), vR (n + 8), vI 12, vI 0, vI 0, vI 0, vI 0, vR (n + 9), vR (n + 10), vR (n + 11), vR (n + 12), vR (n + 13), vR (n + 14), vR (n + 15), vR (n + 16), vI 0, vI 0, vI 0, vR (n + 17), vI 0, vI 0, vI 0, vI 0, vI ((-1)), vI 0, vR (n + 18), vI 0, vR (n + 19), vI 0, vR (n + 20), vR (n + 21), vR (n + 22), vR (n + 23), vI 0, vR (n + 24), vR (n + 25), vI 0, vR (n + 26), vR (n + 27), vR (n + 28), vI 0, vR (n + 29), vI 0, vR (n + 30), vI 0, vR (n + 31), vR (n + 32), vI 0, vR (n + 33), vR (n + 34), vR (n + 35), vI 0, vR (n + 36), vI 0, vR (n + 37), vI 0, vR (n + 38), vR (n + 39), vR (n + 40), vR (n + 41), vI 0, vI 0, vI 0, vI 0, vI 0, vR (n + 42)])).set 8 (eI 400 g15))) (qV (fun h' => ∃ g19 : Nat → Int32, h' = h0 ++ (((frM n wf).set 0 (eO 12 [vI 0, vR (n + 1), vR (n + 2), vI 0, vR (n + 3), vI 0, vI 0, vR (n + 4), vR (n + 5), vR (n + 6), vR (n + 7), vR (n + 8), vI 16, vI 0, vI 0, vI 0, vI 0, vR (n + 9), vR (n + 10), vR (n + 11), vR (n + 12), vR (n + 13), vR (n + 14), vR (n + 15), vR (n + 16), vI 0, vI 0, vI 0, vR (n + 17), vI 0, vI 0, vI 0, vI 0, vI ((-1)), vI 0, vR (n + 18), vI 0, vR (n + 19), vI 0, vR (n + 20), vR (n + 21), vR (n + 22), vR (n + 23), vI 0, vR (n + 24), vR (n + 25), vI 0, vR (n + 26), vR (n + 27), vR (n + 28), vI 0, vR (n + 29), vI 0, vR (n + 30), vI 0, vR (n + 31), vR (n + 32), vI 0, vR (n + 33), vR (n + 34), vR (n + 35), vI 0, vR (n + 36), vI 0, vR (n + 37), vI 0, vR (n + 38), vR (n + 39), vR (n + 40), vR (n + 41), vI 0, vI 0, vI 0, vI 0, vI 0, vR (n + 42)])).set 8 (eI 400 g19)))) := by
  refine PMet.intro (by decide) (Nat.le_of_ble_eq_true rfl) ?_
  intro p e s m args below meth c X hr hlk hnm
  refine r_bipush (v := 24) X dX12_types_0 (by decide +kernel) ?_
  refine r_istore_n X dX12_types_2 (by decide) ?_
  refine r_iload_n X dX12_types_3 rfl ?_
  refine r_if_lt_f (tgt := 39) X dX12_types_4 rfl (by decide +kernel) ?_
  refine r_aload_n X dX12_types_7 rfl ?_
  refine a_get (a := 0) X hn fg_X12_31 dX12_types_8 rfl rfl ?_
  refine r_aload_n X dX12_types_11 rfl ?_
  refine a_get (a := 0) X hn fg_X12_166 dX12_types_12 rfl rfl ?_
  refine r_iload_n X dX12_types_15 rfl ?_
  refine r_iload_n X dX12_types_16 rfl ?_
  refine r_ishr X dX12_types_17 ?_
  refine r_sipush (v := 255) X dX12_types_18 (by decide +kernel) ?_
  refine r_iand X dX12_types_21 ?_
  refine a_iast_any (a := 8) X hn dX12_types_22 rfl (inK (by decide +kernel)) (fun g16 => ?_)
  refine r_eq (h' := h0 ++ (((frM n wf).set 0 (eO 12 [vI 0, vR (n + 1), vR (n + 2), vI 0, vR (n + 3), vI 0, vI 0, vR (n + 4), vR (n + 5), vR (n + 6), vR (n + 7), vR (n + 8), vI 12, vI 0, vI 0, vI 0, vI 0, vR (n + 9), vR (n + 10), vR (n + 11), vR (n + 12), vR (n + 13), vR (n + 14), vR (n + 15), vR (n + 16), vI 0, vI 0, vI 0, vR (n + 17), vI 0, vI 0, vI 0, vI 0, vI ((-1)), vI 0, vR (n + 18), vI 0, vR (n + 19), vI 0, vR (n + 20), vR (n + 21), vR (n + 22), vR (n + 23), vI 0, vR (n + 24), vR (n + 25), vI 0, vR (n + 26), vR (n + 27), vR (n + 28), vI 0, vR (n + 29), vI 0, vR (n + 30), vI 0, vR (n + 31), vR (n + 32), vI 0, vR (n + 33), vR (n + 34), vR (n + 35), vI 0, vR (n + 36), vI 0, vR (n + 37), vI 0, vR (n + 38), vR (n + 39), vR (n + 40), vR (n + 41), vI 0, vI 0, vI 0, vI 0, vI 0, vR (n + 42)])).set 8 (eI 400 g16))) rfl rfl rfl ?_
  refine r_aload_n X dX12_types_23 rfl ?_
  refine r_aload_n X dX12_types_24 rfl ?_
  refine a_get (a := 0) X hn fg_X12_166 dX12_types_25 rfl rfl ?_
  refine r_iconst (v := 1) X dX12_types_28 (by decide +kernel) ?_
  refine r_iaddE (v := 13) X dX12_types_29 (by decide +kernel) ?_
  refine a_put (a := 0) X hn fp_X12_166 dX12_types_30 rfl rfl rfl rfl ?_
  refine r_eq (h' := h0 ++ (((frM n wf).set 0 (eO 12 [vI 0, vR (n + 1), vR (n + 2), vI 0, vR (n + 3), vI 0, vI 0, vR (n + 4), vR (n + 5), vR (n + 6), vR (n + 7), vR (n + 8), vI 13, vI 0, vI 0, vI 0, vI 0, vR (n + 9), vR (n + 10), vR (n + 11), vR (n + 12), vR (n + 13), vR (n + 14), vR (n + 15), vR (n + 16), vI 0, vI 0, vI 0, vR (n + 17), vI 0, vI 0, vI 0, vI 0, vI ((-1)), vI 0, vR (n + 18), vI 0, vR (n + 19), vI 0, vR (n + 20), vR (n + 21), vR (n + 22), vR (n + 23), vI 0, vR (n + 24), vR (n + 25), vI 0, vR (n + 26), vR (n + 27), vR (n + 28), vI 0, vR (n + 29), vI 0, vR (n + 30), vI 0, vR (n + 31), vR (n + 32), vI 0, vR (n + 33), vR (n + 34), vR (n + 35), vI 0, vR (n + 36), vI 0, vR (n + 37), vI 0, vR (n + 38), vR (n + 39), vR (n + 40), vR (n + 41), vI 0, vI 0, vI 0, vI 0, vI 0, vR (n + 42)])).set 8 (eI 400 g16))) rfl rfl rfl ?_
  refine r_iinc (v := 16) X dX12_types_33 rfl (by decide +kernel) (by decide) ?_
  refine r_goto (tgt := 3) X dX12_types_36 rfl ?_
  refine r_iload_n X dX12_types_3 rfl ?_
  refine r_if_lt_f (tgt := 39) X dX12_types_4 rfl (by decide +kernel) ?_
  refine r_aload_n X dX12_types_7 rfl ?_
  refine a_get (a := 0) X hn fg_X12_31 dX12_types_8 rfl rfl ?_
  refine r_aload_n X dX12_types_11 rfl ?_
  refine a_get (a := 0) X hn fg_X12_166 dX12_types_12 rfl rfl ?_
  refine r_iload_n X dX12_types_15 rfl ?_
  refine r_iload_n X dX12_types_16 rfl ?_
  refine r_ishr X dX12_types_17 ?_
  refine r_sipush (v := 255) X dX12_types_18 (by decide +kernel) ?_
  refine r_iand X dX12_types_21 ?_
  refine a_iast_any (a := 8) X hn dX12_types_22 rfl (inK (by decide +kernel)) (fun g17 => ?_)
  refine r_eq (h' := h0 ++ (((frM n wf).set 0 (eO 12 [vI 0, vR (n + 1), vR (n + 2), vI 0, vR (n + 3), vI 0, vI 0, vR (n + 4), vR (n + 5), vR (n + 6), vR (n + 7), vR (n + 8), vI 13, vI 0, vI 0, vI 0, vI 0, vR (n + 9), vR (n + 10), vR (n + 11), vR (n + 12), vR (n + 13), vR (n + 14), vR (n + 15), vR (n + 16), vI 0, vI 0, vI 0, vR (n + 17), vI 0, vI 0, vI 0, vI 0, vI ((-1)), vI 0, vR (n + 18), vI 0, vR (n + 19), vI 0, vR (n + 20), vR (n + 21), vR (n + 22), vR (n + 23), vI 0, vR (n + 24), vR (n + 25), vI 0, vR (n + 26), vR (n + 27), vR (n + 28), vI 0, vR (n + 29), vI 0, vR (n + 30), vI 0, vR (n + 31), vR (n + 32), vI 0, vR (n + 33), vR (n + 34), vR (n + 35), vI 0, vR (n + 36), vI 0, vR (n + 37), vI 0, vR (n + 38), vR (n + 39), vR (n + 40), vR (n + 41), vI 0, vI 0, vI 0, vI 0, vI 0, vR (n + 42)])).set 8 (eI 400 g17))) rfl rfl rfl ?_
  refine r_aload_n X dX12_types_23 rfl ?_
  refine r_aload_n X dX12_types_24 rfl ?_
  refine a_get (a := 0) X hn fg_X12_166 dX12_types_25 rfl rfl ?_
  refine r_iconst (v := 1) X dX12_types_28 (by decide +kernel) ?_
  refine r_iaddE (v := 14) X dX12_types_29 (by decide +kernel) ?_
  refine a_put (a := 0) X hn fp_X12_166 dX12_types_30 rfl rfl rfl rfl ?_
  refine r_eq (h' := h0 ++ (((frM n wf).set 0 (eO 12 [vI 0, vR (n + 1), vR (n + 2), vI 0, vR (n + 3), vI 0, vI 0, vR (n + 4), vR (n + 5), vR (n + 6), vR (n + 7), vR (n + 8), vI 14, vI 0, vI 0, vI 0, vI 0, vR (n + 9), vR (n + 10), vR (n + 11), vR (n + 12), vR (n + 13), vR (n + 14), vR (n + 15), vR (n + 16), vI 0, vI 0, vI 0, vR (n + 17), vI 0, vI 0, vI 0, vI 0, vI ((-1)), vI 0, vR (n + 18), vI 0, vR (n + 19), vI 0, vR (n + 20), vR (n + 21), vR (n + 22), vR (n + 23), vI 0, vR (n + 24), vR (n + 25), vI 0, vR (n + 26), vR (n + 27), vR (n + 28), vI 0, vR (n + 29), vI 0, vR (n + 30), vI 0, vR (n + 31), vR (n + 32), vI 0, vR (n + 33), vR (n + 34), vR (n + 35), vI 0, vR (n + 36), vI 0, vR (n + 37), vI 0, vR (n + 38), vR (n + 39), vR (n + 40), vR (n + 41), vI 0, vI 0, vI 0, vI 0, vI 0, vR (n + 42)])).set 8 (eI 400 g17))) rfl rfl rfl ?_
  refine r_iinc (v := 8) X dX12_types_33 rfl (by decide +kernel) (by decide) ?_
  refine r_goto (tgt := 3) X dX12_types_36 rfl ?_
  refine r_iload_n X dX12_types_3 rfl ?_
  refine r_if_lt_f (tgt := 39) X dX12_types_4 rfl (by decide +kernel) ?_
  refine r_aload_n X dX12_types_7 rfl ?_
  refine a_get (a := 0) X hn fg_X12_31 dX12_types_8 rfl rfl ?_
  refine r_aload_n X dX12_types_11 rfl ?_
  refine a_get (a := 0) X hn fg_X12_166 dX12_types_12 rfl rfl ?_
  refine r_iload_n X dX12_types_15 rfl ?_
  refine r_iload_n X dX12_types_16 rfl ?_
  refine r_ishr X dX12_types_17 ?_
  refine r_sipush (v := 255) X dX12_types_18 (by decide +kernel) ?_
  refine r_iand X dX12_types_21 ?_
  refine a_iast_any (a := 8) X hn dX12_types_22 rfl (inK (by decide +kernel)) (fun g18 => ?_)
  refine r_eq (h' := h0 ++ (((frM n wf).set 0 (eO 12 [vI 0, vR (n + 1), vR (n + 2), vI 0, vR (n + 3), vI 0, vI 0, vR (n + 4), vR (n + 5), vR (n + 6), vR (n + 7), vR (n + 8), vI 14, vI 0, vI 0, vI 0, vI 0, vR (n + 9), vR (n + 10), vR (n + 11), vR (n + 12), vR (n + 13), vR (n + 14), vR (n + 15), vR (n + 16), vI 0, vI 0, vI 0, vR (n + 17), vI 0, vI 0, vI 0, vI 0, vI ((-1)), vI 0, vR (n + 18), vI 0, vR (n + 19), vI 0, vR (n + 20), vR (n + 21), vR (n + 22), vR (n + 23), vI 0, vR (n + 24), vR (n + 25), vI 0, vR (n + 26), vR (n + 27), vR (n + 28), vI 0, vR (n + 29), vI 0, vR (n + 30), vI 0, vR (n + 31), vR (n + 32), vI 0, vR (n + 33), vR (n + 34), vR (n + 35), vI 0, vR (n + 36), vI 0, vR (n + 37), vI 0, vR (n + 38), vR (n + 39), vR (n + 40), vR (n + 41), vI 0, vI 0, vI 0, vI 0, vI 0, vR (n + 42)])).set 8 (eI 400 g18))) rfl rfl rfl ?_
  refine r_aload_n X dX12_types_23 rfl ?_
  refine r_aload_n X dX12_types_24 rfl ?_
  refine a_get (a := 0) X hn fg_X12_166 dX12_types_25 rfl rfl ?_
  refine r_iconst (v := 1) X dX12_types_28 (by decide +kernel) ?_
  refine r_iaddE (v := 15) X dX12_types_29 (by decide +kernel) ?_
  refine a_put (a := 0) X hn fp_X12_166 dX12_types_30 rfl rfl rfl rfl ?_
  refine r_eq (h' := h0 ++ (((frM n wf).set 0 (eO 12 [vI 0, vR (n + 1), vR (n + 2), vI 0, vR (n + 3), vI 0, vI 0, vR (n + 4), vR (n + 5), vR (n + 6), vR (n + 7), vR (n + 8), vI 15, vI 0, vI 0, vI 0, vI 0, vR (n + 9), vR (n + 10), vR (n + 11), vR (n + 12), vR (n + 13), vR (n + 14), vR (n + 15), vR (n + 16), vI 0, vI 0, vI 0, vR (n + 17), vI 0, vI 0, vI 0, vI 0, vI ((-1)), vI 0, vR (n + 18), vI 0, vR (n + 19), vI 0, vR (n + 20), vR (n + 21), vR (n + 22), vR (n + 23), vI 0, vR (n + 24), vR (n + 25), vI 0, vR (n + 26), vR (n + 27), vR (n + 28), vI 0, vR (n + 29), vI 0, vR (n + 30), vI 0, vR (n + 31), vR (n + 32), vI 0, vR (n + 33), vR (n + 34), vR (n + 35), vI 0, vR (n + 36), vI 0, vR (n + 37), vI 0, vR (n + 38), vR (n + 39), vR (n + 40), vR (n + 41), vI 0, vI 0, vI 0, vI 0, vI 0, vR (n + 42)])).set 8 (eI 400 g18))) rfl rfl rfl ?_
  refine r_iinc (v := 0) X dX12_types_33 rfl (by decide +kernel) (by decide) ?_
  refine r_goto (tgt := 3) X dX12_types_36 rfl ?_
  refine r_iload_n X dX12_types_3 rfl ?_
  refine r_if_lt_f (tgt := 39) X dX12_types_4 rfl (by decide +kernel) ?_
  refine r_aload_n X dX12_types_7 rfl ?_
  refine a_get (a := 0) X hn fg_X12_31 dX12_types_8 rfl rfl ?_
  refine r_aload_n X dX12_types_11 rfl ?_
  refine a_get (a := 0) X hn fg_X12_166 dX12_types_12 rfl rfl ?_
  refine r_iload_n X dX12_types_15 rfl ?_
  refine r_iload_n X dX12_types_16 rfl ?_
  refine r_ishr X dX12_types_17 ?_
  refine r_sipush (v := 255) X dX12_types_18 (by decide +kernel) ?_
  refine r_iand X dX12_types_21 ?_
  refine a_iast_any (a := 8) X hn dX12_types_22 rfl (inK (by decide +kernel)) (fun g19 => ?_)
  refine r_eq (h' := h0 ++ (((frM n wf).set 0 (eO 12 [vI 0, vR (n + 1), vR (n + 2), vI 0, vR (n + 3), vI 0, vI 0, vR (n + 4), vR (n + 5), vR (n + 6), vR (n + 7), vR (n + 8), vI 15, vI 0, vI 0, vI 0, vI 0, vR (n + 9), vR (n + 10), vR (n + 11), vR (n + 12), vR (n + 13), vR (n + 14), vR (n + 15), vR (n + 16), vI 0, vI 0, vI 0, vR (n + 17), vI 0, vI 0, vI 0, vI 0, vI ((-1)), vI 0, vR (n + 18), vI 0, vR (n + 19), vI 0, vR (n + 20), vR (n + 21), vR (n + 22), vR (n + 23), vI 0, vR (n + 24), vR (n + 25), vI 0, vR (n + 26), vR (n + 27), vR (n + 28), vI 0, vR (n + 29), vI 0, vR (n + 30), vI 0, vR (n + 31), vR (n + 32), vI 0, vR (n + 33), vR (n + 34), vR (n + 35), vI 0, vR (n + 36), vI 0, vR (n + 37), vI 0, vR (n + 38), vR (n + 39), vR (n + 40), vR (n + 41), vI 0, vI 0, vI 0, vI 0, vI 0, vR (n + 42)])).set 8 (eI 400 g19))) rfl rfl rfl ?_
  refine r_aload_n X dX12_types_23 rfl ?_
  refine r_aload_n X dX12_types_24 rfl ?_
  refine a_get (a := 0) X hn fg_X12_166 dX12_types_25 rfl rfl ?_
  refine r_iconst (v := 1) X dX12_types_28 (by decide +kernel) ?_
  refine r_iaddE (v := 16) X dX12_types_29 (by decide +kernel) ?_
  refine a_put (a := 0) X hn fp_X12_166 dX12_types_30 rfl rfl rfl rfl ?_
  refine r_eq (h' := h0 ++ (((frM n wf).set 0 (eO 12 [vI 0, vR (n + 1), vR (n + 2), vI 0, vR (n + 3), vI 0, vI 0, vR (n + 4), vR (n + 5), vR (n + 6), vR (n + 7), vR (n + 8), vI 16, vI 0, vI 0, vI 0, vI 0, vR (n + 9), vR (n + 10), vR (n + 11), vR (n + 12), vR (n + 13), vR (n + 14), vR (n + 15), vR (n + 16), vI 0, vI 0, vI 0, vR (n + 17), vI 0, vI 0, vI 0, vI 0, vI ((-1)), vI 0, vR (n + 18), vI 0, vR (n + 19), vI 0, vR (n + 20), vR (n + 21), vR (n + 22), vR (n + 23), vI 0, vR (n + 24), vR (n + 25), vI 0, vR (n + 26), vR (n + 27), vR (n + 28), vI 0, vR (n + 29), vI 0, vR (n + 30), vI 0, vR (n + 31), vR (n + 32), vI 0, vR (n + 33), vR (n + 34), vR (n + 35), vI 0, vR (n + 36), vI 0, vR (n + 37), vI 0, vR (n + 38), vR (n + 39), vR (n + 40), vR (n + 41), vI 0, vI 0, vI 0, vI 0, vI 0, vR (n + 42)])).set 8 (eI 400 g19))) rfl rfl rfl ?_
  refine r_iinc (v := (-8)) X dX12_types_33 rfl (by decide +kernel) (by decide) ?_
  refine r_eq (ls' := [some (vR (n + 0)), some (vI z0), some (vI ((-8)))]) rfl rfl rfl ?_
  refine r_goto (tgt := 3) X dX12_types_36 rfl ?_
  refine r_iload_n X dX12_types_3 rfl ?_
  refine r_if_lt_t (tgt := 39) X dX12_types_4 rfl (by decide +kernel) ?_
  exact r_ret_v X hr hlk dX12_types_39 (Nat.le_of_ble_eq_true rfl) (Nat.le_of_ble_eq_true rfl) ⟨rfl, ⟨_, rfl⟩⟩
set_option maxRecDepth 100000 in
set_option maxHeartbeats 4000000 in
theorem km13_X12_types (l : Launch) (G : PG) (h0 : PH) (n : Nat) (hn : h0.length = n) (wf : Nat → Int32) (z0 : Int32) (g20 : Nat → Int32) : PMet l G yX12_types cX12_types 3 none 0 0 0 [vR (n + 0), vI z0] (h0 ++ (((frM n wf).set 0 (eO 12 [vI 0, vR (n + 1), vR (n + 2), vI 0, vR (n + 3), vI 0, vI 0, vR (n + 4), vR (n + 5), vR (n + 6), vR (n + 7), vR (n + 8), vI 16, vI 0, vI 0, vI 0, vI 0, vR (n + 9), vR (n + 10), vR (n + 11), vR (n + 12), vR (n + 13), vR (n + 14), vR (n + 15), vR (n + 16), vI 0, vI 0, vI 0, vR (n + 17), vI 0, vI 0, vI 0, vI 0, vI ((-1)), vI 0, vR (n + 18), vI 0, vR (n + 19), vI 0, vR (n + 20), vR (n + 21), vR (n + 22), vR (n + 23), vI 0, vR (n + 24), vR (n + 25), vI 0, vR (n + 26), vR (n + 27), vR (n + 28), vI 0, vR (n + 29), vI 0, vR (n + 30), vI 0, vR (n + 31), vR (n + 32), vI 0, vR (n + 33), vR (n + 34), vR (n + 35), vI 0, vR (n + 36), vI 0, vR (n + 37), vI 0, vR (n + 38), vR (n + 39), vR (n + 40), vR (n + 41), vI 0, vI 0, vI 0, vI 0, vI 0, vR (n + 42)])).set 8 (eI 400 g20))) (qV (fun h' => ∃ g24 : Nat → Int32, h' = h0 ++ (((frM n wf).set 0 (eO 12 [vI 0, vR (n + 1), vR (n + 2), vI 0, vR (n + 3), vI 0, vI 0, vR (n + 4), vR (n + 5), vR (n + 6), vR (n + 7), vR (n + 8), vI 20, vI 0, vI 0, vI 0, vI 0, vR (n + 9), vR (n + 10), vR (n + 11), vR (n + 12), vR (n + 13), vR (n + 14), vR (n + 15), vR (n + 16), vI 0, vI 0, vI 0, vR (n + 17), vI 0, vI 0, vI 0, vI 0, vI ((-1)), vI 0, vR (n + 18), vI 0, vR (n + 19), vI 0, vR (n + 20), vR (n + 21), vR (n + 22), vR (n + 23), vI 0, vR (n + 24), vR (n + 25), vI 0, vR (n + 26), vR (n + 27), vR (n + 28), vI 0, vR (n + 29), vI 0, vR (n + 30), vI 0, vR (n + 31), vR (n + 32), vI 0, vR (n + 33), vR (n + 34), vR (n + 35), vI 0, vR (n + 36), vI 0, vR (n + 37), vI 0, vR (n + 38), vR (n + 39), vR (n + 40), vR (n + 41), vI 0, vI 0, vI 0, vI 0, vI 0, vR (n + 42)])).set 8 (eI 400 g24)))) := by
  refine PMet.intro (by decide) (Nat.le_of_ble_eq_true rfl) ?_
  intro p e s m args below meth c X hr hlk hnm
  refine r_bipush (v := 24) X dX12_types_0 (by decide +kernel) ?_
  refine r_istore_n X dX12_types_2 (by decide) ?_
  refine r_iload_n X dX12_types_3 rfl ?_
  refine r_if_lt_f (tgt := 39) X dX12_types_4 rfl (by decide +kernel) ?_
  refine r_aload_n X dX12_types_7 rfl ?_
  refine a_get (a := 0) X hn fg_X12_31 dX12_types_8 rfl rfl ?_
  refine r_aload_n X dX12_types_11 rfl ?_
  refine a_get (a := 0) X hn fg_X12_166 dX12_types_12 rfl rfl ?_
  refine r_iload_n X dX12_types_15 rfl ?_
  refine r_iload_n X dX12_types_16 rfl ?_
  refine r_ishr X dX12_types_17 ?_
  refine r_sipush (v := 255) X dX12_types_18 (by decide +kernel) ?_
  refine r_iand X dX12_types_21 ?_
  refine a_iast_any (a := 8) X hn dX12_types_22 rfl (inK (by decide +kernel)) (fun g21 => ?_)
  refine r_eq (h' := h0 ++ (((frM n wf).set 0 (eO 12 [vI 0, vR (n + 1), vR (n + 2), vI 0, vR (n + 3), vI 0, vI 0, vR (n + 4), vR (n + 5), vR (n + 6), vR (n + 7), vR (n + 8), vI 16, vI 0, vI 0, vI 0, vI 0, vR (n + 9), vR (n + 10), vR (n + 11), vR (n + 12), vR (n + 13), vR (n + 14), vR (n + 15), vR (n + 16), vI 0, vI 0, vI 0, vR (n + 17), vI 0, vI 0, vI 0, vI 0, vI ((-1)), vI 0, vR (n + 18), vI 0, vR (n + 19), vI 0, vR (n + 20), vR (n + 21), vR (n + 22), vR (n + 23), vI 0, vR (n + 24), vR (n + 25), vI 0, vR (n + 26), vR (n + 27), vR (n + 28), vI 0, vR (n + 29), vI 0, vR (n + 30), vI 0, vR (n + 31), vR (n + 32), vI 0, vR (n + 33), vR (n + 34), vR (n + 35), vI 0, vR (n + 36), vI 0, vR (n + 37), vI 0, vR (n + 38), vR (n + 39), vR (n + 40), vR (n + 41), vI 0, vI 0, vI 0, vI 0, vI 0, vR (n + 42)])).set 8 (eI 400 g21))) rfl rfl rfl ?_
  refine r_aload_n X dX12_types_23 rfl ?_
  refine r_aload_n X dX12_types_24 rfl ?_
  refine a_get (a := 0) X hn fg_X12_166 dX12_types_25 rfl rfl ?_
  refine r_iconst (v := 1) X dX12_types_28 (by decide +kernel) ?_
  refine r_iaddE (v := 17) X dX12_types_29 (by decide +kernel) ?_
  refine a_put (a := 0) X hn fp_X12_166 dX12_types_30 rfl rfl rfl rfl ?_
  refine r_eq (h' := h0 ++ (((frM n wf).set 0 (eO 12 [vI 0, vR (n + 1), vR (n + 2), vI 0, vR (n + 3), vI 0, vI 0, vR (n + 4), vR (n + 5), vR (n + 6), vR (n + 7), vR (n + 8), vI 17, vI 0, vI 0, vI 0, vI 0, vR (n + 9), vR (n + 10), vR (n + 11), vR (n + 12), vR (n + 13), vR (n + 14), vR (n + 15), vR (n + 16), vI 0, vI 0, vI 0, vR (n + 17), vI 0, vI 0, vI 0, vI 0, vI ((-1)), vI 0, vR (n + 18), vI 0, vR (n + 19), vI 0, vR (n + 20), vR (n + 21), vR (n + 22), vR (n + 23), vI 0, vR (n + 24), vR (n + 25), vI 0, vR (n + 26), vR (n + 27), vR (n + 28), vI 0, vR (n + 29), vI 0, vR (n + 30), vI 0, vR (n + 31), vR (n + 32), vI 0, vR (n + 33), vR (n + 34), vR (n + 35), vI 0, vR (n + 36), vI 0, vR (n + 37), vI 0, vR (n + 38), vR (n + 39), vR (n + 40), vR (n + 41), vI 0, vI 0, vI 0, vI 0, vI 0, vR (n + 42)])).set 8 (eI 400 g21))) rfl rfl rfl ?_
  refine r_iinc (v := 16) X dX12_types_33 rfl (by decide +kernel) (by decide) ?_
  refine r_goto (tgt := 3) X dX12_types_36 rfl ?_
  refine r_iload_n X dX12_types_3 rfl ?_
  refine r_if_lt_f (tgt := 39) X dX12_types_4 rfl (by decide +kernel) ?_
  refine r_aload_n X dX12_types_7 rfl ?_
  refine a_get (a := 0) X hn fg_X12_31 dX12_types_8 rfl rfl ?_
  refine r_aload_n X dX12_types_11 rfl ?_
  refine a_get (a := 0) X hn fg_X12_166 dX12_types_12 rfl rfl ?_
  refine r_iload_n X dX12_types_15 rfl ?_
  refine r_iload_n X dX12_types_16 rfl ?_
  refine r_ishr X dX12_types_17 ?_
  refine r_sipush (v := 255) X dX12_types_18 (by decide +kernel) ?_
  refine r_iand X dX12_types_21 ?_
  refine a_iast_any (a := 8) X hn dX12_types_22 rfl (inK (by decide +kernel)) (fun g22 => ?_)
  refine r_eq (h' := h0 ++ (((frM n wf).set 0 (eO 12 [vI 0, vR (n + 1), vR (n + 2), vI 0, vR (n + 3), vI 0, vI 0, vR (n + 4), vR (n + 5), vR (n + 6), vR (n + 7), vR (n + 8), vI 17, vI 0, vI 0, vI 0, vI 0, vR (n + 9), vR (n + 10), vR (n + 11), vR (n + 12), vR (n + 13), vR (n + 14), vR (n + 15), vR (n + 16), vI 0, vI 0, vI 0, vR (n + 17), vI 0, vI 0, vI 0, vI 0, vI ((-1)), vI 0, vR (n + 18), vI 0, vR (n + 19), vI 0, vR (n + 20), vR (n + 21), vR (n + 22), vR (n + 23), vI 0, vR (n + 24), vR (n + 25), vI 0, vR (n + 26), vR (n + 27), vR (n + 28), vI 0, vR (n + 29), vI 0, vR (n + 30), vI 0, vR (n + 31), vR (n + 32), vI 0, vR (n + 33), vR (n + 34), vR (n + 35), vI 0, vR (n + 36), vI 0, vR (n + 37), vI 0, vR (n + 38), vR (n + 39), vR (n + 40), vR (n + 41), vI 0, vI 0, vI 0, vI 0, vI 0, vR (n + 42)])).set 8 (eI 400 g22))) rfl rfl rfl ?_
  refine r_aload_n X dX12_types_23 rfl ?_
  refine r_aload_n X dX12_types_24 rfl ?_
  refine a_get (a := 0) X hn fg_X12_166 dX12_types_25 rfl rfl ?_
  refine r_iconst (v := 1) X dX12_types_28 (by decide +kernel) ?_
  refine r_iaddE (v := 18) X dX12_types_29 (by decide +kernel) ?_
  refine a_put (a := 0) X hn fp_X12_166 dX12_types_30 rfl rfl rfl rfl ?_
  refine r_eq (h' := h0 ++ (((frM n wf).set 0 (eO 12 [vI 0, vR (n + 1), vR (n + 2), vI 0, vR (n + 3), vI 0, vI 0, vR (n + 4), vR (n + 5), vR (n + 6), vR (n + 7), vR (n + 8), vI 18, vI 0, vI 0, vI 0, vI 0, vR (n + 9), vR (n + 10), vR (n + 11), vR (n + 12), vR (n + 13), vR (n + 14), vR (n + 15), vR (n + 16), vI 0, vI 0, vI 0, vR (n + 17), vI 0, vI 0, vI 0, vI 0, vI ((-1)), vI 0, vR (n + 18), vI 0, vR (n + 19), vI 0, vR (n + 20), vR (n + 21), vR (n + 22), vR (n + 23), vI 0, vR (n + 24), vR (n + 25), vI 0, vR (n + 26), vR (n + 27), vR (n + 28), vI 0, vR (n + 29), vI 0, vR (n + 30), vI 0, vR (n + 31), vR (n + 32), vI 0, vR (n + 33), vR (n + 34), vR (n + 35), vI 0, vR (n + 36), vI 0, vR (n + 37), vI 0, vR (n + 38), vR (n + 39), vR (n + 40), vR (n + 41), vI 0, vI 0, vI 0, vI 0, vI 0, vR (n + 42)])).set 8 (eI 400 g22))) rfl rfl rfl ?_
  refine r_iinc (v := 8) X dX12_types_33 rfl (by decide +kernel) (by decide) ?_
  refine r_goto (tgt := 3) X dX12_types_36 rfl ?_
  refine r_iload_n X dX12_types_3 rfl ?_
  refine r_if_lt_f (tgt := 39) X dX12_types_4 rfl (by decide +kernel) ?_
  refine r_aload_n X dX12_types_7 rfl ?_
  refine a_get (a := 0) X hn fg_X12_31 dX12_types_8 rfl rfl ?_
  refine r_aload_n X dX12_types_11 rfl ?_
  refine a_get (a := 0) X hn fg_X12_166 dX12_types_12 rfl rfl ?_
  refine r_iload_n X dX12_types_15 rfl ?_
  refine r_iload_n X dX12_types_16 rfl ?_
  refine r_ishr X dX12_types_17 ?_
  refine r_sipush (v := 255) X dX12_types_18 (by decide +kernel) ?_
  refine r_iand X dX12_types_21 ?_
  refine a_iast_any (a := 8) X hn dX12_types_22 rfl (inK (by decide +kernel)) (fun g23 => ?_)
  refine r_eq (h' := h0 ++ (((frM n wf).set 0 (eO 12 [vI 0, vR (n + 1), vR (n + 2), vI 0, vR (n + 3), vI 0, vI 0, vR (n + 4), vR (n + 5), vR (n + 6), vR (n + 7), vR (n + 8), vI 18, vI 0, vI 0, vI 0, vI 0, vR (n + 9), vR (n + 10), vR (n + 11), vR (n + 12), vR (n + 13), vR (n + 14), vR (n + 15), vR (n + 16), vI 0, vI 0, vI 0, vR (n + 17), vI 0, vI 0, vI 0, vI 0, vI ((-1)), vI 0, vR (n + 18), vI 0, vR (n + 19), vI 0, vR (n + 20), vR (n + 21), vR (n + 22), vR (n + 23), vI 0, vR (n + 24), vR (n + 25), vI 0, vR (n + 26), vR (n + 27), vR (n + 28), vI 0, vR (n + 29), vI 0, vR (n + 30), vI 0, vR (n + 31), vR (n + 32), vI 0, vR (n + 33), vR (n + 34), vR (n + 35), vI 0, vR (n + 36), vI 0, vR (n + 37), vI 0, vR (n + 38), vR (n + 39), vR (n + 40), vR (n + 41), vI 0, vI 0, vI 0, vI 0, vI 0, vR (n + 42)])).set 8 (eI 400 g23))) rfl rfl rfl ?_
  refine r_aload_n X dX12_types_23 rfl ?_
  refine r_aload_n X dX12_types_24 rfl ?_
  refine a_get (a := 0) X hn fg_X12_166 dX12_types_25 rfl rfl ?_
  refine r_iconst (v := 1) X dX12_types_28 (by decide +kernel) ?_
  refine r_iaddE (v := 19) X dX12_types_29 (by decide +kernel) ?_
  refine a_put (a := 0) X hn fp_X12_166 dX12_types_30 rfl rfl rfl rfl ?_
  refine r_eq (h' := h0 ++ (((frM n wf).set 0 (eO 12 [vI 0, vR (n + 1), vR (n + 2), vI 0, vR (n + 3), vI 0, vI 0, vR (n + 4), vR (n + 5), vR (n + 6), vR (n + 7), vR (n + 8), vI 19, vI 0, vI 0, vI 0, vI 0, vR (n + 9), vR (n + 10), vR (n + 11), vR (n + 12), vR (n + 13), vR (n + 14), vR (n + 15), vR (n + 16), vI 0, vI 0, vI 0, vR (n + 17), vI 0, vI 0, vI 0, vI 0, vI ((-1)), vI 0, vR (n + 18), vI 0, vR (n + 19), vI 0, vR (n + 20), vR (n + 21), vR (n + 22), vR (n + 23), vI 0, vR (n + 24), vR (n + 25), vI 0, vR (n + 26), vR (n + 27), vR (n + 28), vI 0, vR (n + 29), vI 0, vR (n + 30), vI 0, vR (n + 31), vR (n + 32), vI 0, vR (n + 33), vR (n + 34), vR (n + 35), vI 0, vR (n + 36), vI 0, vR (n + 37), vI 0, vR (n + 38), vR (n + 39), vR (n + 40), vR (n + 41), vI 0, vI 0, vI 0, vI 0, vI 0, vR (n + 42)])).set 8 (eI 400 g23))) rfl rfl rfl ?_
  refine r_iinc (v := 0) X dX12_types_33 rfl (by decide +kernel) (by decide) ?_
  refine r_goto (tgt := 3) X dX12_types_36 rfl ?_
  refine r_iload_n X dX12_types_3 rfl ?_
  refine r_if_lt_f (tgt := 39) X dX12_types_4 rfl (by decide +kernel) ?_
  refine r_aload_n X dX12_types_7 rfl ?_
  refine a_get (a := 0) X hn fg_X12_31 dX12_types_8 rfl rfl ?_
  refine r_aload_n X dX12_types_11 rfl ?_
  refine a_get (a := 0) X hn fg_X12_166 dX12_types_12 rfl rfl ?_
  refine r_iload_n X dX12_types_15 rfl ?_
  refine r_iload_n X dX12_types_16 rfl ?_
  refine r_ishr X dX12_types_17 ?_
  refine r_sipush (v := 255) X dX12_types_18 (by decide +kernel) ?_
  refine r_iand X dX12_types_21 ?_
  refine a_iast_any (a := 8) X hn dX12_types_22 rfl (inK (by decide +kernel)) (fun g24 => ?_)
  refine r_eq (h' := h0 ++ (((frM n wf).set 0 (eO 12 [vI 0, vR (n + 1), vR (n + 2), vI 0, vR (n + 3), vI 0, vI 0, vR (n + 4), vR (n + 5), vR (n + 6), vR (n + 7), vR (n + 8), vI 19, vI 0, vI 0, vI 0, vI 0, vR (n + 9), vR (n + 10), vR (n + 11), vR (n + 12), vR (n + 13), vR (n + 14), vR (n + 15), vR (n + 16), vI 0, vI 0, vI 0, vR (n + 17), vI 0, vI 0, vI 0, vI 0, vI ((-1)), vI 0, vR (n + 18), vI 0, vR (n + 19), vI 0, vR (n + 20), vR (n + 21), vR (n + 22), vR (n + 23), vI 0, vR (n + 24), vR (n + 25), vI 0, vR (n + 26), vR (n + 27), vR (n + 28), vI 0, vR (n + 29), vI 0, vR (n + 30), vI 0, vR (n + 31), vR (n + 32), vI 0, vR (n + 33), vR (n + 34), vR (n + 35), vI 0, vR (n + 36), vI 0, vR (n + 37), vI 0, vR (n + 38), vR (n + 39), vR (n + 40), vR (n + 41), vI 0, vI 0, vI 0, vI 0, vI 0, vR (n + 42)])).set 8 (eI 400 g24))) rfl rfl rfl ?_
  refine r_aload_n X dX12_types_23 rfl ?_
  refine r_aload_n X dX12_types_24 rfl ?_
  refine a_get (a := 0) X hn fg_X12_166 dX12_types_25 rfl rfl ?_
  refine r_iconst (v := 1) X dX12_types_28 (by decide +kernel) ?_
  refine r_iaddE (v := 20) X dX12_types_29 (by decide +kernel) ?_
  refine a_put (a := 0) X hn fp_X12_166 dX12_types_30 rfl rfl rfl rfl ?_
  refine r_eq (h' := h0 ++ (((frM n wf).set 0 (eO 12 [vI 0, vR (n + 1), vR (n + 2), vI 0, vR (n + 3), vI 0, vI 0, vR (n + 4), vR (n + 5), vR (n + 6), vR (n + 7), vR (n + 8), vI 20, vI 0, vI 0, vI 0, vI 0, vR (n + 9), vR (n + 10), vR (n + 11), vR (n + 12), vR (n + 13), vR (n + 14), vR (n + 15), vR (n + 16), vI 0, vI 0, vI 0, vR (n + 17), vI 0, vI 0, vI 0, vI 0, vI ((-1)), vI 0, vR (n + 18), vI 0, vR (n + 19), vI 0, vR (n + 20), vR (n + 21), vR (n + 22), vR (n + 23), vI 0, vR (n + 24), vR (n + 25), vI 0, vR (n + 26), vR (n + 27), vR (n + 28), vI 0, vR (n + 29), vI 0, vR (n + 30), vI 0, vR (n + 31), vR (n + 32), vI 0, vR (n + 33), vR (n + 34), vR (n + 35), vI 0, vR (n + 36), vI 0, vR (n + 37), vI 0, vR (n + 38), vR (n + 39), vR (n + 40), vR (n + 41), vI 0, vI 0, vI 0, vI 0, vI 0, vR (n + 42)])).set 8 (eI 400 g24))) rfl rfl rfl ?_
  refine r_iinc (v := (-8)) X dX12_types_33 rfl (by decide +kernel) (by decide) ?_
  refine r_eq (ls' := [some (vR (n + 0)), some (vI z0), some (vI ((-8)))]) rfl rfl rfl ?_
  refine r_goto (tgt := 3) X dX12_types_36 rfl ?_
  refine r_iload_n X dX12_types_3 rfl ?_
  refine r_if_lt_t (tgt := 39) X dX12_types_4 rfl (by decide +kernel) ?_
  exact r_ret_v X hr hlk dX12_types_39 (Nat.le_of_ble_eq_true rfl) (Nat.le_of_ble_eq_true rfl) ⟨rfl, ⟨_, rfl⟩⟩
set_option maxRecDepth 100000 in
set_option maxHeartbeats 4000000 in
theorem m_feed (l : Launch) (G : PG) (h0 : PH) (n : Nat) (hn : h0.length = n) (wf : Nat → Int32) (a b c0 d f : Int32) : PMet l G yX12_feed cX12_feed 6 (some .int) 1 0 0 [vR (n + 0), vI a, vI b, vI c0, vI d, vI f] (h0 ++ (frM n wf)) (qI (fun x h' => x = sp_feed a b c0 d f)) := by
  refine PMet.intro (by decide) (Nat.le_of_ble_eq_true rfl) ?_
  intro p e s m args below meth c X hr hlk hnm
  refine r_aload_n X dX12_feed_0 rfl ?_
  refine r_iconst (v := 0) X dX12_feed_1 (by decide +kernel) ?_
  refine a_put (a := 0) X hn fp_X12_140 dX12_feed_2 rfl rfl rfl rfl ?_
  refine r_eq (h' := h0 ++ (frM n wf)) rfl rfl rfl ?_
  refine r_aload_n X dX12_feed_5 rfl ?_
  refine a_get (a := 0) X hn fg_X12_166 dX12_feed_6 rfl rfl ?_
  refine r_sipush (v := 380) X dX12_feed_9 (by decide +kernel) ?_
  refine r_icmp_le_t (tgt := 17) X dX12_feed_12 rfl (by decide +kernel) ?_
  refine r_aload_n X dX12_feed_17 rfl ?_
  refine r_iload_n X dX12_feed_18 rfl ?_
  refine r_V1v X kv_X12_169 dX12_feed_19 (apG (k := 0) hn rfl) rfl (km9_X12_types l G _ _ hn _ _) rfl (fun h' hΨ => ?_)
  obtain ⟨g5, rfl⟩ := hΨ
  refine r_aload_n X dX12_feed_22 rfl ?_
  refine r_iload_n X dX12_feed_23 rfl ?_
  refine r_V1v X kv_X12_169 dX12_feed_24 (apG (k := 0) hn rfl) rfl (km10_X12_types l G _ _ hn _ _ _) rfl (fun h' hΨ => ?_)
  obtain ⟨g10, rfl⟩ := hΨ
  refine r_aload_n X dX12_feed_27 rfl ?_
  refine r_iload_n X dX12_feed_28 rfl ?_
  refine r_V1v X kv_X12_169 dX12_feed_29 (apG (k := 0) hn rfl) rfl (km11_X12_types l G _ _ hn _ _ _) rfl (fun h' hΨ => ?_)
  obtain ⟨g15, rfl⟩ := hΨ
  refine r_aload_n X dX12_feed_32 rfl ?_
  refine r_iload X dX12_feed_33 rfl ?_
  refine r_V1v X kv_X12_169 dX12_feed_35 (apG (k := 0) hn rfl) rfl (km12_X12_types l G _ _ hn _ _ _) rfl (fun h' hΨ => ?_)
  obtain ⟨g20, rfl⟩ := hΨ
  refine r_aload_n X dX12_feed_38 rfl ?_
  refine r_iload X dX12_feed_39 rfl ?_
  refine r_V1v X kv_X12_169 dX12_feed_41 (apG (k := 0) hn rfl) rfl (km13_X12_types l G _ _ hn _ _ _) rfl (fun h' hΨ => ?_)
  obtain ⟨g25, rfl⟩ := hΨ
  refine r_aload_n X dX12_feed_44 rfl ?_
  refine a_get (a := 0) X hn fg_X12_166 dX12_feed_45 rfl rfl ?_
  exact r_ret_i X hr hlk dX12_feed_48 (Nat.le_of_ble_eq_true rfl) (Nat.le_of_ble_eq_true rfl) ⟨_, rfl, rfl⟩
