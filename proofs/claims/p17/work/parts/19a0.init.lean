theorem apL {h0 L : PH} {n k : Nat} (hn : h0.length = n) (hk : L.length = k) : (h0 ++ L).length = n + k := by rw [List.length_append, hn, hk]
set_option maxRecDepth 100000 in
set_option maxHeartbeats 4000000 in
theorem c_X0_init (l : Launch) (G : PG) (h0 : PH) (n : Nat) (hn : h0.length = n)  : PMet l G yX0_init cX0_init 1 none 1 2 264 [vR (n + 0)] (h0 ++ [eO 0 [vN, vN, vI 0, vI 0, vI 0, vI 0, vI 0, vI 0, vI 0, vI 0]]) (qV (fun h' => h' = h0 ++ [eO 0 [vR (n + 1), vR (n + 2), vI 0, vI 0, vI 0, vI 0, vI 0, vI 0, vI 0, vI 0], eI 120 (fun _ => 0), eI 144 (fun _ => 0)])) := by
  refine PMet.intro (by decide) (Nat.le_of_ble_eq_true rfl) ?_
  intro p e s m args below meth c X hr hlk hnm
  refine r_aload_n X dX0_init_0 rfl ?_
  refine r_obji X lo_X0_3 w_oi w_oc dX0_init_1 (Nat.le_of_ble_eq_true rfl) (Nat.le_of_ble_eq_true rfl) ?_
  refine r_aload_n X dX0_init_4 rfl ?_
  refine r_bipush (v := 120) X dX0_init_5 (by decide +kernel) ?_
  refine a_newi (N := 120) (k := 1) X hn dX0_init_7 (by decide +kernel) (by decide +kernel) rfl rfl rfl rfl ?_
  refine a_putF (a := 0) X hn ff_X0_9 hnm dX0_init_9 rfl rfl rfl rfl ?_
  refine r_aload_n X dX0_init_12 rfl ?_
  refine r_sipush (v := 144) X dX0_init_13 (by decide +kernel) ?_
  refine a_newi (N := 144) (k := 2) X hn dX0_init_16 (by decide +kernel) (by decide +kernel) rfl rfl rfl rfl ?_
  refine a_putF (a := 0) X hn ff_X0_15 hnm dX0_init_18 rfl rfl rfl rfl ?_
  refine r_aload_n X dX0_init_21 rfl ?_
  refine r_iconst (v := 0) X dX0_init_22 (by decide +kernel) ?_
  refine a_put (a := 0) X hn fp_X0_18 dX0_init_23 rfl rfl rfl rfl ?_
  refine r_aload_n X dX0_init_26 rfl ?_
  refine r_iconst (v := 0) X dX0_init_27 (by decide +kernel) ?_
  refine a_put (a := 0) X hn fp_X0_22 dX0_init_28 rfl rfl rfl rfl ?_
  refine r_aload_n X dX0_init_31 rfl ?_
  refine r_iconst (v := 0) X dX0_init_32 (by decide +kernel) ?_
  refine a_put (a := 0) X hn fp_X0_25 dX0_init_33 rfl rfl rfl rfl ?_
  refine r_aload_n X dX0_init_36 rfl ?_
  refine r_iconst (v := 0) X dX0_init_37 (by decide +kernel) ?_
  refine a_put (a := 0) X hn fp_X0_28 dX0_init_38 rfl rfl rfl rfl ?_
  refine r_eq (h' := h0 ++ [eO 0 [vR (n + 1), vR (n + 2), vI 0, vI 0, vI 0, vI 0, vI 0, vI 0, vI 0, vI 0], eI 120 (fun _ => 0), eI 144 (fun _ => 0)]) (ls' := [some (vR (n + 0))]) (st' := []) rfl rfl rfl ?_
  refine r_aload_n X dX0_init_41 rfl ?_
  refine r_iconst (v := 0) X dX0_init_42 (by decide +kernel) ?_
  refine a_put (a := 0) X hn fp_X0_31 dX0_init_43 rfl rfl rfl rfl ?_
  refine r_aload_n X dX0_init_46 rfl ?_
  refine r_iconst (v := 0) X dX0_init_47 (by decide +kernel) ?_
  refine a_put (a := 0) X hn fp_X0_34 dX0_init_48 rfl rfl rfl rfl ?_
  refine r_aload_n X dX0_init_51 rfl ?_
  refine r_iconst (v := 0) X dX0_init_52 (by decide +kernel) ?_
  refine a_put (a := 0) X hn fp_X0_37 dX0_init_53 rfl rfl rfl rfl ?_
  refine r_aload_n X dX0_init_56 rfl ?_
  refine r_iconst (v := 0) X dX0_init_57 (by decide +kernel) ?_
  refine a_put (a := 0) X hn fp_X0_40 dX0_init_58 rfl rfl rfl rfl ?_
  exact r_ret_v X hr hlk dX0_init_61 (Nat.le_of_ble_eq_true rfl) (Nat.le_of_ble_eq_true rfl) ⟨rfl, rfl⟩
set_option maxRecDepth 100000 in
set_option maxHeartbeats 4000000 in
theorem c_X3_init (l : Launch) (G : PG) (h0 : PH) (n : Nat) (hn : h0.length = n)  : PMet l G yX3_init cX3_init 1 none 1 1 750 [vR (n + 0)] (h0 ++ [eO 3 [vN]]) (qV (fun h' => h' = h0 ++ [eO 3 [vR (n + 1)], eI 750 (fun _ => 0)])) := by
  refine PMet.intro (by decide) (Nat.le_of_ble_eq_true rfl) ?_
  intro p e s m args below meth c X hr hlk hnm
  refine r_aload_n X dX3_init_0 rfl ?_
  refine r_obji X lo_X3_3 w_oi w_oc dX3_init_1 (Nat.le_of_ble_eq_true rfl) (Nat.le_of_ble_eq_true rfl) ?_
  refine r_aload_n X dX3_init_4 rfl ?_
  refine r_sipush (v := 750) X dX3_init_5 (by decide +kernel) ?_
  refine a_newi (N := 750) (k := 1) X hn dX3_init_8 (by decide +kernel) (by decide +kernel) rfl rfl rfl rfl ?_
  refine a_putF (a := 0) X hn ff_X3_9 hnm dX3_init_10 rfl rfl rfl rfl ?_
  exact r_ret_v X hr hlk dX3_init_13 (Nat.le_of_ble_eq_true rfl) (Nat.le_of_ble_eq_true rfl) ⟨rfl, rfl⟩
set_option maxRecDepth 100000 in
set_option maxHeartbeats 4000000 in
theorem c_X5_init (l : Launch) (G : PG) (h0 : PH) (n : Nat) (hn : h0.length = n)  : PMet l G yX5_init cX5_init 1 none 1 3 880 [vR (n + 0)] (h0 ++ [eO 5 [vN, vI 0, vI 0, vI 0, vI 0, vI 0, vI 0, vI 0, vI 0, vI 0, vN, vI 0, vN, vI 0]]) (qV (fun h' => h' = h0 ++ [eO 5 [vR (n + 1), vI 0, vI 0, vI 0, vI 0, vI 2, vI 0, vI 0, vI ((-1)), vI 0, vR (n + 2), vI 0, vR (n + 3), vI 0], eI 400 (fun _ => 0), eI 80 (fun _ => 0), eI 400 (fun _ => 0)])) := by
  refine PMet.intro (by decide) (Nat.le_of_ble_eq_true rfl) ?_
  intro p e s m args below meth c X hr hlk hnm
  refine r_aload_n X dX5_init_0 rfl ?_
  refine r_obji X lo_X5_3 w_oi w_oc dX5_init_1 (Nat.le_of_ble_eq_true rfl) (Nat.le_of_ble_eq_true rfl) ?_
  refine r_aload_n X dX5_init_4 rfl ?_
  refine r_sipush (v := 400) X dX5_init_5 (by decide +kernel) ?_
  refine a_newi (N := 400) (k := 1) X hn dX5_init_8 (by decide +kernel) (by decide +kernel) rfl rfl rfl rfl ?_
  refine a_putF (a := 0) X hn ff_X5_9 hnm dX5_init_10 rfl rfl rfl rfl ?_
  refine r_aload_n X dX5_init_13 rfl ?_
  refine r_iconst (v := 0) X dX5_init_14 (by decide +kernel) ?_
  refine a_put (a := 0) X hn fp_X5_15 dX5_init_15 rfl rfl rfl rfl ?_
  refine r_aload_n X dX5_init_18 rfl ?_
  refine r_iconst (v := 0) X dX5_init_19 (by decide +kernel) ?_
  refine a_put (a := 0) X hn fp_X5_19 dX5_init_20 rfl rfl rfl rfl ?_
  refine r_aload_n X dX5_init_23 rfl ?_
  refine r_iconst (v := 0) X dX5_init_24 (by decide +kernel) ?_
  refine a_put (a := 0) X hn fp_X5_22 dX5_init_25 rfl rfl rfl rfl ?_
  refine r_aload_n X dX5_init_28 rfl ?_
  refine r_iconst (v := 0) X dX5_init_29 (by decide +kernel) ?_
  refine a_put (a := 0) X hn fp_X5_25 dX5_init_30 rfl rfl rfl rfl ?_
  refine r_aload_n X dX5_init_33 rfl ?_
  refine r_iconst (v := 2) X dX5_init_34 (by decide +kernel) ?_
  refine a_put (a := 0) X hn fp_X5_28 dX5_init_35 rfl rfl rfl rfl ?_
  refine r_eq (h' := h0 ++ [eO 5 [vR (n + 1), vI 0, vI 0, vI 0, vI 0, vI 2, vI 0, vI 0, vI 0, vI 0, vN, vI 0, vN, vI 0], eI 400 (fun _ => 0)]) (ls' := [some (vR (n + 0))]) (st' := []) rfl rfl rfl ?_
  refine r_aload_n X dX5_init_38 rfl ?_
  refine r_iconst (v := 0) X dX5_init_39 (by decide +kernel) ?_
  refine a_put (a := 0) X hn fp_X5_31 dX5_init_40 rfl rfl rfl rfl ?_
  refine r_aload_n X dX5_init_43 rfl ?_
  refine r_iconst (v := 0) X dX5_init_44 (by decide +kernel) ?_
  refine a_put (a := 0) X hn fp_X5_34 dX5_init_45 rfl rfl rfl rfl ?_
  refine r_aload_n X dX5_init_48 rfl ?_
  refine r_iconst (v := -1) X dX5_init_49 (by decide +kernel) ?_
  refine a_put (a := 0) X hn fp_X5_37 dX5_init_50 rfl rfl rfl rfl ?_
  refine r_aload_n X dX5_init_53 rfl ?_
  refine r_iconst (v := 0) X dX5_init_54 (by decide +kernel) ?_
  refine a_put (a := 0) X hn fp_X5_40 dX5_init_55 rfl rfl rfl rfl ?_
  refine r_aload_n X dX5_init_58 rfl ?_
  refine r_bipush (v := 80) X dX5_init_59 (by decide +kernel) ?_
  refine a_newi (N := 80) (k := 2) X hn dX5_init_61 (by decide +kernel) (by decide +kernel) rfl rfl rfl rfl ?_
  refine a_putF (a := 0) X hn ff_X5_43 hnm dX5_init_63 rfl rfl rfl rfl ?_
  refine r_aload_n X dX5_init_66 rfl ?_
  refine r_iconst (v := 0) X dX5_init_67 (by decide +kernel) ?_
  refine a_put (a := 0) X hn fp_X5_46 dX5_init_68 rfl rfl rfl rfl ?_
  refine r_eq (h' := h0 ++ [eO 5 [vR (n + 1), vI 0, vI 0, vI 0, vI 0, vI 2, vI 0, vI 0, vI ((-1)), vI 0, vR (n + 2), vI 0, vN, vI 0], eI 400 (fun _ => 0), eI 80 (fun _ => 0)]) (ls' := [some (vR (n + 0))]) (st' := []) rfl rfl rfl ?_
  refine r_aload_n X dX5_init_71 rfl ?_
  refine r_sipush (v := 400) X dX5_init_72 (by decide +kernel) ?_
  refine a_newi (N := 400) (k := 3) X hn dX5_init_75 (by decide +kernel) (by decide +kernel) rfl rfl rfl rfl ?_
  refine a_putF (a := 0) X hn ff_X5_49 hnm dX5_init_77 rfl rfl rfl rfl ?_
  refine r_aload_n X dX5_init_80 rfl ?_
  refine r_iconst (v := 0) X dX5_init_81 (by decide +kernel) ?_
  refine a_put (a := 0) X hn fp_X5_52 dX5_init_82 rfl rfl rfl rfl ?_
  exact r_ret_v X hr hlk dX5_init_85 (Nat.le_of_ble_eq_true rfl) (Nat.le_of_ble_eq_true rfl) ⟨rfl, rfl⟩
set_option maxRecDepth 100000 in
set_option maxHeartbeats 4000000 in
theorem c_X6_init (l : Launch) (G : PG) (h0 : PH) (n : Nat) (hn : h0.length = n)  : PMet l G yX6_init cX6_init 1 none 1 2 288 [vR (n + 0)] (h0 ++ [eO 6 [vN, vN, vI 0, vI 0]]) (qV (fun h' => h' = h0 ++ [eO 6 [vR (n + 1), vR (n + 2), vI 0, vI 0], eI 144 (fun _ => 0), eI 144 (fun _ => 0)])) := by
  refine PMet.intro (by decide) (Nat.le_of_ble_eq_true rfl) ?_
  intro p e s m args below meth c X hr hlk hnm
  refine r_aload_n X dX6_init_0 rfl ?_
  refine r_obji X lo_X6_3 w_oi w_oc dX6_init_1 (Nat.le_of_ble_eq_true rfl) (Nat.le_of_ble_eq_true rfl) ?_
  refine r_aload_n X dX6_init_4 rfl ?_
  refine r_sipush (v := 144) X dX6_init_5 (by decide +kernel) ?_
  refine a_newi (N := 144) (k := 1) X hn dX6_init_8 (by decide +kernel) (by decide +kernel) rfl rfl rfl rfl ?_
  refine a_putF (a := 0) X hn ff_X6_9 hnm dX6_init_10 rfl rfl rfl rfl ?_
  refine r_aload_n X dX6_init_13 rfl ?_
  refine r_sipush (v := 144) X dX6_init_14 (by decide +kernel) ?_
  refine a_newi (N := 144) (k := 2) X hn dX6_init_17 (by decide +kernel) (by decide +kernel) rfl rfl rfl rfl ?_
  refine a_putF (a := 0) X hn ff_X6_15 hnm dX6_init_19 rfl rfl rfl rfl ?_
  refine r_aload_n X dX6_init_22 rfl ?_
  refine r_iconst (v := 0) X dX6_init_23 (by decide +kernel) ?_
  refine a_put (a := 0) X hn fp_X6_18 dX6_init_24 rfl rfl rfl rfl ?_
  refine r_aload_n X dX6_init_27 rfl ?_
  refine r_iconst (v := 0) X dX6_init_28 (by decide +kernel) ?_
  refine a_put (a := 0) X hn fp_X6_22 dX6_init_29 rfl rfl rfl rfl ?_
  exact r_ret_v X hr hlk dX6_init_32 (Nat.le_of_ble_eq_true rfl) (Nat.le_of_ble_eq_true rfl) ⟨rfl, rfl⟩
set_option maxRecDepth 100000 in
set_option maxHeartbeats 4000000 in
theorem c_X4_init (l : Launch) (G : PG) (h0 : PH) (n : Nat) (hn : h0.length = n)  : PMet l G yX4_init cX4_init 1 none 1 2 802 [vR (n + 0)] (h0 ++ [eO 4 [vN, vN]]) (qV (fun h' => h' = h0 ++ [eO 4 [vR (n + 1), vR (n + 2)], eI 401 (fun _ => 0), eI 401 (fun _ => 0)])) := by
  refine PMet.intro (by decide) (Nat.le_of_ble_eq_true rfl) ?_
  intro p e s m args below meth c X hr hlk hnm
  refine r_aload_n X dX4_init_0 rfl ?_
  refine r_obji X lo_X4_3 w_oi w_oc dX4_init_1 (Nat.le_of_ble_eq_true rfl) (Nat.le_of_ble_eq_true rfl) ?_
  refine r_aload_n X dX4_init_4 rfl ?_
  refine r_sipush (v := 401) X dX4_init_5 (by decide +kernel) ?_
  refine a_newi (N := 401) (k := 1) X hn dX4_init_8 (by decide +kernel) (by decide +kernel) rfl rfl rfl rfl ?_
  refine a_putF (a := 0) X hn ff_X4_9 hnm dX4_init_10 rfl rfl rfl rfl ?_
  refine r_aload_n X dX4_init_13 rfl ?_
  refine r_sipush (v := 401) X dX4_init_14 (by decide +kernel) ?_
  refine a_newi (N := 401) (k := 2) X hn dX4_init_17 (by decide +kernel) (by decide +kernel) rfl rfl rfl rfl ?_
  refine a_putF (a := 0) X hn ff_X4_15 hnm dX4_init_19 rfl rfl rfl rfl ?_
  exact r_ret_v X hr hlk dX4_init_22 (Nat.le_of_ble_eq_true rfl) (Nat.le_of_ble_eq_true rfl) ⟨rfl, rfl⟩
set_option maxRecDepth 100000 in
set_option maxHeartbeats 4000000 in
theorem c_X2_init (l : Launch) (G : PG) (h0 : PH) (n : Nat) (hn : h0.length = n)  : PMet l G yX2_init cX2_init 1 none 1 2 1240 [vR (n + 0)] (h0 ++ [eO 2 [vN, vN, vI 0, vI 0]]) (qV (fun h' => h' = h0 ++ [eO 2 [vR (n + 1), vR (n + 2), vI 0, vI 0], eI 1231 (fun _ => 0), eI 9 (fun _ => 0)])) := by
  refine PMet.intro (by decide) (Nat.le_of_ble_eq_true rfl) ?_
  intro p e s m args below meth c X hr hlk hnm
  refine r_aload_n X dX2_init_0 rfl ?_
  refine r_obji X lo_X2_3 w_oi w_oc dX2_init_1 (Nat.le_of_ble_eq_true rfl) (Nat.le_of_ble_eq_true rfl) ?_
  refine r_aload_n X dX2_init_4 rfl ?_
  refine r_sipush (v := 1231) X dX2_init_5 (by decide +kernel) ?_
  refine a_newi (N := 1231) (k := 1) X hn dX2_init_8 (by decide +kernel) (by decide +kernel) rfl rfl rfl rfl ?_
  refine a_putF (a := 0) X hn ff_X2_11 hnm dX2_init_10 rfl rfl rfl rfl ?_
  refine r_aload_n X dX2_init_13 rfl ?_
  refine r_bipush (v := 9) X dX2_init_14 (by decide +kernel) ?_
  refine a_newi (N := 9) (k := 2) X hn dX2_init_16 (by decide +kernel) (by decide +kernel) rfl rfl rfl rfl ?_
  refine a_putF (a := 0) X hn ff_X2_15 hnm dX2_init_18 rfl rfl rfl rfl ?_
  refine r_aload_n X dX2_init_21 rfl ?_
  refine r_iconst (v := 0) X dX2_init_22 (by decide +kernel) ?_
  refine a_put (a := 0) X hn fp_X2_18 dX2_init_23 rfl rfl rfl rfl ?_
  refine r_aload_n X dX2_init_26 rfl ?_
  refine r_iconst (v := 0) X dX2_init_27 (by decide +kernel) ?_
  refine a_put (a := 0) X hn fp_X2_22 dX2_init_28 rfl rfl rfl rfl ?_
  exact r_ret_v X hr hlk dX2_init_31 (Nat.le_of_ble_eq_true rfl) (Nat.le_of_ble_eq_true rfl) ⟨rfl, rfl⟩
set_option maxRecDepth 100000 in
set_option maxHeartbeats 4000000 in
theorem c_X9_init_6 (l : Launch) (G : PG) (h0 : PH) (n : Nat) (hn : h0.length = n)  : PMet l G yX9_init cX9_init 2 none 1 1 6 [vR (n + 0), vI 6] (h0 ++ [eO 9 [vN, vI 0]]) (qV (fun h' => h' = h0 ++ [eO 9 [vR (n + 1), vI 0], eI 6 (fun _ => 0)])) := by
  refine PMet.intro (by decide) (Nat.le_of_ble_eq_true rfl) ?_
  intro p e s m args below meth c X hr hlk hnm
  refine r_aload_n X dX9_init_0 rfl ?_
  refine r_obji X lo_X9_3 w_oi w_oc dX9_init_1 (Nat.le_of_ble_eq_true rfl) (Nat.le_of_ble_eq_true rfl) ?_
  refine r_aload_n X dX9_init_4 rfl ?_
  refine r_iconst (v := 0) X dX9_init_5 (by decide +kernel) ?_
  refine a_put (a := 0) X hn fp_X9_9 dX9_init_6 rfl rfl rfl rfl ?_
  refine r_aload_n X dX9_init_9 rfl ?_
  refine r_iload_n X dX9_init_10 rfl ?_
  refine r_iconst (v := 0) X dX9_init_11 (by decide +kernel) ?_
  refine r_max (v := 6) X ks_X9_15.1.1 dX9_init_12 rfl (by decide +kernel) ?_
  refine r_eq (h' := h0 ++ [eO 9 [vN, vI 0]]) (ls' := [some (vR (n + 0)), some (vI 6)]) (st' := [vI 6, vR (n + 0)]) rfl rfl rfl ?_
  refine a_newi (N := 6) (k := 1) X hn dX9_init_15 (by decide +kernel) (by decide +kernel) rfl rfl rfl rfl ?_
  refine a_putF (a := 0) X hn ff_X9_21 hnm dX9_init_17 rfl rfl rfl rfl ?_
  exact r_ret_v X hr hlk dX9_init_20 (Nat.le_of_ble_eq_true rfl) (Nat.le_of_ble_eq_true rfl) ⟨rfl, rfl⟩
set_option maxRecDepth 100000 in
set_option maxHeartbeats 4000000 in
theorem c_X9_init_16 (l : Launch) (G : PG) (h0 : PH) (n : Nat) (hn : h0.length = n)  : PMet l G yX9_init cX9_init 2 none 1 1 16 [vR (n + 0), vI 16] (h0 ++ [eO 9 [vN, vI 0]]) (qV (fun h' => h' = h0 ++ [eO 9 [vR (n + 1), vI 0], eI 16 (fun _ => 0)])) := by
  refine PMet.intro (by decide) (Nat.le_of_ble_eq_true rfl) ?_
  intro p e s m args below meth c X hr hlk hnm
  refine r_aload_n X dX9_init_0 rfl ?_
  refine r_obji X lo_X9_3 w_oi w_oc dX9_init_1 (Nat.le_of_ble_eq_true rfl) (Nat.le_of_ble_eq_true rfl) ?_
  refine r_aload_n X dX9_init_4 rfl ?_
  refine r_iconst (v := 0) X dX9_init_5 (by decide +kernel) ?_
  refine a_put (a := 0) X hn fp_X9_9 dX9_init_6 rfl rfl rfl rfl ?_
  refine r_aload_n X dX9_init_9 rfl ?_
  refine r_iload_n X dX9_init_10 rfl ?_
  refine r_iconst (v := 0) X dX9_init_11 (by decide +kernel) ?_
  refine r_max (v := 16) X ks_X9_15.1.1 dX9_init_12 rfl (by decide +kernel) ?_
  refine r_eq (h' := h0 ++ [eO 9 [vN, vI 0]]) (ls' := [some (vR (n + 0)), some (vI 16)]) (st' := [vI 16, vR (n + 0)]) rfl rfl rfl ?_
  refine a_newi (N := 16) (k := 1) X hn dX9_init_15 (by decide +kernel) (by decide +kernel) rfl rfl rfl rfl ?_
  refine a_putF (a := 0) X hn ff_X9_21 hnm dX9_init_17 rfl rfl rfl rfl ?_
  exact r_ret_v X hr hlk dX9_init_20 (Nat.le_of_ble_eq_true rfl) (Nat.le_of_ble_eq_true rfl) ⟨rfl, rfl⟩
set_option maxRecDepth 100000 in
set_option maxHeartbeats 4000000 in
theorem c_X9_init_15 (l : Launch) (G : PG) (h0 : PH) (n : Nat) (hn : h0.length = n)  : PMet l G yX9_init cX9_init 2 none 1 1 15 [vR (n + 0), vI 15] (h0 ++ [eO 9 [vN, vI 0]]) (qV (fun h' => h' = h0 ++ [eO 9 [vR (n + 1), vI 0], eI 15 (fun _ => 0)])) := by
  refine PMet.intro (by decide) (Nat.le_of_ble_eq_true rfl) ?_
  intro p e s m args below meth c X hr hlk hnm
  refine r_aload_n X dX9_init_0 rfl ?_
  refine r_obji X lo_X9_3 w_oi w_oc dX9_init_1 (Nat.le_of_ble_eq_true rfl) (Nat.le_of_ble_eq_true rfl) ?_
  refine r_aload_n X dX9_init_4 rfl ?_
  refine r_iconst (v := 0) X dX9_init_5 (by decide +kernel) ?_
  refine a_put (a := 0) X hn fp_X9_9 dX9_init_6 rfl rfl rfl rfl ?_
  refine r_aload_n X dX9_init_9 rfl ?_
  refine r_iload_n X dX9_init_10 rfl ?_
  refine r_iconst (v := 0) X dX9_init_11 (by decide +kernel) ?_
  refine r_max (v := 15) X ks_X9_15.1.1 dX9_init_12 rfl (by decide +kernel) ?_
  refine r_eq (h' := h0 ++ [eO 9 [vN, vI 0]]) (ls' := [some (vR (n + 0)), some (vI 15)]) (st' := [vI 15, vR (n + 0)]) rfl rfl rfl ?_
  refine a_newi (N := 15) (k := 1) X hn dX9_init_15 (by decide +kernel) (by decide +kernel) rfl rfl rfl rfl ?_
  refine a_putF (a := 0) X hn ff_X9_21 hnm dX9_init_17 rfl rfl rfl rfl ?_
  exact r_ret_v X hr hlk dX9_init_20 (Nat.le_of_ble_eq_true rfl) (Nat.le_of_ble_eq_true rfl) ⟨rfl, rfl⟩
set_option maxRecDepth 100000 in
set_option maxHeartbeats 4000000 in
theorem c_X9_init_8 (l : Launch) (G : PG) (h0 : PH) (n : Nat) (hn : h0.length = n)  : PMet l G yX9_init cX9_init 2 none 1 1 8 [vR (n + 0), vI 8] (h0 ++ [eO 9 [vN, vI 0]]) (qV (fun h' => h' = h0 ++ [eO 9 [vR (n + 1), vI 0], eI 8 (fun _ => 0)])) := by
  refine PMet.intro (by decide) (Nat.le_of_ble_eq_true rfl) ?_
  intro p e s m args below meth c X hr hlk hnm
  refine r_aload_n X dX9_init_0 rfl ?_
  refine r_obji X lo_X9_3 w_oi w_oc dX9_init_1 (Nat.le_of_ble_eq_true rfl) (Nat.le_of_ble_eq_true rfl) ?_
  refine r_aload_n X dX9_init_4 rfl ?_
  refine r_iconst (v := 0) X dX9_init_5 (by decide +kernel) ?_
  refine a_put (a := 0) X hn fp_X9_9 dX9_init_6 rfl rfl rfl rfl ?_
  refine r_aload_n X dX9_init_9 rfl ?_
  refine r_iload_n X dX9_init_10 rfl ?_
  refine r_iconst (v := 0) X dX9_init_11 (by decide +kernel) ?_
  refine r_max (v := 8) X ks_X9_15.1.1 dX9_init_12 rfl (by decide +kernel) ?_
  refine r_eq (h' := h0 ++ [eO 9 [vN, vI 0]]) (ls' := [some (vR (n + 0)), some (vI 8)]) (st' := [vI 8, vR (n + 0)]) rfl rfl rfl ?_
  refine a_newi (N := 8) (k := 1) X hn dX9_init_15 (by decide +kernel) (by decide +kernel) rfl rfl rfl rfl ?_
  refine a_putF (a := 0) X hn ff_X9_21 hnm dX9_init_17 rfl rfl rfl rfl ?_
  exact r_ret_v X hr hlk dX9_init_20 (Nat.le_of_ble_eq_true rfl) (Nat.le_of_ble_eq_true rfl) ⟨rfl, rfl⟩
set_option maxRecDepth 100000 in
set_option maxHeartbeats 4000000 in
theorem c_X9_init_12 (l : Launch) (G : PG) (h0 : PH) (n : Nat) (hn : h0.length = n)  : PMet l G yX9_init cX9_init 2 none 1 1 12 [vR (n + 0), vI 12] (h0 ++ [eO 9 [vN, vI 0]]) (qV (fun h' => h' = h0 ++ [eO 9 [vR (n + 1), vI 0], eI 12 (fun _ => 0)])) := by
  refine PMet.intro (by decide) (Nat.le_of_ble_eq_true rfl) ?_
  intro p e s m args below meth c X hr hlk hnm
  refine r_aload_n X dX9_init_0 rfl ?_
  refine r_obji X lo_X9_3 w_oi w_oc dX9_init_1 (Nat.le_of_ble_eq_true rfl) (Nat.le_of_ble_eq_true rfl) ?_
  refine r_aload_n X dX9_init_4 rfl ?_
  refine r_iconst (v := 0) X dX9_init_5 (by decide +kernel) ?_
  refine a_put (a := 0) X hn fp_X9_9 dX9_init_6 rfl rfl rfl rfl ?_
  refine r_aload_n X dX9_init_9 rfl ?_
  refine r_iload_n X dX9_init_10 rfl ?_
  refine r_iconst (v := 0) X dX9_init_11 (by decide +kernel) ?_
  refine r_max (v := 12) X ks_X9_15.1.1 dX9_init_12 rfl (by decide +kernel) ?_
  refine r_eq (h' := h0 ++ [eO 9 [vN, vI 0]]) (ls' := [some (vR (n + 0)), some (vI 12)]) (st' := [vI 12, vR (n + 0)]) rfl rfl rfl ?_
  refine a_newi (N := 12) (k := 1) X hn dX9_init_15 (by decide +kernel) (by decide +kernel) rfl rfl rfl rfl ?_
  refine a_putF (a := 0) X hn ff_X9_21 hnm dX9_init_17 rfl rfl rfl rfl ?_
  exact r_ret_v X hr hlk dX9_init_20 (Nat.le_of_ble_eq_true rfl) (Nat.le_of_ble_eq_true rfl) ⟨rfl, rfl⟩
theorem ls_self {L : PH} {k : Nat} {x y : PE} (h : L[k]? = some x) : (L.set k y)[k]? = some y := by
  have := (List.getElem?_eq_some_iff.mp h).1
  simp [this]
set_option maxRecDepth 100000 in
set_option maxHeartbeats 4000000 in
theorem c_X8_initA (l : Launch) (G : PG) (h0 : PH) {L : PH} (n k : Nat) (hn : h0.length = n) (hk : L[k]? = some (eO 8 [vN, vI 0, vN])) (a b : Nat) (x : Int32) : PMet l G yX8_init cX8_init 4 none 1 0 0 [vR (n + k), vR a, vI x, vR b] (h0 ++ L) (qV (fun h' => h' = h0 ++ L.set k (eO 8 [vR a, vI x, vR b]))) := by
  refine PMet.intro (by decide) (Nat.le_of_ble_eq_true rfl) ?_
  intro p e s m args below meth c X hr hlk hnm
  refine r_aload_n X dX8_init_0 rfl ?_
  refine r_obji X lo_X8_3 w_oi w_oc dX8_init_1 (Nat.le_of_ble_eq_true rfl) (Nat.le_of_ble_eq_true rfl) ?_
  refine r_aload_n X dX8_init_4 rfl ?_
  refine r_aload_n X dX8_init_5 rfl ?_
  refine a_putF (a := k) X hn ff_X8_9 hnm dX8_init_6 hk rfl rfl rfl ?_
  refine r_aload_n X dX8_init_9 rfl ?_
  refine r_iload_n X dX8_init_10 rfl ?_
  refine a_putF (a := k) X hn ff_X8_15 hnm dX8_init_11 (ls_self hk) rfl rfl rfl ?_
  refine r_aload_n X dX8_init_14 rfl ?_
  refine r_aload_n X dX8_init_15 rfl ?_
  refine a_putF (a := k) X hn ff_X8_19 hnm dX8_init_16 (ls_self (ls_self hk)) rfl rfl rfl ?_
  refine r_ret_v X hr hlk dX8_init_19 (Nat.le_of_ble_eq_true rfl) (Nat.le_of_ble_eq_true rfl) ⟨rfl, ?_⟩
  rw [List.set_set, List.set_set]
  rfl
