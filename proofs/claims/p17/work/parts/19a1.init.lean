set_option maxRecDepth 100000 in
set_option maxHeartbeats 4000000 in
theorem c_X10_init (l : Launch) (G : PG) (h0 : PH) (n : Nat) (hn : h0.length = n)  : PMet l G yX10_init cX10_init 3 none 2 28 1163 [vR (n + 0)] (h0 ++ [eO 10 [vN, vN, vN, vN]]) (qV (fun h' => h' = h0 ++ [eO 10 [vR (n + 1), vR (n + 4), vR (n + 6), vR (n + 7)], eO 0 [vR (n + 2), vR (n + 3), vI 0, vI 0, vI 0, vI 0, vI 0, vI 0, vI 0, vI 0], eI 120 (fun _ => 0), eI 144 (fun _ => 0), eO 3 [vR (n + 5)], eI 750 (fun _ => 0), eR 2 4 (va_up (va_up (va_up (va_up (fun _ => none) (0 : Int32).toNatClampNeg (some (n + 8))) (1 : Int32).toNatClampNeg (some (n + 8))) (2 : Int32).toNatClampNeg (some (n + 8))) (3 : Int32).toNatClampNeg (some (n + 8))), eR 3 9 (va_up (va_up (va_up (va_up (va_up (va_up (va_up (va_up (va_up (fun _ => none) (0 : Int32).toNatClampNeg (some (n + 11))) (1 : Int32).toNatClampNeg (some (n + 13))) (2 : Int32).toNatClampNeg (some (n + 15))) (3 : Int32).toNatClampNeg (some (n + 17))) (4 : Int32).toNatClampNeg (some (n + 19))) (5 : Int32).toNatClampNeg (some (n + 21))) (6 : Int32).toNatClampNeg (some (n + 23))) (7 : Int32).toNatClampNeg (some (n + 25))) (8 : Int32).toNatClampNeg (some (n + 27))), eO 8 [vR (n + 9), vI 0, vR (n + 10)], eI 0 (fun _ => 0), eI 0 (fun _ => 0), eO 9 [vR (n + 12), vI 0], eI 6 (fun _ => 0), eO 9 [vR (n + 14), vI 0], eI 16 (fun _ => 0), eO 9 [vR (n + 16), vI 0], eI 15 (fun _ => 0), eO 9 [vR (n + 18), vI 0], eI 15 (fun _ => 0), eO 9 [vR (n + 20), vI 0], eI 8 (fun _ => 0), eO 9 [vR (n + 22), vI 0], eI 8 (fun _ => 0), eO 9 [vR (n + 24), vI 0], eI 12 (fun _ => 0), eO 9 [vR (n + 26), vI 0], eI 12 (fun _ => 0), eO 9 [vR (n + 28), vI 0], eI 12 (fun _ => 0)])) := by
  refine PMet.intro (by decide) (Nat.le_of_ble_eq_true rfl) ?_
  intro p e s m args below meth c X hr hlk hnm
  refine r_aload_n X dX10_init_0 rfl ?_
  refine r_obji X lo_X10_3 w_oi w_oc dX10_init_1 (Nat.le_of_ble_eq_true rfl) (Nat.le_of_ble_eq_true rfl) ?_
  refine r_aload_n X dX10_init_4 rfl ?_
  refine a_new (k := 1) X hn nk_X10_9 dX10_init_5 rfl rfl rfl ?_
  refine r_dup X dX10_init_8 ?_
  refine r_eq (List.append_assoc _ _ _).symm rfl rfl ?_
  refine r_IN0v X kn_X10_11 ⟨rfl, mi_X0_init⟩ dX10_init_9 (c_X0_init l G _ (n + 1) (apL hn rfl)) rfl (fun h' hΨ => ?_)
  obtain rfl := hΨ
  refine r_eq (List.append_assoc _ _ _) rfl rfl ?_
  refine r_eq (h' := h0 ++ [eO 10 [vN, vN, vN, vN], eO 0 [vR (n + 2), vR (n + 3), vI 0, vI 0, vI 0, vI 0, vI 0, vI 0, vI 0, vI 0], eI 120 (fun _ => 0), eI 144 (fun _ => 0)]) (ls' := [some (vR (n + 0)), none, none]) (st' := [vR (n + 1), vR (n + 0)]) rfl rfl rfl ?_
  refine a_putF (a := 0) X hn ff_X10_12 hnm dX10_init_12 rfl rfl rfl rfl ?_
  refine r_aload_n X dX10_init_15 rfl ?_
  refine a_new (k := 4) X hn nk_X10_18 dX10_init_16 rfl rfl rfl ?_
  refine r_dup X dX10_init_19 ?_
  refine r_eq (List.append_assoc _ _ _).symm rfl rfl ?_
  refine r_IN0v X kn_X10_20 ⟨rfl, mi_X3_init⟩ dX10_init_20 (c_X3_init l G _ (n + 4) (apL hn rfl)) rfl (fun h' hΨ => ?_)
  obtain rfl := hΨ
  refine r_eq (List.append_assoc _ _ _) rfl rfl ?_
  refine r_eq (h' := h0 ++ [eO 10 [vR (n + 1), vN, vN, vN], eO 0 [vR (n + 2), vR (n + 3), vI 0, vI 0, vI 0, vI 0, vI 0, vI 0, vI 0, vI 0], eI 120 (fun _ => 0), eI 144 (fun _ => 0), eO 3 [vR (n + 5)], eI 750 (fun _ => 0)]) (ls' := [some (vR (n + 0)), none, none]) (st' := [vR (n + 4), vR (n + 0)]) rfl rfl rfl ?_
  refine a_putF (a := 0) X hn ff_X10_21 hnm dX10_init_23 rfl rfl rfl rfl ?_
  refine r_aload_n X dX10_init_26 rfl ?_
  refine r_iconst (v := 4) X dX10_init_27 (by decide +kernel) ?_
  refine a_newr (t := 2) (N := 4) (k := 6) X hn rfl kl_X10_25 X.2.2.2.2.2.2.2.1.2.1 dX10_init_28 (by decide +kernel) (by decide +kernel) rfl rfl rfl rfl ?_
  refine a_putF (a := 0) X hn ff_X10_27 hnm dX10_init_31 rfl rfl rfl rfl ?_
  refine r_aload_n X dX10_init_34 rfl ?_
  refine r_bipush (v := 9) X dX10_init_35 (by decide +kernel) ?_
  refine a_newr (t := 3) (N := 9) (k := 7) X hn rfl kl_X10_31 X.2.2.2.2.2.2.2.1.2.2 dX10_init_37 (by decide +kernel) (by decide +kernel) rfl rfl rfl rfl ?_
  refine a_putF (a := 0) X hn ff_X10_33 hnm dX10_init_40 rfl rfl rfl rfl ?_
  refine a_new (k := 8) X hn nk_X10_25 dX10_init_43 rfl rfl rfl ?_
  refine r_dup X dX10_init_46 ?_
  refine r_iconst (v := 0) X dX10_init_47 (by decide +kernel) ?_
  refine a_newi (N := 0) (k := 9) X hn dX10_init_48 (by decide +kernel) (by decide +kernel) rfl rfl rfl rfl ?_
  refine r_iconst (v := 0) X dX10_init_50 (by decide +kernel) ?_
  refine r_iconst (v := 0) X dX10_init_51 (by decide +kernel) ?_
  refine a_newi (N := 0) (k := 10) X hn dX10_init_52 (by decide +kernel) (by decide +kernel) rfl rfl rfl rfl ?_
  refine r_I3v X ki_X10_37 dX10_init_54 (c_X8_initA l G _ n 8 hn rfl _ _ _) rfl (fun h' hΨ => ?_)
  obtain rfl := hΨ
  refine r_eq (h' := h0 ++ [eO 10 [vR (n + 1), vR (n + 4), vR (n + 6), vR (n + 7)], eO 0 [vR (n + 2), vR (n + 3), vI 0, vI 0, vI 0, vI 0, vI 0, vI 0, vI 0, vI 0], eI 120 (fun _ => 0), eI 144 (fun _ => 0), eO 3 [vR (n + 5)], eI 750 (fun _ => 0), eR 2 4 (fun _ => none), eR 3 9 (fun _ => none), eO 8 [vR (n + 9), vI 0, vR (n + 10)], eI 0 (fun _ => 0), eI 0 (fun _ => 0)]) (ls' := [some (vR (n + 0)), none, none]) (st' := [vR (n + 8)]) rfl rfl rfl ?_
  refine r_astore_n X dX10_init_57 (by decide) ?_
  refine r_iconst (v := 0) X dX10_init_58 (by decide +kernel) ?_
  refine r_istore_n X dX10_init_59 (by decide) ?_
  refine r_iload_n X dX10_init_60 rfl ?_
  refine r_iconst (v := 4) X dX10_init_61 (by decide +kernel) ?_
  refine r_icmp_ge_f (tgt := 78) X dX10_init_62 rfl (by decide +kernel) ?_
  refine r_aload_n X dX10_init_65 rfl ?_
  refine a_get (a := 0) X hn fg_X10_27 dX10_init_66 rfl rfl ?_
  refine r_iload_n X dX10_init_69 rfl ?_
  refine r_aload_n X dX10_init_70 rfl ?_
  refine a_aast (a := 6) (b := 8) (C := RX8) X hn rfl rfl dX10_init_71 rfl rfl (inK (by decide +kernel)) ?_
  refine r_iinc (v := 1) X dX10_init_72 rfl (by decide +kernel) (by decide) ?_
  refine r_goto (tgt := 60) X dX10_init_75 rfl ?_
  refine r_iload_n X dX10_init_60 rfl ?_
  refine r_iconst (v := 4) X dX10_init_61 (by decide +kernel) ?_
  refine r_icmp_ge_f (tgt := 78) X dX10_init_62 rfl (by decide +kernel) ?_
  refine r_aload_n X dX10_init_65 rfl ?_
  refine a_get (a := 0) X hn fg_X10_27 dX10_init_66 rfl rfl ?_
  refine r_iload_n X dX10_init_69 rfl ?_
  refine r_aload_n X dX10_init_70 rfl ?_
  refine a_aast (a := 6) (b := 8) (C := RX8) X hn rfl rfl dX10_init_71 rfl rfl (inK (by decide +kernel)) ?_
  refine r_iinc (v := 2) X dX10_init_72 rfl (by decide +kernel) (by decide) ?_
  refine r_goto (tgt := 60) X dX10_init_75 rfl ?_
  refine r_iload_n X dX10_init_60 rfl ?_
  refine r_iconst (v := 4) X dX10_init_61 (by decide +kernel) ?_
  refine r_icmp_ge_f (tgt := 78) X dX10_init_62 rfl (by decide +kernel) ?_
  refine r_aload_n X dX10_init_65 rfl ?_
  refine a_get (a := 0) X hn fg_X10_27 dX10_init_66 rfl rfl ?_
  refine r_iload_n X dX10_init_69 rfl ?_
  refine r_aload_n X dX10_init_70 rfl ?_
  refine a_aast (a := 6) (b := 8) (C := RX8) X hn rfl rfl dX10_init_71 rfl rfl (inK (by decide +kernel)) ?_
  refine r_iinc (v := 3) X dX10_init_72 rfl (by decide +kernel) (by decide) ?_
  refine r_goto (tgt := 60) X dX10_init_75 rfl ?_
  refine r_iload_n X dX10_init_60 rfl ?_
  refine r_iconst (v := 4) X dX10_init_61 (by decide +kernel) ?_
  refine r_icmp_ge_f (tgt := 78) X dX10_init_62 rfl (by decide +kernel) ?_
  refine r_aload_n X dX10_init_65 rfl ?_
  refine a_get (a := 0) X hn fg_X10_27 dX10_init_66 rfl rfl ?_
  refine r_iload_n X dX10_init_69 rfl ?_
  refine r_aload_n X dX10_init_70 rfl ?_
  refine a_aast (a := 6) (b := 8) (C := RX8) X hn rfl rfl dX10_init_71 rfl rfl (inK (by decide +kernel)) ?_
  refine r_iinc (v := 4) X dX10_init_72 rfl (by decide +kernel) (by decide) ?_
  refine r_goto (tgt := 60) X dX10_init_75 rfl ?_
  refine r_iload_n X dX10_init_60 rfl ?_
  refine r_iconst (v := 4) X dX10_init_61 (by decide +kernel) ?_
  refine r_icmp_ge_t (tgt := 78) X dX10_init_62 rfl (by decide +kernel) ?_
  refine r_iconst (v := 0) X dX10_init_78 (by decide +kernel) ?_
  refine r_istore_n X dX10_init_79 (by decide) ?_
  refine r_iload_n X dX10_init_80 rfl ?_
  refine r_bipush (v := 9) X dX10_init_81 (by decide +kernel) ?_
  refine r_icmp_ge_f (tgt := 110) X dX10_init_83 rfl (by decide +kernel) ?_
  refine r_aload_n X dX10_init_86 rfl ?_
  refine a_get (a := 0) X hn fg_X10_33 dX10_init_87 rfl rfl ?_
  refine r_iload_n X dX10_init_90 rfl ?_
  refine a_new (k := 11) X hn nk_X10_31 dX10_init_91 rfl rfl rfl ?_
  refine r_dup X dX10_init_94 ?_
  refine r_room (host := "ThumbBallot") X (by decide +kernel) dX10_init_95 ?_
  refine r_iload_n X dX10_init_98 rfl ?_
  refine r_saldE (v := 6) X (by decide) dX10_init_99 (inK (by decide +kernel)) (by decide +kernel) ?_
  refine r_eq (List.append_assoc _ _ _).symm rfl rfl ?_
  refine r_I1v X ki_X10_44 dX10_init_100 (c_X9_init_6 l G _ (n + 11) (apL hn rfl)) rfl (fun h' hΨ => ?_)
  obtain rfl := hΨ
  refine r_eq (List.append_assoc _ _ _) rfl rfl ?_
  refine r_eq (h' := h0 ++ [eO 10 [vR (n + 1), vR (n + 4), vR (n + 6), vR (n + 7)], eO 0 [vR (n + 2), vR (n + 3), vI 0, vI 0, vI 0, vI 0, vI 0, vI 0, vI 0, vI 0], eI 120 (fun _ => 0), eI 144 (fun _ => 0), eO 3 [vR (n + 5)], eI 750 (fun _ => 0), eR 2 4 (va_up (va_up (va_up (va_up (fun _ => none) (0 : Int32).toNatClampNeg (some (n + 8))) (1 : Int32).toNatClampNeg (some (n + 8))) (2 : Int32).toNatClampNeg (some (n + 8))) (3 : Int32).toNatClampNeg (some (n + 8))), eR 3 9 (fun _ => none), eO 8 [vR (n + 9), vI 0, vR (n + 10)], eI 0 (fun _ => 0), eI 0 (fun _ => 0), eO 9 [vR (n + 12), vI 0], eI 6 (fun _ => 0)]) (ls' := [some (vR (n + 0)), some (vR (n + 8)), some (vI 0)]) (st' := [vR (n + 11), vI 0, vR (n + 7)]) rfl rfl rfl ?_
  refine a_aast (a := 7) (b := 11) (C := RX9) X hn rfl rfl dX10_init_103 rfl rfl (inK (by decide +kernel)) ?_
  refine r_iinc (v := 1) X dX10_init_104 rfl (by decide +kernel) (by decide) ?_
  refine r_goto (tgt := 80) X dX10_init_107 rfl ?_
  refine r_iload_n X dX10_init_80 rfl ?_
  refine r_bipush (v := 9) X dX10_init_81 (by decide +kernel) ?_
  refine r_icmp_ge_f (tgt := 110) X dX10_init_83 rfl (by decide +kernel) ?_
  refine r_aload_n X dX10_init_86 rfl ?_
  refine a_get (a := 0) X hn fg_X10_33 dX10_init_87 rfl rfl ?_
  refine r_iload_n X dX10_init_90 rfl ?_
  refine a_new (k := 13) X hn nk_X10_31 dX10_init_91 rfl rfl rfl ?_
  refine r_dup X dX10_init_94 ?_
  refine r_room (host := "ThumbBallot") X (by decide +kernel) dX10_init_95 ?_
  refine r_iload_n X dX10_init_98 rfl ?_
  refine r_saldE (v := 16) X (by decide) dX10_init_99 (inK (by decide +kernel)) (by decide +kernel) ?_
  refine r_eq (List.append_assoc _ _ _).symm rfl rfl ?_
  refine r_I1v X ki_X10_44 dX10_init_100 (c_X9_init_16 l G _ (n + 13) (apL hn rfl)) rfl (fun h' hΨ => ?_)
  obtain rfl := hΨ
  refine r_eq (List.append_assoc _ _ _) rfl rfl ?_
  refine r_eq (h' := h0 ++ [eO 10 [vR (n + 1), vR (n + 4), vR (n + 6), vR (n + 7)], eO 0 [vR (n + 2), vR (n + 3), vI 0, vI 0, vI 0, vI 0, vI 0, vI 0, vI 0, vI 0], eI 120 (fun _ => 0), eI 144 (fun _ => 0), eO 3 [vR (n + 5)], eI 750 (fun _ => 0), eR 2 4 (va_up (va_up (va_up (va_up (fun _ => none) (0 : Int32).toNatClampNeg (some (n + 8))) (1 : Int32).toNatClampNeg (some (n + 8))) (2 : Int32).toNatClampNeg (some (n + 8))) (3 : Int32).toNatClampNeg (some (n + 8))), eR 3 9 (va_up (fun _ => none) (0 : Int32).toNatClampNeg (some (n + 11))), eO 8 [vR (n + 9), vI 0, vR (n + 10)], eI 0 (fun _ => 0), eI 0 (fun _ => 0), eO 9 [vR (n + 12), vI 0], eI 6 (fun _ => 0), eO 9 [vR (n + 14), vI 0], eI 16 (fun _ => 0)]) (ls' := [some (vR (n + 0)), some (vR (n + 8)), some (vI 1)]) (st' := [vR (n + 13), vI 1, vR (n + 7)]) rfl rfl rfl ?_
  refine a_aast (a := 7) (b := 13) (C := RX9) X hn rfl rfl dX10_init_103 rfl rfl (inK (by decide +kernel)) ?_
  refine r_iinc (v := 2) X dX10_init_104 rfl (by decide +kernel) (by decide) ?_
  refine r_goto (tgt := 80) X dX10_init_107 rfl ?_
  refine r_iload_n X dX10_init_80 rfl ?_
  refine r_bipush (v := 9) X dX10_init_81 (by decide +kernel) ?_
  refine r_icmp_ge_f (tgt := 110) X dX10_init_83 rfl (by decide +kernel) ?_
  refine r_aload_n X dX10_init_86 rfl ?_
  refine a_get (a := 0) X hn fg_X10_33 dX10_init_87 rfl rfl ?_
  refine r_iload_n X dX10_init_90 rfl ?_
  refine a_new (k := 15) X hn nk_X10_31 dX10_init_91 rfl rfl rfl ?_
  refine r_dup X dX10_init_94 ?_
  refine r_room (host := "ThumbBallot") X (by decide +kernel) dX10_init_95 ?_
  refine r_iload_n X dX10_init_98 rfl ?_
  refine r_saldE (v := 15) X (by decide) dX10_init_99 (inK (by decide +kernel)) (by decide +kernel) ?_
  refine r_eq (List.append_assoc _ _ _).symm rfl rfl ?_
  refine r_I1v X ki_X10_44 dX10_init_100 (c_X9_init_15 l G _ (n + 15) (apL hn rfl)) rfl (fun h' hΨ => ?_)
  obtain rfl := hΨ
  refine r_eq (List.append_assoc _ _ _) rfl rfl ?_
  refine r_eq (h' := h0 ++ [eO 10 [vR (n + 1), vR (n + 4), vR (n + 6), vR (n + 7)], eO 0 [vR (n + 2), vR (n + 3), vI 0, vI 0, vI 0, vI 0, vI 0, vI 0, vI 0, vI 0], eI 120 (fun _ => 0), eI 144 (fun _ => 0), eO 3 [vR (n + 5)], eI 750 (fun _ => 0), eR 2 4 (va_up (va_up (va_up (va_up (fun _ => none) (0 : Int32).toNatClampNeg (some (n + 8))) (1 : Int32).toNatClampNeg (some (n + 8))) (2 : Int32).toNatClampNeg (some (n + 8))) (3 : Int32).toNatClampNeg (some (n + 8))), eR 3 9 (va_up (va_up (fun _ => none) (0 : Int32).toNatClampNeg (some (n + 11))) (1 : Int32).toNatClampNeg (some (n + 13))), eO 8 [vR (n + 9), vI 0, vR (n + 10)], eI 0 (fun _ => 0), eI 0 (fun _ => 0), eO 9 [vR (n + 12), vI 0], eI 6 (fun _ => 0), eO 9 [vR (n + 14), vI 0], eI 16 (fun _ => 0), eO 9 [vR (n + 16), vI 0], eI 15 (fun _ => 0)]) (ls' := [some (vR (n + 0)), some (vR (n + 8)), some (vI 2)]) (st' := [vR (n + 15), vI 2, vR (n + 7)]) rfl rfl rfl ?_
  refine a_aast (a := 7) (b := 15) (C := RX9) X hn rfl rfl dX10_init_103 rfl rfl (inK (by decide +kernel)) ?_
  refine r_iinc (v := 3) X dX10_init_104 rfl (by decide +kernel) (by decide) ?_
  refine r_goto (tgt := 80) X dX10_init_107 rfl ?_
  refine r_iload_n X dX10_init_80 rfl ?_
  refine r_bipush (v := 9) X dX10_init_81 (by decide +kernel) ?_
  refine r_icmp_ge_f (tgt := 110) X dX10_init_83 rfl (by decide +kernel) ?_
  refine r_aload_n X dX10_init_86 rfl ?_
  refine a_get (a := 0) X hn fg_X10_33 dX10_init_87 rfl rfl ?_
  refine r_iload_n X dX10_init_90 rfl ?_
  refine a_new (k := 17) X hn nk_X10_31 dX10_init_91 rfl rfl rfl ?_
  refine r_dup X dX10_init_94 ?_
  refine r_room (host := "ThumbBallot") X (by decide +kernel) dX10_init_95 ?_
  refine r_iload_n X dX10_init_98 rfl ?_
  refine r_saldE (v := 15) X (by decide) dX10_init_99 (inK (by decide +kernel)) (by decide +kernel) ?_
  refine r_eq (List.append_assoc _ _ _).symm rfl rfl ?_
  refine r_I1v X ki_X10_44 dX10_init_100 (c_X9_init_15 l G _ (n + 17) (apL hn rfl)) rfl (fun h' hΨ => ?_)
  obtain rfl := hΨ
  refine r_eq (List.append_assoc _ _ _) rfl rfl ?_
  refine r_eq (h' := h0 ++ [eO 10 [vR (n + 1), vR (n + 4), vR (n + 6), vR (n + 7)], eO 0 [vR (n + 2), vR (n + 3), vI 0, vI 0, vI 0, vI 0, vI 0, vI 0, vI 0, vI 0], eI 120 (fun _ => 0), eI 144 (fun _ => 0), eO 3 [vR (n + 5)], eI 750 (fun _ => 0), eR 2 4 (va_up (va_up (va_up (va_up (fun _ => none) (0 : Int32).toNatClampNeg (some (n + 8))) (1 : Int32).toNatClampNeg (some (n + 8))) (2 : Int32).toNatClampNeg (some (n + 8))) (3 : Int32).toNatClampNeg (some (n + 8))), eR 3 9 (va_up (va_up (va_up (fun _ => none) (0 : Int32).toNatClampNeg (some (n + 11))) (1 : Int32).toNatClampNeg (some (n + 13))) (2 : Int32).toNatClampNeg (some (n + 15))), eO 8 [vR (n + 9), vI 0, vR (n + 10)], eI 0 (fun _ => 0), eI 0 (fun _ => 0), eO 9 [vR (n + 12), vI 0], eI 6 (fun _ => 0), eO 9 [vR (n + 14), vI 0], eI 16 (fun _ => 0), eO 9 [vR (n + 16), vI 0], eI 15 (fun _ => 0), eO 9 [vR (n + 18), vI 0], eI 15 (fun _ => 0)]) (ls' := [some (vR (n + 0)), some (vR (n + 8)), some (vI 3)]) (st' := [vR (n + 17), vI 3, vR (n + 7)]) rfl rfl rfl ?_
  refine a_aast (a := 7) (b := 17) (C := RX9) X hn rfl rfl dX10_init_103 rfl rfl (inK (by decide +kernel)) ?_
  refine r_iinc (v := 4) X dX10_init_104 rfl (by decide +kernel) (by decide) ?_
  refine r_goto (tgt := 80) X dX10_init_107 rfl ?_
  refine r_iload_n X dX10_init_80 rfl ?_
  refine r_bipush (v := 9) X dX10_init_81 (by decide +kernel) ?_
  refine r_icmp_ge_f (tgt := 110) X dX10_init_83 rfl (by decide +kernel) ?_
  refine r_aload_n X dX10_init_86 rfl ?_
  refine a_get (a := 0) X hn fg_X10_33 dX10_init_87 rfl rfl ?_
  refine r_iload_n X dX10_init_90 rfl ?_
  refine a_new (k := 19) X hn nk_X10_31 dX10_init_91 rfl rfl rfl ?_
  refine r_dup X dX10_init_94 ?_
  refine r_room (host := "ThumbBallot") X (by decide +kernel) dX10_init_95 ?_
  refine r_iload_n X dX10_init_98 rfl ?_
  refine r_saldE (v := 8) X (by decide) dX10_init_99 (inK (by decide +kernel)) (by decide +kernel) ?_
  refine r_eq (List.append_assoc _ _ _).symm rfl rfl ?_
  refine r_I1v X ki_X10_44 dX10_init_100 (c_X9_init_8 l G _ (n + 19) (apL hn rfl)) rfl (fun h' hΨ => ?_)
  obtain rfl := hΨ
  refine r_eq (List.append_assoc _ _ _) rfl rfl ?_
  refine r_eq (h' := h0 ++ [eO 10 [vR (n + 1), vR (n + 4), vR (n + 6), vR (n + 7)], eO 0 [vR (n + 2), vR (n + 3), vI 0, vI 0, vI 0, vI 0, vI 0, vI 0, vI 0, vI 0], eI 120 (fun _ => 0), eI 144 (fun _ => 0), eO 3 [vR (n + 5)], eI 750 (fun _ => 0), eR 2 4 (va_up (va_up (va_up (va_up (fun _ => none) (0 : Int32).toNatClampNeg (some (n + 8))) (1 : Int32).toNatClampNeg (some (n + 8))) (2 : Int32).toNatClampNeg (some (n + 8))) (3 : Int32).toNatClampNeg (some (n + 8))), eR 3 9 (va_up (va_up (va_up (va_up (fun _ => none) (0 : Int32).toNatClampNeg (some (n + 11))) (1 : Int32).toNatClampNeg (some (n + 13))) (2 : Int32).toNatClampNeg (some (n + 15))) (3 : Int32).toNatClampNeg (some (n + 17))), eO 8 [vR (n + 9), vI 0, vR (n + 10)], eI 0 (fun _ => 0), eI 0 (fun _ => 0), eO 9 [vR (n + 12), vI 0], eI 6 (fun _ => 0), eO 9 [vR (n + 14), vI 0], eI 16 (fun _ => 0), eO 9 [vR (n + 16), vI 0], eI 15 (fun _ => 0), eO 9 [vR (n + 18), vI 0], eI 15 (fun _ => 0), eO 9 [vR (n + 20), vI 0], eI 8 (fun _ => 0)]) (ls' := [some (vR (n + 0)), some (vR (n + 8)), some (vI 4)]) (st' := [vR (n + 19), vI 4, vR (n + 7)]) rfl rfl rfl ?_
  refine a_aast (a := 7) (b := 19) (C := RX9) X hn rfl rfl dX10_init_103 rfl rfl (inK (by decide +kernel)) ?_
  refine r_iinc (v := 5) X dX10_init_104 rfl (by decide +kernel) (by decide) ?_
  refine r_goto (tgt := 80) X dX10_init_107 rfl ?_
  refine r_iload_n X dX10_init_80 rfl ?_
  refine r_bipush (v := 9) X dX10_init_81 (by decide +kernel) ?_
  refine r_icmp_ge_f (tgt := 110) X dX10_init_83 rfl (by decide +kernel) ?_
  refine r_aload_n X dX10_init_86 rfl ?_
  refine a_get (a := 0) X hn fg_X10_33 dX10_init_87 rfl rfl ?_
  refine r_iload_n X dX10_init_90 rfl ?_
  refine a_new (k := 21) X hn nk_X10_31 dX10_init_91 rfl rfl rfl ?_
  refine r_dup X dX10_init_94 ?_
  refine r_room (host := "ThumbBallot") X (by decide +kernel) dX10_init_95 ?_
  refine r_iload_n X dX10_init_98 rfl ?_
  refine r_saldE (v := 8) X (by decide) dX10_init_99 (inK (by decide +kernel)) (by decide +kernel) ?_
  refine r_eq (List.append_assoc _ _ _).symm rfl rfl ?_
  refine r_I1v X ki_X10_44 dX10_init_100 (c_X9_init_8 l G _ (n + 21) (apL hn rfl)) rfl (fun h' hΨ => ?_)
  obtain rfl := hΨ
  refine r_eq (List.append_assoc _ _ _) rfl rfl ?_
  refine r_eq (h' := h0 ++ [eO 10 [vR (n + 1), vR (n + 4), vR (n + 6), vR (n + 7)], eO 0 [vR (n + 2), vR (n + 3), vI 0, vI 0, vI 0, vI 0, vI 0, vI 0, vI 0, vI 0], eI 120 (fun _ => 0), eI 144 (fun _ => 0), eO 3 [vR (n + 5)], eI 750 (fun _ => 0), eR 2 4 (va_up (va_up (va_up (va_up (fun _ => none) (0 : Int32).toNatClampNeg (some (n + 8))) (1 : Int32).toNatClampNeg (some (n + 8))) (2 : Int32).toNatClampNeg (some (n + 8))) (3 : Int32).toNatClampNeg (some (n + 8))), eR 3 9 (va_up (va_up (va_up (va_up (va_up (fun _ => none) (0 : Int32).toNatClampNeg (some (n + 11))) (1 : Int32).toNatClampNeg (some (n + 13))) (2 : Int32).toNatClampNeg (some (n + 15))) (3 : Int32).toNatClampNeg (some (n + 17))) (4 : Int32).toNatClampNeg (some (n + 19))), eO 8 [vR (n + 9), vI 0, vR (n + 10)], eI 0 (fun _ => 0), eI 0 (fun _ => 0), eO 9 [vR (n + 12), vI 0], eI 6 (fun _ => 0), eO 9 [vR (n + 14), vI 0], eI 16 (fun _ => 0), eO 9 [vR (n + 16), vI 0], eI 15 (fun _ => 0), eO 9 [vR (n + 18), vI 0], eI 15 (fun _ => 0), eO 9 [vR (n + 20), vI 0], eI 8 (fun _ => 0), eO 9 [vR (n + 22), vI 0], eI 8 (fun _ => 0)]) (ls' := [some (vR (n + 0)), some (vR (n + 8)), some (vI 5)]) (st' := [vR (n + 21), vI 5, vR (n + 7)]) rfl rfl rfl ?_
  refine a_aast (a := 7) (b := 21) (C := RX9) X hn rfl rfl dX10_init_103 rfl rfl (inK (by decide +kernel)) ?_
  refine r_iinc (v := 6) X dX10_init_104 rfl (by decide +kernel) (by decide) ?_
  refine r_goto (tgt := 80) X dX10_init_107 rfl ?_
  refine r_iload_n X dX10_init_80 rfl ?_
  refine r_bipush (v := 9) X dX10_init_81 (by decide +kernel) ?_
  refine r_icmp_ge_f (tgt := 110) X dX10_init_83 rfl (by decide +kernel) ?_
  refine r_aload_n X dX10_init_86 rfl ?_
  refine a_get (a := 0) X hn fg_X10_33 dX10_init_87 rfl rfl ?_
  refine r_iload_n X dX10_init_90 rfl ?_
  refine a_new (k := 23) X hn nk_X10_31 dX10_init_91 rfl rfl rfl ?_
  refine r_dup X dX10_init_94 ?_
  refine r_room (host := "ThumbBallot") X (by decide +kernel) dX10_init_95 ?_
  refine r_iload_n X dX10_init_98 rfl ?_
  refine r_saldE (v := 12) X (by decide) dX10_init_99 (inK (by decide +kernel)) (by decide +kernel) ?_
  refine r_eq (List.append_assoc _ _ _).symm rfl rfl ?_
  refine r_I1v X ki_X10_44 dX10_init_100 (c_X9_init_12 l G _ (n + 23) (apL hn rfl)) rfl (fun h' hΨ => ?_)
  obtain rfl := hΨ
  refine r_eq (List.append_assoc _ _ _) rfl rfl ?_
  refine r_eq (h' := h0 ++ [eO 10 [vR (n + 1), vR (n + 4), vR (n + 6), vR (n + 7)], eO 0 [vR (n + 2), vR (n + 3), vI 0, vI 0, vI 0, vI 0, vI 0, vI 0, vI 0, vI 0], eI 120 (fun _ => 0), eI 144 (fun _ => 0), eO 3 [vR (n + 5)], eI 750 (fun _ => 0), eR 2 4 (va_up (va_up (va_up (va_up (fun _ => none) (0 : Int32).toNatClampNeg (some (n + 8))) (1 : Int32).toNatClampNeg (some (n + 8))) (2 : Int32).toNatClampNeg (some (n + 8))) (3 : Int32).toNatClampNeg (some (n + 8))), eR 3 9 (va_up (va_up (va_up (va_up (va_up (va_up (fun _ => none) (0 : Int32).toNatClampNeg (some (n + 11))) (1 : Int32).toNatClampNeg (some (n + 13))) (2 : Int32).toNatClampNeg (some (n + 15))) (3 : Int32).toNatClampNeg (some (n + 17))) (4 : Int32).toNatClampNeg (some (n + 19))) (5 : Int32).toNatClampNeg (some (n + 21))), eO 8 [vR (n + 9), vI 0, vR (n + 10)], eI 0 (fun _ => 0), eI 0 (fun _ => 0), eO 9 [vR (n + 12), vI 0], eI 6 (fun _ => 0), eO 9 [vR (n + 14), vI 0], eI 16 (fun _ => 0), eO 9 [vR (n + 16), vI 0], eI 15 (fun _ => 0), eO 9 [vR (n + 18), vI 0], eI 15 (fun _ => 0), eO 9 [vR (n + 20), vI 0], eI 8 (fun _ => 0), eO 9 [vR (n + 22), vI 0], eI 8 (fun _ => 0), eO 9 [vR (n + 24), vI 0], eI 12 (fun _ => 0)]) (ls' := [some (vR (n + 0)), some (vR (n + 8)), some (vI 6)]) (st' := [vR (n + 23), vI 6, vR (n + 7)]) rfl rfl rfl ?_
  refine a_aast (a := 7) (b := 23) (C := RX9) X hn rfl rfl dX10_init_103 rfl rfl (inK (by decide +kernel)) ?_
  refine r_iinc (v := 7) X dX10_init_104 rfl (by decide +kernel) (by decide) ?_
  refine r_goto (tgt := 80) X dX10_init_107 rfl ?_
  refine r_iload_n X dX10_init_80 rfl ?_
  refine r_bipush (v := 9) X dX10_init_81 (by decide +kernel) ?_
  refine r_icmp_ge_f (tgt := 110) X dX10_init_83 rfl (by decide +kernel) ?_
  refine r_aload_n X dX10_init_86 rfl ?_
  refine a_get (a := 0) X hn fg_X10_33 dX10_init_87 rfl rfl ?_
  refine r_iload_n X dX10_init_90 rfl ?_
  refine a_new (k := 25) X hn nk_X10_31 dX10_init_91 rfl rfl rfl ?_
  refine r_dup X dX10_init_94 ?_
  refine r_room (host := "ThumbBallot") X (by decide +kernel) dX10_init_95 ?_
  refine r_iload_n X dX10_init_98 rfl ?_
  refine r_saldE (v := 12) X (by decide) dX10_init_99 (inK (by decide +kernel)) (by decide +kernel) ?_
  refine r_eq (List.append_assoc _ _ _).symm rfl rfl ?_
  refine r_I1v X ki_X10_44 dX10_init_100 (c_X9_init_12 l G _ (n + 25) (apL hn rfl)) rfl (fun h' hΨ => ?_)
  obtain rfl := hΨ
  refine r_eq (List.append_assoc _ _ _) rfl rfl ?_
  refine r_eq (h' := h0 ++ [eO 10 [vR (n + 1), vR (n + 4), vR (n + 6), vR (n + 7)], eO 0 [vR (n + 2), vR (n + 3), vI 0, vI 0, vI 0, vI 0, vI 0, vI 0, vI 0, vI 0], eI 120 (fun _ => 0), eI 144 (fun _ => 0), eO 3 [vR (n + 5)], eI 750 (fun _ => 0), eR 2 4 (va_up (va_up (va_up (va_up (fun _ => none) (0 : Int32).toNatClampNeg (some (n + 8))) (1 : Int32).toNatClampNeg (some (n + 8))) (2 : Int32).toNatClampNeg (some (n + 8))) (3 : Int32).toNatClampNeg (some (n + 8))), eR 3 9 (va_up (va_up (va_up (va_up (va_up (va_up (va_up (fun _ => none) (0 : Int32).toNatClampNeg (some (n + 11))) (1 : Int32).toNatClampNeg (some (n + 13))) (2 : Int32).toNatClampNeg (some (n + 15))) (3 : Int32).toNatClampNeg (some (n + 17))) (4 : Int32).toNatClampNeg (some (n + 19))) (5 : Int32).toNatClampNeg (some (n + 21))) (6 : Int32).toNatClampNeg (some (n + 23))), eO 8 [vR (n + 9), vI 0, vR (n + 10)], eI 0 (fun _ => 0), eI 0 (fun _ => 0), eO 9 [vR (n + 12), vI 0], eI 6 (fun _ => 0), eO 9 [vR (n + 14), vI 0], eI 16 (fun _ => 0), eO 9 [vR (n + 16), vI 0], eI 15 (fun _ => 0), eO 9 [vR (n + 18), vI 0], eI 15 (fun _ => 0), eO 9 [vR (n + 20), vI 0], eI 8 (fun _ => 0), eO 9 [vR (n + 22), vI 0], eI 8 (fun _ => 0), eO 9 [vR (n + 24), vI 0], eI 12 (fun _ => 0), eO 9 [vR (n + 26), vI 0], eI 12 (fun _ => 0)]) (ls' := [some (vR (n + 0)), some (vR (n + 8)), some (vI 7)]) (st' := [vR (n + 25), vI 7, vR (n + 7)]) rfl rfl rfl ?_
  refine a_aast (a := 7) (b := 25) (C := RX9) X hn rfl rfl dX10_init_103 rfl rfl (inK (by decide +kernel)) ?_
  refine r_iinc (v := 8) X dX10_init_104 rfl (by decide +kernel) (by decide) ?_
  refine r_goto (tgt := 80) X dX10_init_107 rfl ?_
  refine r_iload_n X dX10_init_80 rfl ?_
  refine r_bipush (v := 9) X dX10_init_81 (by decide +kernel) ?_
  refine r_icmp_ge_f (tgt := 110) X dX10_init_83 rfl (by decide +kernel) ?_
  refine r_aload_n X dX10_init_86 rfl ?_
  refine a_get (a := 0) X hn fg_X10_33 dX10_init_87 rfl rfl ?_
  refine r_iload_n X dX10_init_90 rfl ?_
  refine a_new (k := 27) X hn nk_X10_31 dX10_init_91 rfl rfl rfl ?_
  refine r_dup X dX10_init_94 ?_
  refine r_room (host := "ThumbBallot") X (by decide +kernel) dX10_init_95 ?_
  refine r_iload_n X dX10_init_98 rfl ?_
  refine r_saldE (v := 12) X (by decide) dX10_init_99 (inK (by decide +kernel)) (by decide +kernel) ?_
  refine r_eq (List.append_assoc _ _ _).symm rfl rfl ?_
  refine r_I1v X ki_X10_44 dX10_init_100 (c_X9_init_12 l G _ (n + 27) (apL hn rfl)) rfl (fun h' hΨ => ?_)
  obtain rfl := hΨ
  refine r_eq (List.append_assoc _ _ _) rfl rfl ?_
  refine r_eq (h' := h0 ++ [eO 10 [vR (n + 1), vR (n + 4), vR (n + 6), vR (n + 7)], eO 0 [vR (n + 2), vR (n + 3), vI 0, vI 0, vI 0, vI 0, vI 0, vI 0, vI 0, vI 0], eI 120 (fun _ => 0), eI 144 (fun _ => 0), eO 3 [vR (n + 5)], eI 750 (fun _ => 0), eR 2 4 (va_up (va_up (va_up (va_up (fun _ => none) (0 : Int32).toNatClampNeg (some (n + 8))) (1 : Int32).toNatClampNeg (some (n + 8))) (2 : Int32).toNatClampNeg (some (n + 8))) (3 : Int32).toNatClampNeg (some (n + 8))), eR 3 9 (va_up (va_up (va_up (va_up (va_up (va_up (va_up (va_up (fun _ => none) (0 : Int32).toNatClampNeg (some (n + 11))) (1 : Int32).toNatClampNeg (some (n + 13))) (2 : Int32).toNatClampNeg (some (n + 15))) (3 : Int32).toNatClampNeg (some (n + 17))) (4 : Int32).toNatClampNeg (some (n + 19))) (5 : Int32).toNatClampNeg (some (n + 21))) (6 : Int32).toNatClampNeg (some (n + 23))) (7 : Int32).toNatClampNeg (some (n + 25))), eO 8 [vR (n + 9), vI 0, vR (n + 10)], eI 0 (fun _ => 0), eI 0 (fun _ => 0), eO 9 [vR (n + 12), vI 0], eI 6 (fun _ => 0), eO 9 [vR (n + 14), vI 0], eI 16 (fun _ => 0), eO 9 [vR (n + 16), vI 0], eI 15 (fun _ => 0), eO 9 [vR (n + 18), vI 0], eI 15 (fun _ => 0), eO 9 [vR (n + 20), vI 0], eI 8 (fun _ => 0), eO 9 [vR (n + 22), vI 0], eI 8 (fun _ => 0), eO 9 [vR (n + 24), vI 0], eI 12 (fun _ => 0), eO 9 [vR (n + 26), vI 0], eI 12 (fun _ => 0), eO 9 [vR (n + 28), vI 0], eI 12 (fun _ => 0)]) (ls' := [some (vR (n + 0)), some (vR (n + 8)), some (vI 8)]) (st' := [vR (n + 27), vI 8, vR (n + 7)]) rfl rfl rfl ?_
  refine a_aast (a := 7) (b := 27) (C := RX9) X hn rfl rfl dX10_init_103 rfl rfl (inK (by decide +kernel)) ?_
  refine r_iinc (v := 9) X dX10_init_104 rfl (by decide +kernel) (by decide) ?_
  refine r_goto (tgt := 80) X dX10_init_107 rfl ?_
  refine r_iload_n X dX10_init_80 rfl ?_
  refine r_bipush (v := 9) X dX10_init_81 (by decide +kernel) ?_
  refine r_icmp_ge_t (tgt := 110) X dX10_init_83 rfl (by decide +kernel) ?_
  exact r_ret_v X hr hlk dX10_init_110 (Nat.le_of_ble_eq_true rfl) (Nat.le_of_ble_eq_true rfl) ⟨rfl, rfl⟩
