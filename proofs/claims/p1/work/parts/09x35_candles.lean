set_option maxRecDepth 100000 in
set_option maxHeartbeats 4000000 in
theorem kx292_J7_fill_53178 (l : Launch) (G : PG) (h0 : PH) (n : Nat) (hn : h0.length = n) (T : PH) : PMet l G yJ7_fill_53178 cJ7_fill_53178 4 none 0 0 0 [vR (n + 90), vI 0] (h0 ++ (frC n ++ T)) (qV (fun h' => h' = h0 ++ (frC n ++ T))) := by
  refine PMet.intro (by decide) (Nat.le_of_ble_eq_true rfl) ?_
  intro p e s m args below meth c X hr hlk hnm
  refine r_iconst (v := 0) X dJ7_fill_53178_0 (by decide +kernel) ?_
  refine r_istore_n X dJ7_fill_53178_1 (by decide) ?_
  refine r_aload_n X dJ7_fill_53178_2 rfl ?_
  refine a_alen (a := 90) (v := 401) X hn dJ7_fill_53178_3 rfl (by decide +kernel) ?_
  refine r_istore_n X dJ7_fill_53178_4 (by decide) ?_
  refine r_eq (h' := h0 ++ (frC n ++ T)) (ls' := [some (vR (n + 90)), some (vI 0), some (vI (nI 0)), some (vI 401)]) rfl rfl rfl ?_
  refine pw_loop1 401 (fun i0 => h0 ++ (frC n ++ T)) (fun i0 => [some (vR (n + 90)), some (vI 0), some (vI (nI i0)), some (vI 401)]) ?_ ?_ 0 (by omega)
  · refine r_eq (h' := h0 ++ (frC n ++ T)) (ls' := [some (vR (n + 90)), some (vI 0), some (vI (nI 401)), some (vI 401)]) rfl rfl rfl ?_
    refine r_iload_n X dJ7_fill_53178_5 rfl ?_
    refine r_iload_n X dJ7_fill_53178_6 rfl ?_
    refine r_icmp_ge_t (tgt := 20) X dJ7_fill_53178_7 rfl (by decide +kernel) ?_
    exact r_ret_v X hr hlk dJ7_fill_53178_20 (Nat.le_of_ble_eq_true rfl) (Nat.le_of_ble_eq_true rfl) ⟨rfl, rfl⟩
  · rintro i0 hi0 ih0 
    refine r_eq (h' := h0 ++ (frC n ++ T)) (ls' := [some (vR (n + 90)), some (vI 0), some (vI (nI i0)), some (vI 401)]) rfl rfl rfl ?_
    refine r_iload_n X dJ7_fill_53178_5 rfl ?_
    refine r_iload_n X dJ7_fill_53178_6 rfl ?_
    refine r_icmp_ge_f (tgt := 20) X dJ7_fill_53178_7 rfl (by have e0 : (401 : Int32).toInt = 401 := (by decide); have e1 : (nI i0).toInt = ((i0 : Nat) : Int) := toN (rfl) (by omega); simp only [Int32.lt_iff_toInt_lt, Int32.le_iff_toInt_le, ← Int32.toInt_inj] at  ⊢; omega) ?_
    refine r_aload_n X dJ7_fill_53178_10 rfl ?_
    refine r_iload_n X dJ7_fill_53178_11 rfl ?_
    refine r_iload_n X dJ7_fill_53178_12 rfl ?_
    refine a_iastE (a := 90) (f' := fun _ => 0) X hn dJ7_fill_53178_13 rfl (vin (k := i0) (rfl) (by omega) (by decide)) (upd_c _ _) ?_
    refine r_eq (h' := h0 ++ (frC n ++ T)) rfl rfl rfl ?_
    refine r_iinc (v := nI (i0 + 1)) X dJ7_fill_53178_14 rfl (nadd (rfl) rfl) (by decide) ?_
    refine r_goto (tgt := 5) X dJ7_fill_53178_17 rfl ?_
    exact r_eq (h' := h0 ++ (frC n ++ T)) (ls' := [some (vR (n + 90)), some (vI 0), some (vI (nI (i0 + 1))), some (vI 401)]) (st' := []) rfl rfl rfl (ih0)
set_option maxRecDepth 100000 in
set_option maxHeartbeats 4000000 in
theorem kx293_X4_sums (l : Launch) (G : PG) (h0 : PH) (n : Nat) (hn : h0.length = n) (T : PH) (z0 : Nat) (hz0 : z0 ≤ 400) : PMet l G yX4_sums cX4_sums 7 (some .int) 1 0 0 [vR (n + 89), vR (n + 20), vI (nI z0), vI 0] (h0 ++ (frC n ++ T)) (qI (fun x h' => x = 0 ∧ h' = h0 ++ ((frC n ++ T).set 90 (eI 401 (upd (fun _ => 0) (0 : Int32).toNatClampNeg (1)))))) := by
  refine PMet.intro (by decide) (Nat.le_of_ble_eq_true rfl) ?_
  intro p e s m args below meth c X hr hlk hnm
  refine r_aload_n X dX4_sums_0 rfl ?_
  refine a_get (a := 89) X hn fg_X4_9 dX4_sums_1 rfl rfl ?_
  refine r_iconst (v := 0) X dX4_sums_4 (by decide +kernel) ?_
  refine r_S2v X ks_X4_18 dX4_sums_5 (kx292_J7_fill_53178 l G _ _ hn _) rfl (fun h' hΨ => ?_)
  obtain rfl := hΨ
  refine r_aload_n X dX4_sums_8 rfl ?_
  refine a_get (a := 89) X hn fg_X4_9 dX4_sums_9 rfl rfl ?_
  refine r_iconst (v := 0) X dX4_sums_12 (by decide +kernel) ?_
  refine r_iconst (v := 1) X dX4_sums_13 (by decide +kernel) ?_
  refine a_iast (a := 90) X hn dX4_sums_14 rfl (inK (by decide +kernel)) ?_
  refine r_iconst (v := 0) X dX4_sums_15 (by decide +kernel) ?_
  refine r_istore X dX4_sums_16 (by decide) ?_
  refine r_iload X dX4_sums_18 rfl ?_
  refine r_aload_n X dX4_sums_20 rfl ?_
  refine a_get (a := 20) X hn fg_X4_24 dX4_sums_21 rfl rfl ?_
  refine r_icmp_ge_t (tgt := 87) X dX4_sums_24 rfl (by decide +kernel) ?_
  refine r_iconst (v := 0) X dX4_sums_87 (by decide +kernel) ?_
  refine r_istore X dX4_sums_88 (by decide) ?_
  refine r_iconst (v := 0) X dX4_sums_90 (by decide +kernel) ?_
  refine r_istore X dX4_sums_91 (by decide) ?_
  refine r_iconst (v := 0) X dX4_sums_93 (by decide +kernel) ?_
  refine r_istore X dX4_sums_94 (by decide) ?_
  refine r_iload X dX4_sums_96 rfl ?_
  refine r_iload_n X dX4_sums_98 rfl ?_
  refine r_icmp_gt_f (tgt := 136) X dX4_sums_99 rfl (by have e0 : (0 : Int32).toInt = 0 := (by decide); have e1 : (nI z0).toInt = ((z0 : Nat) : Int) := toN (rfl) (by omega); simp only [Int32.lt_iff_toInt_lt, Int32.le_iff_toInt_le, ← Int32.toInt_inj] at  ⊢; omega) ?_
  refine r_iload X dX4_sums_102 rfl ?_
  refine r_aload_n X dX4_sums_104 rfl ?_
  refine a_get (a := 89) X hn fg_X4_9 dX4_sums_105 rfl rfl ?_
  refine a_alen (a := 90) (v := 401) X hn dX4_sums_108 rfl (by decide +kernel) ?_
  refine r_icmp_ge_f (tgt := 136) X dX4_sums_109 rfl (by decide +kernel) ?_
  refine r_aload_n X dX4_sums_112 rfl ?_
  refine a_get (a := 89) X hn fg_X4_9 dX4_sums_113 rfl rfl ?_
  refine r_iload X dX4_sums_116 rfl ?_
  refine a_iald (a := 90) (v := 1) X hn dX4_sums_118 rfl (inK (by decide +kernel)) (by rfl) ?_
  refine r_iconst (v := 1) X dX4_sums_119 (by decide +kernel) ?_
  refine r_icmp_ne_f (tgt := 130) X dX4_sums_120 rfl (by decide +kernel) ?_
  refine r_iinc (v := 1) X dX4_sums_123 rfl (by decide +kernel) (by decide) ?_
  refine r_eq (ls' := [some (vR (n + 89)), some (vR (n + 20)), some (vI (nI z0)), some (vI 0), some (vI 1), some (vI 0), some (vI 0)]) rfl rfl rfl ?_
  refine r_iload X dX4_sums_126 rfl ?_
  refine r_istore X dX4_sums_128 (by decide) ?_
  refine r_iinc (v := 1) X dX4_sums_130 rfl (by decide +kernel) (by decide) ?_
  refine r_goto (tgt := 96) X dX4_sums_133 rfl ?_
  refine r_eq (h' := h0 ++ ((frC n ++ T).set 90 (eI 401 (upd (fun _ => 0) (0 : Int32).toNatClampNeg (1))))) (ls' := [some (vR (n + 89)), some (vR (n + 20)), some (vI (nI z0)), some (vI 0), some (vI 1), some (vI 0), some (vI (nI (0 + 1)))]) rfl rfl rfl ?_
  refine pw_loop1 z0 (fun i0 => h0 ++ ((frC n ++ T).set 90 (eI 401 (upd (fun _ => 0) (0 : Int32).toNatClampNeg (1))))) (fun i0 => [some (vR (n + 89)), some (vR (n + 20)), some (vI (nI z0)), some (vI 0), some (vI 1), some (vI 0), some (vI (nI (i0 + 1)))]) ?_ ?_ 0 (by omega)
  · refine r_eq (h' := h0 ++ ((frC n ++ T).set 90 (eI 401 (upd (fun _ => 0) (0 : Int32).toNatClampNeg (1))))) (ls' := [some (vR (n + 89)), some (vR (n + 20)), some (vI (nI z0)), some (vI 0), some (vI 1), some (vI 0), some (vI (nI (z0 + 1)))]) rfl rfl rfl ?_
    refine r_iload X dX4_sums_96 rfl ?_
    refine r_iload_n X dX4_sums_98 rfl ?_
    refine r_icmp_gt_t (tgt := 136) X dX4_sums_99 rfl (by have e0 : (nI (z0 + 1)).toInt = (((z0 + 1) : Nat) : Int) := toN (rfl) (by omega); have e1 : (nI z0).toInt = ((z0 : Nat) : Int) := toN (rfl) (by omega); simp only [Int32.lt_iff_toInt_lt, Int32.le_iff_toInt_le, ← Int32.toInt_inj] at  ⊢; omega) ?_
    refine r_iload_n X dX4_sums_136 rfl ?_
    refine r_if_eq_t (tgt := 145) X dX4_sums_137 rfl (by decide +kernel) ?_
    refine r_iload X dX4_sums_145 rfl ?_
    exact r_ret_i X hr hlk dX4_sums_147 (Nat.le_of_ble_eq_true rfl) (Nat.le_of_ble_eq_true rfl) ⟨_, rfl, ⟨rfl, rfl⟩⟩
  · rintro i0 hi0 ih0 
    refine r_eq (h' := h0 ++ ((frC n ++ T).set 90 (eI 401 (upd (fun _ => 0) (0 : Int32).toNatClampNeg (1))))) (ls' := [some (vR (n + 89)), some (vR (n + 20)), some (vI (nI z0)), some (vI 0), some (vI 1), some (vI 0), some (vI (nI (i0 + 1)))]) rfl rfl rfl ?_
    refine r_iload X dX4_sums_96 rfl ?_
    refine r_iload_n X dX4_sums_98 rfl ?_
    refine r_icmp_gt_f (tgt := 136) X dX4_sums_99 rfl (by have e0 : (nI (i0 + 1)).toInt = (((i0 + 1) : Nat) : Int) := toN (rfl) (by omega); have e1 : (nI z0).toInt = ((z0 : Nat) : Int) := toN (rfl) (by omega); simp only [Int32.lt_iff_toInt_lt, Int32.le_iff_toInt_le, ← Int32.toInt_inj] at  ⊢; omega) ?_
    refine r_iload X dX4_sums_102 rfl ?_
    refine r_aload_n X dX4_sums_104 rfl ?_
    refine a_get (a := 89) X hn fg_X4_9 dX4_sums_105 rfl rfl ?_
    refine a_alen (a := 90) (v := 401) X hn dX4_sums_108 rfl (by decide +kernel) ?_
    refine r_icmp_ge_f (tgt := 136) X dX4_sums_109 rfl (by have e0 : (401 : Int32).toInt = 401 := (by decide); have e1 : (nI (i0 + 1)).toInt = (((i0 + 1) : Nat) : Int) := toN (rfl) (by omega); simp only [Int32.lt_iff_toInt_lt, Int32.le_iff_toInt_le, ← Int32.toInt_inj] at  ⊢; omega) ?_
    refine r_aload_n X dX4_sums_112 rfl ?_
    refine a_get (a := 89) X hn fg_X4_9 dX4_sums_113 rfl rfl ?_
    refine r_iload X dX4_sums_116 rfl ?_
    refine a_iald (a := 90) (v := 0) X hn dX4_sums_118 rfl (vin (k := (i0 + 1)) (rfl) (by omega) (by decide)) (by rw [show (nI (i0 + 1) : Int32) = nI (i0 + 1) from rfl, nI_clamp (by omega)]; rw [pk_un (by have : (0 : Int32).toNatClampNeg = 0 := (by decide); omega)]) ?_
    refine r_iconst (v := 1) X dX4_sums_119 (by decide +kernel) ?_
    refine r_icmp_ne_t (tgt := 130) X dX4_sums_120 rfl (by decide +kernel) ?_
    refine r_iinc (v := nI ((i0 + 1) + 1)) X dX4_sums_130 rfl (nadd (rfl) rfl) (by decide) ?_
    refine r_goto (tgt := 96) X dX4_sums_133 rfl ?_
    exact r_eq (h' := h0 ++ ((frC n ++ T).set 90 (eI 401 (upd (fun _ => 0) (0 : Int32).toNatClampNeg (1))))) (ls' := [some (vR (n + 89)), some (vR (n + 20)), some (vI (nI z0)), some (vI 0), some (vI 1), some (vI 0), some (vI (nI ((i0 + 1) + 1)))]) (st' := []) rfl rfl rfl (ih0)
set_option maxRecDepth 100000 in
set_option maxHeartbeats 4000000 in
theorem kx294_X4_sums (l : Launch) (G : PG) (h0 : PH) (n : Nat) (hn : h0.length = n) (T : PH) (z0 : Nat) (hz0 : z0 ≤ 400) : PMet l G yX4_sums cX4_sums 7 (some .int) 1 0 0 [vR (n + 89), vR (n + 20), vI (nI z0), vI 1] (h0 ++ (frC n ++ T)) (qI (fun x h' => x = 1 ∧ h' = h0 ++ ((frC n ++ T).set 90 (eI 401 (upd (fun _ => 0) (0 : Int32).toNatClampNeg (1)))))) := by
  refine PMet.intro (by decide) (Nat.le_of_ble_eq_true rfl) ?_
  intro p e s m args below meth c X hr hlk hnm
  refine r_aload_n X dX4_sums_0 rfl ?_
  refine a_get (a := 89) X hn fg_X4_9 dX4_sums_1 rfl rfl ?_
  refine r_iconst (v := 0) X dX4_sums_4 (by decide +kernel) ?_
  refine r_S2v X ks_X4_18 dX4_sums_5 (kx292_J7_fill_53178 l G _ _ hn _) rfl (fun h' hΨ => ?_)
  obtain rfl := hΨ
  refine r_aload_n X dX4_sums_8 rfl ?_
  refine a_get (a := 89) X hn fg_X4_9 dX4_sums_9 rfl rfl ?_
  refine r_iconst (v := 0) X dX4_sums_12 (by decide +kernel) ?_
  refine r_iconst (v := 1) X dX4_sums_13 (by decide +kernel) ?_
  refine a_iast (a := 90) X hn dX4_sums_14 rfl (inK (by decide +kernel)) ?_
  refine r_iconst (v := 0) X dX4_sums_15 (by decide +kernel) ?_
  refine r_istore X dX4_sums_16 (by decide) ?_
  refine r_iload X dX4_sums_18 rfl ?_
  refine r_aload_n X dX4_sums_20 rfl ?_
  refine a_get (a := 20) X hn fg_X4_24 dX4_sums_21 rfl rfl ?_
  refine r_icmp_ge_t (tgt := 87) X dX4_sums_24 rfl (by decide +kernel) ?_
  refine r_iconst (v := 0) X dX4_sums_87 (by decide +kernel) ?_
  refine r_istore X dX4_sums_88 (by decide) ?_
  refine r_iconst (v := 0) X dX4_sums_90 (by decide +kernel) ?_
  refine r_istore X dX4_sums_91 (by decide) ?_
  refine r_iconst (v := 0) X dX4_sums_93 (by decide +kernel) ?_
  refine r_istore X dX4_sums_94 (by decide) ?_
  refine r_iload X dX4_sums_96 rfl ?_
  refine r_iload_n X dX4_sums_98 rfl ?_
  refine r_icmp_gt_f (tgt := 136) X dX4_sums_99 rfl (by have e0 : (0 : Int32).toInt = 0 := (by decide); have e1 : (nI z0).toInt = ((z0 : Nat) : Int) := toN (rfl) (by omega); simp only [Int32.lt_iff_toInt_lt, Int32.le_iff_toInt_le, ← Int32.toInt_inj] at  ⊢; omega) ?_
  refine r_iload X dX4_sums_102 rfl ?_
  refine r_aload_n X dX4_sums_104 rfl ?_
  refine a_get (a := 89) X hn fg_X4_9 dX4_sums_105 rfl rfl ?_
  refine a_alen (a := 90) (v := 401) X hn dX4_sums_108 rfl (by decide +kernel) ?_
  refine r_icmp_ge_f (tgt := 136) X dX4_sums_109 rfl (by decide +kernel) ?_
  refine r_aload_n X dX4_sums_112 rfl ?_
  refine a_get (a := 89) X hn fg_X4_9 dX4_sums_113 rfl rfl ?_
  refine r_iload X dX4_sums_116 rfl ?_
  refine a_iald (a := 90) (v := 1) X hn dX4_sums_118 rfl (inK (by decide +kernel)) (by rfl) ?_
  refine r_iconst (v := 1) X dX4_sums_119 (by decide +kernel) ?_
  refine r_icmp_ne_f (tgt := 130) X dX4_sums_120 rfl (by decide +kernel) ?_
  refine r_iinc (v := 1) X dX4_sums_123 rfl (by decide +kernel) (by decide) ?_
  refine r_eq (ls' := [some (vR (n + 89)), some (vR (n + 20)), some (vI (nI z0)), some (vI 1), some (vI 1), some (vI 0), some (vI 0)]) rfl rfl rfl ?_
  refine r_iload X dX4_sums_126 rfl ?_
  refine r_istore X dX4_sums_128 (by decide) ?_
  refine r_iinc (v := 1) X dX4_sums_130 rfl (by decide +kernel) (by decide) ?_
  refine r_goto (tgt := 96) X dX4_sums_133 rfl ?_
  refine r_eq (h' := h0 ++ ((frC n ++ T).set 90 (eI 401 (upd (fun _ => 0) (0 : Int32).toNatClampNeg (1))))) (ls' := [some (vR (n + 89)), some (vR (n + 20)), some (vI (nI z0)), some (vI 1), some (vI 1), some (vI 0), some (vI (nI (0 + 1)))]) rfl rfl rfl ?_
  refine pw_loop1 z0 (fun i0 => h0 ++ ((frC n ++ T).set 90 (eI 401 (upd (fun _ => 0) (0 : Int32).toNatClampNeg (1))))) (fun i0 => [some (vR (n + 89)), some (vR (n + 20)), some (vI (nI z0)), some (vI 1), some (vI 1), some (vI 0), some (vI (nI (i0 + 1)))]) ?_ ?_ 0 (by omega)
  · refine r_eq (h' := h0 ++ ((frC n ++ T).set 90 (eI 401 (upd (fun _ => 0) (0 : Int32).toNatClampNeg (1))))) (ls' := [some (vR (n + 89)), some (vR (n + 20)), some (vI (nI z0)), some (vI 1), some (vI 1), some (vI 0), some (vI (nI (z0 + 1)))]) rfl rfl rfl ?_
    refine r_iload X dX4_sums_96 rfl ?_
    refine r_iload_n X dX4_sums_98 rfl ?_
    refine r_icmp_gt_t (tgt := 136) X dX4_sums_99 rfl (by have e0 : (nI (z0 + 1)).toInt = (((z0 + 1) : Nat) : Int) := toN (rfl) (by omega); have e1 : (nI z0).toInt = ((z0 : Nat) : Int) := toN (rfl) (by omega); simp only [Int32.lt_iff_toInt_lt, Int32.le_iff_toInt_le, ← Int32.toInt_inj] at  ⊢; omega) ?_
    refine r_iload_n X dX4_sums_136 rfl ?_
    refine r_if_eq_f (tgt := 145) X dX4_sums_137 rfl (by decide +kernel) ?_
    refine r_iload X dX4_sums_140 rfl ?_
    refine r_goto (tgt := 147) X dX4_sums_142 rfl ?_
    exact r_ret_i X hr hlk dX4_sums_147 (Nat.le_of_ble_eq_true rfl) (Nat.le_of_ble_eq_true rfl) ⟨_, rfl, ⟨rfl, rfl⟩⟩
  · rintro i0 hi0 ih0 
    refine r_eq (h' := h0 ++ ((frC n ++ T).set 90 (eI 401 (upd (fun _ => 0) (0 : Int32).toNatClampNeg (1))))) (ls' := [some (vR (n + 89)), some (vR (n + 20)), some (vI (nI z0)), some (vI 1), some (vI 1), some (vI 0), some (vI (nI (i0 + 1)))]) rfl rfl rfl ?_
    refine r_iload X dX4_sums_96 rfl ?_
    refine r_iload_n X dX4_sums_98 rfl ?_
    refine r_icmp_gt_f (tgt := 136) X dX4_sums_99 rfl (by have e0 : (nI (i0 + 1)).toInt = (((i0 + 1) : Nat) : Int) := toN (rfl) (by omega); have e1 : (nI z0).toInt = ((z0 : Nat) : Int) := toN (rfl) (by omega); simp only [Int32.lt_iff_toInt_lt, Int32.le_iff_toInt_le, ← Int32.toInt_inj] at  ⊢; omega) ?_
    refine r_iload X dX4_sums_102 rfl ?_
    refine r_aload_n X dX4_sums_104 rfl ?_
    refine a_get (a := 89) X hn fg_X4_9 dX4_sums_105 rfl rfl ?_
    refine a_alen (a := 90) (v := 401) X hn dX4_sums_108 rfl (by decide +kernel) ?_
    refine r_icmp_ge_f (tgt := 136) X dX4_sums_109 rfl (by have e0 : (401 : Int32).toInt = 401 := (by decide); have e1 : (nI (i0 + 1)).toInt = (((i0 + 1) : Nat) : Int) := toN (rfl) (by omega); simp only [Int32.lt_iff_toInt_lt, Int32.le_iff_toInt_le, ← Int32.toInt_inj] at  ⊢; omega) ?_
    refine r_aload_n X dX4_sums_112 rfl ?_
    refine a_get (a := 89) X hn fg_X4_9 dX4_sums_113 rfl rfl ?_
    refine r_iload X dX4_sums_116 rfl ?_
    refine a_iald (a := 90) (v := 0) X hn dX4_sums_118 rfl (vin (k := (i0 + 1)) (rfl) (by omega) (by decide)) (by rw [show (nI (i0 + 1) : Int32) = nI (i0 + 1) from rfl, nI_clamp (by omega)]; rw [pk_un (by have : (0 : Int32).toNatClampNeg = 0 := (by decide); omega)]) ?_
    refine r_iconst (v := 1) X dX4_sums_119 (by decide +kernel) ?_
    refine r_icmp_ne_t (tgt := 130) X dX4_sums_120 rfl (by decide +kernel) ?_
    refine r_iinc (v := nI ((i0 + 1) + 1)) X dX4_sums_130 rfl (nadd (rfl) rfl) (by decide) ?_
    refine r_goto (tgt := 96) X dX4_sums_133 rfl ?_
    exact r_eq (h' := h0 ++ ((frC n ++ T).set 90 (eI 401 (upd (fun _ => 0) (0 : Int32).toNatClampNeg (1))))) (ls' := [some (vR (n + 89)), some (vR (n + 20)), some (vI (nI z0)), some (vI 1), some (vI 1), some (vI 0), some (vI (nI ((i0 + 1) + 1)))]) (st' := []) rfl rfl rfl (ih0)
set_option maxRecDepth 100000 in
set_option maxHeartbeats 4000000 in
theorem x_candles (l : Launch) (G : PG) (h0 : PH) (n : Nat) (hn : h0.length = n) (T : PH) (a b : Int32) : PMet l G yX11_candles cX11_candles 3 (some .int) 2 0 0 [vR (n + 0), vI a, vI b] (h0 ++ (frC n ++ T)) (qI (fun x h' => x = sp_candles a b ∧ kp n 103 T h')) := by
  refine PMet.intro (by decide) (Nat.le_of_ble_eq_true rfl) ?_
  intro p e s m args below meth c X hr hlk hnm
  refine r_iload_n X dX11_candles_0 rfl ?_
  refine r_if_lt (tgt := 20) X dX11_candles_1 rfl (fun q1 => ?_) (fun q1 => ?_)
  · refine r_iconst (v := -1) X dX11_candles_20 (by decide +kernel) ?_
    exact r_ret_i X hr hlk dX11_candles_21 (Nat.le_of_ble_eq_true rfl) (Nat.le_of_ble_eq_true rfl) ⟨_, rfl, by unfold sp_candles; (repeat' split) <;> first | rfl | (exfalso; have e0 : (-1 : Int32).toInt = -1 := (by decide); have e1 : (0 : Int32).toInt = 0 := (by decide); have e2 : (1 : Int32).toInt = 1 := (by decide); have e3 : (400 : Int32).toInt = 400 := (by decide); simp only [inR, Int32.lt_iff_toInt_lt, Int32.le_iff_toInt_le, ← Int32.toInt_inj, true_or, or_true, not_true_eq_false, and_true, true_and, false_or, or_false, false_and, and_false, not_false_eq_true] at * <;> omega), kp_of hn rfl rfl⟩
  · refine r_iload_n X dX11_candles_4 rfl ?_
    refine r_sipush (v := 400) X dX11_candles_5 (by decide +kernel) ?_
    refine r_icmp_gt (tgt := 20) X dX11_candles_8 rfl (fun q2 => ?_) (fun q2 => ?_)
    · refine r_iconst (v := -1) X dX11_candles_20 (by decide +kernel) ?_
      exact r_ret_i X hr hlk dX11_candles_21 (Nat.le_of_ble_eq_true rfl) (Nat.le_of_ble_eq_true rfl) ⟨_, rfl, by unfold sp_candles; (repeat' split) <;> first | rfl | (exfalso; have e0 : (-1 : Int32).toInt = -1 := (by decide); have e1 : (0 : Int32).toInt = 0 := (by decide); have e2 : (1 : Int32).toInt = 1 := (by decide); have e3 : (400 : Int32).toInt = 400 := (by decide); simp only [inR, Int32.lt_iff_toInt_lt, Int32.le_iff_toInt_le, ← Int32.toInt_inj, true_or, or_true, not_true_eq_false, and_true, true_and, false_or, or_false, false_and, and_false, not_false_eq_true] at * <;> omega), kp_of hn rfl rfl⟩
    · refine r_iload_n X dX11_candles_11 rfl ?_
      refine r_if_lt (tgt := 20) X dX11_candles_12 rfl (fun q3 => ?_) (fun q3 => ?_)
      · refine r_iconst (v := -1) X dX11_candles_20 (by decide +kernel) ?_
        exact r_ret_i X hr hlk dX11_candles_21 (Nat.le_of_ble_eq_true rfl) (Nat.le_of_ble_eq_true rfl) ⟨_, rfl, by unfold sp_candles; (repeat' split) <;> first | rfl | (exfalso; have e0 : (-1 : Int32).toInt = -1 := (by decide); have e1 : (0 : Int32).toInt = 0 := (by decide); have e2 : (1 : Int32).toInt = 1 := (by decide); have e3 : (400 : Int32).toInt = 400 := (by decide); simp only [inR, Int32.lt_iff_toInt_lt, Int32.le_iff_toInt_le, ← Int32.toInt_inj, true_or, or_true, not_true_eq_false, and_true, true_and, false_or, or_false, false_and, and_false, not_false_eq_true] at * <;> omega), kp_of hn rfl rfl⟩
      · refine r_iload_n X dX11_candles_15 rfl ?_
        refine r_iconst (v := 1) X dX11_candles_16 (by decide +kernel) ?_
        refine r_icmp_le (tgt := 22) X dX11_candles_17 rfl (fun q4 => ?_) (fun q4 => ?_)
        · refine r_aload_n X dX11_candles_22 rfl ?_
          refine a_get (a := 0) X hn fg_X11_54 dX11_candles_23 rfl rfl ?_
          refine r_aload_n X dX11_candles_26 rfl ?_
          refine a_get (a := 0) X hn fg_X11_12 dX11_candles_27 rfl rfl ?_
          refine a_get (a := 1) X hn fg_X11_246 dX11_candles_30 rfl rfl ?_
          refine r_iconst (v := 4) X dX11_candles_33 (by decide +kernel) ?_
          refine a_aald (a := 8) (v := vR (n + 20)) (C := RX9) X hn rfl dX11_candles_34 rfl (inK (by decide +kernel)) rfl ?_
          refine r_iload_n X dX11_candles_35 rfl ?_
          refine r_iload_n X dX11_candles_36 rfl ?_
          refine r_if_ne (tgt := 44) X dX11_candles_37 rfl (fun q5 => ?_) (fun q5 => ?_)
          · refine r_iconst (v := 0) X dX11_candles_44 (by decide +kernel) ?_
            obtain ⟨j_a, hj_a, rfl⟩ : ∃ j : Nat, j ≤ 400 ∧ a = nI j := nI_of2 (M := 400) (by decide) (by have e0 : (0 : Int32).toInt = 0 := (by decide); have e1 : (400 : Int32).toInt = 400 := (by decide); simp only [Int32.lt_iff_toInt_lt, Int32.le_iff_toInt_le, ← Int32.toInt_inj] at q1 q2 ⊢; omega) (by have e0 : (0 : Int32).toInt = 0 := (by decide); have e1 : (400 : Int32).toInt = 400 := (by decide); simp only [Int32.lt_iff_toInt_lt, Int32.le_iff_toInt_le, ← Int32.toInt_inj] at q1 q2 ⊢; omega)
            refine r_V3i X kv_X11_276 dX11_candles_45 (apG (k := 89) hn rfl) rfl (kx293_X4_sums l G _ _ hn _ _ (by omega)) rfl (fun x h' hΨ => ?_)
            obtain ⟨rfl, rfl⟩ := hΨ
            exact r_ret_i X hr hlk dX11_candles_48 (Nat.le_of_ble_eq_true rfl) (Nat.le_of_ble_eq_true rfl) ⟨_, rfl, by unfold sp_candles; (repeat' split) <;> first | rfl | (exfalso; have e0 : (-1 : Int32).toInt = -1 := (by decide); have e1 : (0 : Int32).toInt = 0 := (by decide); have e2 : (1 : Int32).toInt = 1 := (by decide); have e3 : (400 : Int32).toInt = 400 := (by decide); have en0 : (nI j_a).toInt = ((j_a : Nat) : Int) := toN rfl (by omega); simp only [inR, Int32.lt_iff_toInt_lt, Int32.le_iff_toInt_le, ← Int32.toInt_inj, true_or, or_true, not_true_eq_false, and_true, true_and, false_or, or_false, false_and, and_false, not_false_eq_true] at * <;> omega), kp_of hn rfl rfl⟩
          · refine r_iconst (v := 1) X dX11_candles_40 (by decide +kernel) ?_
            refine r_goto (tgt := 45) X dX11_candles_41 rfl ?_
            obtain ⟨j_a, hj_a, rfl⟩ : ∃ j : Nat, j ≤ 400 ∧ a = nI j := nI_of2 (M := 400) (by decide) (by have e0 : (0 : Int32).toInt = 0 := (by decide); have e1 : (400 : Int32).toInt = 400 := (by decide); simp only [Int32.lt_iff_toInt_lt, Int32.le_iff_toInt_le, ← Int32.toInt_inj] at q1 q2 ⊢; omega) (by have e0 : (0 : Int32).toInt = 0 := (by decide); have e1 : (400 : Int32).toInt = 400 := (by decide); simp only [Int32.lt_iff_toInt_lt, Int32.le_iff_toInt_le, ← Int32.toInt_inj] at q1 q2 ⊢; omega)
            refine r_V3i X kv_X11_276 dX11_candles_45 (apG (k := 89) hn rfl) rfl (kx294_X4_sums l G _ _ hn _ _ (by omega)) rfl (fun x h' hΨ => ?_)
            obtain ⟨rfl, rfl⟩ := hΨ
            exact r_ret_i X hr hlk dX11_candles_48 (Nat.le_of_ble_eq_true rfl) (Nat.le_of_ble_eq_true rfl) ⟨_, rfl, by unfold sp_candles; (repeat' split) <;> first | rfl | (exfalso; have e0 : (-1 : Int32).toInt = -1 := (by decide); have e1 : (0 : Int32).toInt = 0 := (by decide); have e2 : (1 : Int32).toInt = 1 := (by decide); have e3 : (400 : Int32).toInt = 400 := (by decide); have en0 : (nI j_a).toInt = ((j_a : Nat) : Int) := toN rfl (by omega); simp only [inR, Int32.lt_iff_toInt_lt, Int32.le_iff_toInt_le, ← Int32.toInt_inj, true_or, or_true, not_true_eq_false, and_true, true_and, false_or, or_false, false_and, and_false, not_false_eq_true] at * <;> omega), kp_of hn rfl rfl⟩
        · refine r_iconst (v := -1) X dX11_candles_20 (by decide +kernel) ?_
          exact r_ret_i X hr hlk dX11_candles_21 (Nat.le_of_ble_eq_true rfl) (Nat.le_of_ble_eq_true rfl) ⟨_, rfl, by unfold sp_candles; (repeat' split) <;> first | rfl | (exfalso; have e0 : (-1 : Int32).toInt = -1 := (by decide); have e1 : (0 : Int32).toInt = 0 := (by decide); have e2 : (1 : Int32).toInt = 1 := (by decide); have e3 : (400 : Int32).toInt = 400 := (by decide); simp only [inR, Int32.lt_iff_toInt_lt, Int32.le_iff_toInt_le, ← Int32.toInt_inj, true_or, or_true, not_true_eq_false, and_true, true_and, false_or, or_false, false_and, and_false, not_false_eq_true] at * <;> omega), kp_of hn rfl rfl⟩
