set_option maxRecDepth 100000 in
set_option maxHeartbeats 4000000 in
theorem x_hours (l : Launch) (G : PG) (h0 : PH) (n : Nat) (hn : h0.length = n) (T : PH) (a : Int32) : PMet l G yX11_hours cX11_hours 4 (some .int) 4 0 0 [vR (n + 0), vI a] (h0 ++ (frC n ++ T)) (qI (fun x h' => x = sp_hours a ∧ kp n 103 T h')) := by
  refine PMet.intro (by decide) (Nat.le_of_ble_eq_true rfl) ?_
  intro p e s m args below meth c X hr hlk hnm
  refine r_iload_n X dX11_hours_0 rfl ?_
  refine r_iconst (v := 1) X dX11_hours_1 (by decide +kernel) ?_
  refine r_icmp_lt (tgt := 43) X dX11_hours_2 rfl (fun q1 => ?_) (fun q1 => ?_)
  · refine r_iconst (v := -1) X dX11_hours_43 (by decide +kernel) ?_
    exact r_ret_i X hr hlk dX11_hours_44 (Nat.le_of_ble_eq_true rfl) (Nat.le_of_ble_eq_true rfl) ⟨_, rfl, by unfold sp_hours; (repeat' split) <;> first | rfl | (exfalso; have e0 : (-1 : Int32).toInt = -1 := (by decide); have e1 : (0 : Int32).toInt = 0 := (by decide); have e2 : (1 : Int32).toInt = 1 := (by decide); have e3 : (60 : Int32).toInt = 60 := (by decide); simp only [inR, Int32.lt_iff_toInt_lt, Int32.le_iff_toInt_le, ← Int32.toInt_inj, true_or, or_true, not_true_eq_false, and_true, true_and, false_or, or_false, false_and, and_false, not_false_eq_true] at * <;> omega), kp_of hn rfl rfl⟩
  · refine r_iload_n X dX11_hours_5 rfl ?_
    refine r_bipush (v := 60) X dX11_hours_6 (by decide +kernel) ?_
    refine r_icmp_gt (tgt := 43) X dX11_hours_8 rfl (fun q2 => ?_) (fun q2 => ?_)
    · refine r_iconst (v := -1) X dX11_hours_43 (by decide +kernel) ?_
      exact r_ret_i X hr hlk dX11_hours_44 (Nat.le_of_ble_eq_true rfl) (Nat.le_of_ble_eq_true rfl) ⟨_, rfl, by unfold sp_hours; (repeat' split) <;> first | rfl | (exfalso; have e0 : (-1 : Int32).toInt = -1 := (by decide); have e1 : (0 : Int32).toInt = 0 := (by decide); have e2 : (1 : Int32).toInt = 1 := (by decide); have e3 : (60 : Int32).toInt = 60 := (by decide); simp only [inR, Int32.lt_iff_toInt_lt, Int32.le_iff_toInt_le, ← Int32.toInt_inj, true_or, or_true, not_true_eq_false, and_true, true_and, false_or, or_false, false_and, and_false, not_false_eq_true] at * <;> omega), kp_of hn rfl rfl⟩
    · refine r_aload_n X dX11_hours_11 rfl ?_
      refine a_get (a := 0) X hn fg_X11_12 dX11_hours_12 rfl rfl ?_
      refine a_get (a := 1) X hn fg_X11_67 dX11_hours_15 rfl rfl ?_
      refine a_get (a := 2) X hn fg_X11_137 dX11_hours_18 rfl rfl ?_
      refine r_aload_n X dX11_hours_21 rfl ?_
      refine a_get (a := 0) X hn fg_X11_12 dX11_hours_22 rfl rfl ?_
      refine a_get (a := 1) X hn fg_X11_67 dX11_hours_25 rfl rfl ?_
      refine a_get (a := 2) X hn fg_X11_140 dX11_hours_28 rfl rfl ?_
      refine r_iload_n X dX11_hours_31 rfl ?_
      refine r_iadd X dX11_hours_32 ?_
      refine r_bipush (v := 12) X dX11_hours_33 (by decide +kernel) ?_
      refine r_idiv X dX11_hours_35 (by decide +kernel) ?_
      refine r_iadd X dX11_hours_36 ?_
      refine r_sipush (v := 9990) X dX11_hours_37 (by decide +kernel) ?_
      obtain ⟨j_a, hj_a, rfl⟩ : ∃ j : Nat, j ≤ 60 ∧ a = nI j := nI_of2 (M := 60) (by decide) (by have e0 : (0 : Int32).toInt = 0 := (by decide); have e1 : (1 : Int32).toInt = 1 := (by decide); have e2 : (60 : Int32).toInt = 60 := (by decide); simp only [Int32.lt_iff_toInt_lt, Int32.le_iff_toInt_le, ← Int32.toInt_inj] at q1 q2 ⊢; omega) (by have e0 : (1 : Int32).toInt = 1 := (by decide); have e1 : (60 : Int32).toInt = 60 := (by decide); simp only [Int32.lt_iff_toInt_lt, Int32.le_iff_toInt_le, ← Int32.toInt_inj] at q1 q2 ⊢; omega)
      refine r_icmp_le_t (tgt := 45) X dX11_hours_40 rfl (by have e0 : (0 + ((0 + (nI j_a)) / 12)).toInt = (((0 + ((0 + j_a) / 12)) : Nat) : Int) := toN (nadd ((rfl : (0 : Int32) = nI 0)) (ndiv (nadd ((rfl : (0 : Int32) = nI 0)) (rfl)) (by omega) (by decide) (by decide) (rfl : (12 : Int32) = nI 12))) (by omega); have e1 : (9990 : Int32).toInt = 9990 := (by decide); simp only [Int32.lt_iff_toInt_lt, Int32.le_iff_toInt_le, ← Int32.toInt_inj] at  ⊢; omega) ?_
      refine r_iconst (v := 0) X dX11_hours_45 (by decide +kernel) ?_
      refine r_istore_n X dX11_hours_46 (by decide) ?_
      refine r_iconst (v := 0) X dX11_hours_47 (by decide +kernel) ?_
      refine r_istore_n X dX11_hours_48 (by decide) ?_
      refine r_eq (h' := h0 ++ (hga n (fun _ => 0) (0) (0) (0) (0) (0) (0) (lf [0, 0, 0, 0, 0, 0, 0, 0]) (fun _ => 0) (fun _ => 0) (lf [0, 0, 0, 0, 0, 0, 0, 0]) (fun _ => 0) (fun _ => 0) (lf [0, 0, 0, 0, 0, 0, 0, 0]) (fun _ => 0) (fun _ => 0) (lf [0, 0, 0, 0, 0, 0, 0, 0]) (fun _ => 0) (fun _ => 0) (lf [0, 0, 0, 0, 0, 0, 0, 0]) (fun _ => 0) (fun _ => 0) (lf [0, 0, 0, 0, 0, 0, 0, 0]) (fun _ => 0) (fun _ => 0) ++ T)) (ls' := [some (vR (n + 0)), some (vI (nI j_a)), some (vI 0), some (vI (nI 0))]) rfl rfl rfl ?_
      refine pw_loopA (α := (Nat → Int32) × Int32 × Int32 × Int32 × Nat × Nat × Int32 × (Nat → Int32) × (Nat → Int32) × (Nat → Int32) × (Nat → Int32) × (Nat → Int32) × (Nat → Int32) × (Nat → Int32) × (Nat → Int32) × (Nat → Int32) × (Nat → Int32) × (Nat → Int32) × (Nat → Int32) × (Nat → Int32) × (Nat → Int32) × (Nat → Int32) × (Nat → Int32) × (Nat → Int32) × (Nat → Int32)) j_a (fun a => match a with | (va6, va2_4, va2_5, va2_7, va2_9, va59_1, va59_2, va61, va62, va63, va64, va65, va66, va67, va68, va69, va70, va71, va72, va73, va74, va75, va76, va77, va78) => va2_9 ≤ 150 ∧ va59_1 ≤ 5) (fun i0 => fun a => match a with | (va6, va2_4, va2_5, va2_7, va2_9, va59_1, va59_2, va61, va62, va63, va64, va65, va66, va67, va68, va69, va70, va71, va72, va73, va74, va75, va76, va77, va78) => h0 ++ (hga n va6 va2_4 va2_5 va2_7 va2_9 va59_1 va59_2 va61 va62 va63 va64 va65 va66 va67 va68 va69 va70 va71 va72 va73 va74 va75 va76 va77 va78 ++ T)) (fun i0 => [some (vR (n + 0)), some (vI (nI j_a)), some (vI 0), some (vI (nI i0))]) ?_ ?_ 0 (by omega) ((fun _ => 0), (0), (0), (0), (0), (0), (0), (lf [0, 0, 0, 0, 0, 0, 0, 0]), (fun _ => 0), (fun _ => 0), (lf [0, 0, 0, 0, 0, 0, 0, 0]), (fun _ => 0), (fun _ => 0), (lf [0, 0, 0, 0, 0, 0, 0, 0]), (fun _ => 0), (fun _ => 0), (lf [0, 0, 0, 0, 0, 0, 0, 0]), (fun _ => 0), (fun _ => 0), (lf [0, 0, 0, 0, 0, 0, 0, 0]), (fun _ => 0), (fun _ => 0), (lf [0, 0, 0, 0, 0, 0, 0, 0]), (fun _ => 0), (fun _ => 0)) (by refine ⟨?_, ?_⟩ <;> omega)
      · rintro ⟨va6, va2_4, va2_5, va2_7, va2_9, va59_1, va59_2, va61, va62, va63, va64, va65, va66, va67, va68, va69, va70, va71, va72, va73, va74, va75, va76, va77, va78⟩ ⟨hba0, hba1⟩
        refine r_eq (h' := h0 ++ (hga n va6 va2_4 va2_5 va2_7 va2_9 va59_1 va59_2 va61 va62 va63 va64 va65 va66 va67 va68 va69 va70 va71 va72 va73 va74 va75 va76 va77 va78 ++ T)) (ls' := [some (vR (n + 0)), some (vI (nI j_a)), some (vI 0), some (vI (nI j_a))]) rfl rfl rfl ?_
        refine r_iload_n X dX11_hours_49 rfl ?_
        refine r_iload_n X dX11_hours_50 rfl ?_
        refine r_icmp_ge_t (tgt := 92) X dX11_hours_51 rfl (Int32.le_refl _) ?_
        refine r_iload_n X dX11_hours_92 rfl ?_
        exact r_ret_i X hr hlk dX11_hours_93 (Nat.le_of_ble_eq_true rfl) (Nat.le_of_ble_eq_true rfl) ⟨_, rfl, by unfold sp_hours; (repeat' split) <;> first | rfl | (exfalso; have e0 : (-1 : Int32).toInt = -1 := (by decide); have e1 : (0 : Int32).toInt = 0 := (by decide); have e2 : (1 : Int32).toInt = 1 := (by decide); have e3 : (60 : Int32).toInt = 60 := (by decide); have en0 : (nI j_a).toInt = ((j_a : Nat) : Int) := toN rfl (by omega); have en1 : (nI va2_9).toInt = ((va2_9 : Nat) : Int) := toN rfl (by omega); have en2 : (nI va59_1).toInt = ((va59_1 : Nat) : Int) := toN rfl (by omega); simp only [inR, Int32.lt_iff_toInt_lt, Int32.le_iff_toInt_le, ← Int32.toInt_inj, true_or, or_true, not_true_eq_false, and_true, true_and, false_or, or_false, false_and, and_false, not_false_eq_true] at * <;> omega), kp_of hn rfl rfl⟩
      · rintro i0 hi0 ih0 ⟨va6, va2_4, va2_5, va2_7, va2_9, va59_1, va59_2, va61, va62, va63, va64, va65, va66, va67, va68, va69, va70, va71, va72, va73, va74, va75, va76, va77, va78⟩ ⟨hba0, hba1⟩
        refine r_eq (h' := h0 ++ (hga n va6 va2_4 va2_5 va2_7 va2_9 va59_1 va59_2 va61 va62 va63 va64 va65 va66 va67 va68 va69 va70 va71 va72 va73 va74 va75 va76 va77 va78 ++ T)) (ls' := [some (vR (n + 0)), some (vI (nI j_a)), some (vI 0), some (vI (nI i0))]) rfl rfl rfl ?_
        refine pw_cut (α := (Nat → Int32) × Int32 × Int32 × Int32 × Nat × Nat × Int32 × (Nat → Int32) × (Nat → Int32) × (Nat → Int32) × (Nat → Int32) × (Nat → Int32) × (Nat → Int32) × (Nat → Int32) × (Nat → Int32) × (Nat → Int32) × (Nat → Int32) × (Nat → Int32) × (Nat → Int32) × (Nat → Int32) × (Nat → Int32) × (Nat → Int32) × (Nat → Int32) × (Nat → Int32) × (Nat → Int32)) (fun a => match a with | (vas6, vas2_4, vas2_5, vas2_7, vas2_9, vas59_1, vas59_2, vas61, vas62, vas63, vas64, vas65, vas66, vas67, vas68, vas69, vas70, vas71, vas72, vas73, vas74, vas75, vas76, vas77, vas78) => vas2_9 ≤ 150 ∧ vas59_1 ≤ 5) (fun a => match a with | (vas6, vas2_4, vas2_5, vas2_7, vas2_9, vas59_1, vas59_2, vas61, vas62, vas63, vas64, vas65, vas66, vas67, vas68, vas69, vas70, vas71, vas72, vas73, vas74, vas75, vas76, vas77, vas78) => h0 ++ (hgas n vas6 vas2_4 vas2_5 vas2_7 vas2_9 vas59_1 vas59_2 vas61 vas62 vas63 vas64 vas65 vas66 vas67 vas68 vas69 vas70 vas71 vas72 vas73 vas74 vas75 vas76 vas77 vas78 ++ T)) 76 [some (vR (n + 0)), some (vI (nI j_a)), some (vI 0), some (vI (nI i0))] [] ?_ (fun seg => ?_)
        · rintro ⟨vas6, vas2_4, vas2_5, vas2_7, vas2_9, vas59_1, vas59_2, vas61, vas62, vas63, vas64, vas65, vas66, vas67, vas68, vas69, vas70, vas71, vas72, vas73, vas74, vas75, vas76, vas77, vas78⟩ ⟨hca0, hca1⟩
          refine r_eq (h' := h0 ++ (hgas n vas6 vas2_4 vas2_5 vas2_7 vas2_9 vas59_1 vas59_2 vas61 vas62 vas63 vas64 vas65 vas66 vas67 vas68 vas69 vas70 vas71 vas72 vas73 vas74 vas75 vas76 vas77 vas78 ++ T)) (ls' := [some (vR (n + 0)), some (vI (nI j_a)), some (vI 0), some (vI (nI i0))]) rfl rfl rfl ?_
          refine r_iload_n X dX11_hours_76 rfl ?_
          refine r_aload_n X dX11_hours_77 rfl ?_
          refine a_get (a := 0) X hn fg_X11_81 dX11_hours_78 rfl rfl ?_
          refine r_V0i X kv_X11_143 dX11_hours_81 (apG (k := 95) hn rfl) rfl (kh13_X1_oneHour l G _ _ hn _ _ _ _ _ _ _ _ _ _ _ _ _ _ _ _ _ _ _ _ _ _ _ _ _ (by omega) _ (by omega)) rfl (fun x h' hΨ => ?_)
          rcases hΨ with ⟨g9, q3, q4, rfl, rfl⟩ | ⟨q5, q6, rfl, rfl⟩ | ⟨q7, rfl, rfl⟩
          · have nq4 : (vas2_9) < 150 := by have e0 : (150 : Int32).toInt = 150 := (by decide); have e1 : (nI (vas2_9)).toInt = (((vas2_9) : Nat) : Int) := toN (rfl) (by omega); simp only [Int32.lt_iff_toInt_lt, Int32.le_iff_toInt_le, ← Int32.toInt_inj] at q4 ⊢; omega
            refine r_iaddE (v := 0) X dX11_hours_84 (by decide +kernel) ?_
            refine r_istore_n X dX11_hours_85 (by decide) ?_
            refine r_iinc (v := nI (i0 + 1)) X dX11_hours_86 rfl (nadd (rfl) rfl) (by decide) ?_
            refine r_goto (tgt := 49) X dX11_hours_89 rfl ?_
            exact r_eq (h' := h0 ++ (((hgas n vas6 vas2_4 vas2_5 vas2_7 vas2_9 vas59_1 vas59_2 vas61 vas62 vas63 vas64 vas65 vas66 vas67 vas68 vas69 vas70 vas71 vas72 vas73 vas74 vas75 vas76 vas77 vas78 ++ T).set 2 (eO 0 [vR (n + 3), vR (n + 4), vI 0, vI 0, vI 0, vI (vas2_5 + 1), vI 0, vI (vas2_7 + 1), vI 0, vI (nI ((vas2_9) + 1))])).set 6 (eI 750 g9))) (ls' := [some (vR (n + 0)), some (vI (nI j_a)), some (vI 0), some (vI (nI (i0 + 1)))]) (st' := []) rfl rfl rfl (ih0 ((g9), (0), (vas2_5 + 1), (vas2_7 + 1), ((vas2_9 + 1)), (vas59_1), (vas59_2), (lf [vas61 0, vas61 1, vas61 2, vas61 3, vas61 4, vas61 5, vas61 6, vas61 7]), (vas62), (vas63), (lf [vas64 0, vas64 1, vas64 2, vas64 3, vas64 4, vas64 5, vas64 6, vas64 7]), (vas65), (vas66), (lf [vas67 0, vas67 1, vas67 2, vas67 3, vas67 4, vas67 5, vas67 6, vas67 7]), (vas68), (vas69), (lf [vas70 0, vas70 1, vas70 2, vas70 3, vas70 4, vas70 5, vas70 6, vas70 7]), (vas71), (vas72), (lf [vas73 0, vas73 1, vas73 2, vas73 3, vas73 4, vas73 5, vas73 6, vas73 7]), (vas74), (vas75), (lf [vas76 0, vas76 1, vas76 2, vas76 3, vas76 4, vas76 5, vas76 6, vas76 7]), (vas77), (vas78)) (by omega))
          · have nq6 : ¬ ((vas2_9) < 150) := by have e0 : (150 : Int32).toInt = 150 := (by decide); have e1 : (nI (vas2_9)).toInt = (((vas2_9) : Nat) : Int) := toN (rfl) (by omega); simp only [Int32.lt_iff_toInt_lt, Int32.le_iff_toInt_le, ← Int32.toInt_inj] at q6 ⊢; omega
            refine r_iaddE (v := 0) X dX11_hours_84 (by decide +kernel) ?_
            refine r_istore_n X dX11_hours_85 (by decide) ?_
            refine r_iinc (v := nI (i0 + 1)) X dX11_hours_86 rfl (nadd (rfl) rfl) (by decide) ?_
            refine r_goto (tgt := 49) X dX11_hours_89 rfl ?_
            exact r_eq (h' := h0 ++ ((hgas n vas6 vas2_4 vas2_5 vas2_7 vas2_9 vas59_1 vas59_2 vas61 vas62 vas63 vas64 vas65 vas66 vas67 vas68 vas69 vas70 vas71 vas72 vas73 vas74 vas75 vas76 vas77 vas78 ++ T).set 2 (eO 0 [vR (n + 3), vR (n + 4), vI 0, vI 0, vI 0, vI (vas2_5 + 1), vI 0, vI (vas2_7 + 1), vI 0, vI (nI (vas2_9))]))) (ls' := [some (vR (n + 0)), some (vI (nI j_a)), some (vI 0), some (vI (nI (i0 + 1)))]) (st' := []) rfl rfl rfl (ih0 ((vas6), (0), (vas2_5 + 1), (vas2_7 + 1), ((vas2_9)), (vas59_1), (vas59_2), (lf [vas61 0, vas61 1, vas61 2, vas61 3, vas61 4, vas61 5, vas61 6, vas61 7]), (vas62), (vas63), (lf [vas64 0, vas64 1, vas64 2, vas64 3, vas64 4, vas64 5, vas64 6, vas64 7]), (vas65), (vas66), (lf [vas67 0, vas67 1, vas67 2, vas67 3, vas67 4, vas67 5, vas67 6, vas67 7]), (vas68), (vas69), (lf [vas70 0, vas70 1, vas70 2, vas70 3, vas70 4, vas70 5, vas70 6, vas70 7]), (vas71), (vas72), (lf [vas73 0, vas73 1, vas73 2, vas73 3, vas73 4, vas73 5, vas73 6, vas73 7]), (vas74), (vas75), (lf [vas76 0, vas76 1, vas76 2, vas76 3, vas76 4, vas76 5, vas76 6, vas76 7]), (vas77), (vas78)) (by omega))
          · refine r_iaddE (v := 0) X dX11_hours_84 (by decide +kernel) ?_
            refine r_istore_n X dX11_hours_85 (by decide) ?_
            refine r_iinc (v := nI (i0 + 1)) X dX11_hours_86 rfl (nadd (rfl) rfl) (by decide) ?_
            refine r_goto (tgt := 49) X dX11_hours_89 rfl ?_
            exact r_eq (h' := h0 ++ ((hgas n vas6 vas2_4 vas2_5 vas2_7 vas2_9 vas59_1 vas59_2 vas61 vas62 vas63 vas64 vas65 vas66 vas67 vas68 vas69 vas70 vas71 vas72 vas73 vas74 vas75 vas76 vas77 vas78 ++ T).set 2 (eO 0 [vR (n + 3), vR (n + 4), vI 0, vI 0, vI (vas2_4 + 1), vI vas2_5, vI 0, vI vas2_7, vI 0, vI (nI vas2_9)]))) (ls' := [some (vR (n + 0)), some (vI (nI j_a)), some (vI 0), some (vI (nI (i0 + 1)))]) (st' := []) rfl rfl rfl (ih0 ((vas6), (vas2_4 + 1), (vas2_5), (vas2_7), (vas2_9), (vas59_1), (vas59_2), (lf [vas61 0, vas61 1, vas61 2, vas61 3, vas61 4, vas61 5, vas61 6, vas61 7]), (vas62), (vas63), (lf [vas64 0, vas64 1, vas64 2, vas64 3, vas64 4, vas64 5, vas64 6, vas64 7]), (vas65), (vas66), (lf [vas67 0, vas67 1, vas67 2, vas67 3, vas67 4, vas67 5, vas67 6, vas67 7]), (vas68), (vas69), (lf [vas70 0, vas70 1, vas70 2, vas70 3, vas70 4, vas70 5, vas70 6, vas70 7]), (vas71), (vas72), (lf [vas73 0, vas73 1, vas73 2, vas73 3, vas73 4, vas73 5, vas73 6, vas73 7]), (vas74), (vas75), (lf [vas76 0, vas76 1, vas76 2, vas76 3, vas76 4, vas76 5, vas76 6, vas76 7]), (vas77), (vas78)) (by omega))
        rcases (show va59_1 = 0 ∨ va59_1 = 1 ∨ va59_1 = 2 ∨ va59_1 = 3 ∨ va59_1 = 4 ∨ va59_1 = 5 by omega) with rfl | rfl | rfl | rfl | rfl | rfl
        · refine r_eq (h' := h0 ++ (hga n va6 va2_4 va2_5 va2_7 va2_9 0 va59_2 va61 va62 va63 va64 va65 va66 va67 va68 va69 va70 va71 va72 va73 va74 va75 va76 va77 va78 ++ T)) rfl rfl rfl ?_
          refine r_iload_n X dX11_hours_49 rfl ?_
          refine r_iload_n X dX11_hours_50 rfl ?_
          refine r_icmp_ge_f (tgt := 92) X dX11_hours_51 rfl (nI_ge hi0 (by omega)) ?_
          refine r_iload_n X dX11_hours_54 rfl ?_
          refine r_iload_n X dX11_hours_55 rfl ?_
          refine r_isub X dX11_hours_56 ?_
          refine r_bipush (v := 6) X dX11_hours_57 (by decide +kernel) ?_
          refine r_icmp_gt (tgt := 76) X dX11_hours_59 rfl (fun q8 => ?_) (fun q8 => ?_)
          · exact r_eq (h' := h0 ++ (hga n va6 va2_4 va2_5 va2_7 va2_9 0 va59_2 va61 va62 va63 va64 va65 va66 va67 va68 va69 va70 va71 va72 va73 va74 va75 va76 va77 va78 ++ T)) (ls' := [some (vR (n + 0)), some (vI (nI j_a)), some (vI 0), some (vI (nI i0))]) (st' := []) rfl rfl rfl (seg ((va6), (va2_4), (va2_5), (va2_7), (va2_9), (0), (va59_2), (lf [va61 0, va61 1, va61 2, va61 3, va61 4, va61 5, va61 6, va61 7]), (va62), (va63), (lf [va64 0, va64 1, va64 2, va64 3, va64 4, va64 5, va64 6, va64 7]), (va65), (va66), (lf [va67 0, va67 1, va67 2, va67 3, va67 4, va67 5, va67 6, va67 7]), (va68), (va69), (lf [va70 0, va70 1, va70 2, va70 3, va70 4, va70 5, va70 6, va70 7]), (va71), (va72), (lf [va73 0, va73 1, va73 2, va73 3, va73 4, va73 5, va73 6, va73 7]), (va74), (va75), (lf [va76 0, va76 1, va76 2, va76 3, va76 4, va76 5, va76 6, va76 7]), (va77), (va78)) (by omega))
          · refine r_aload_n X dX11_hours_62 rfl ?_
            refine a_get (a := 0) X hn fg_X11_26 dX11_hours_63 rfl rfl ?_
            refine r_aload_n X dX11_hours_66 rfl ?_
            refine a_get (a := 0) X hn fg_X11_12 dX11_hours_67 rfl rfl ?_
            refine a_get (a := 1) X hn fg_X11_67 dX11_hours_70 rfl rfl ?_
            refine r_V1v X kv_X11_116 dX11_hours_73 (apG (k := 59) hn rfl) rfl (kh15_X7_keep l G _ _ hn _ _ _ _ _ _ _ _ _ _ _ _ _ _ _ _ _ _ _ _ _ _ _ _ _ (by omega)) rfl (fun h' hΨ => ?_)
            obtain ⟨g14, g15, rfl⟩ := hΨ
            exact r_eq (h' := h0 ++ (((((hga n va6 va2_4 va2_5 va2_7 va2_9 0 va59_2 va61 va62 va63 va64 va65 va66 va67 va68 va69 va70 va71 va72 va73 va74 va75 va76 va77 va78 ++ T).set 59 (eO 7 [vR (n + 60), vI 1, vI (if (6) < (va59_2 + 1) then (6) else (va59_2 + 1))])).set 61 (eO 0 [vR (n + 62), vR (n + 63), vI 0, vI 0, vI va2_4, vI va2_5, vI 0, vI va2_7, vI 0, vI (nI va2_9)])).set 62 (eI 120 g14)).set 63 (eI 144 g15))) (ls' := [some (vR (n + 0)), some (vI (nI j_a)), some (vI 0), some (vI (nI i0))]) (st' := []) rfl rfl rfl (seg ((va6), (va2_4), (va2_5), (va2_7), (va2_9), (1), (if (6) < (va59_2 + 1) then (6) else (va59_2 + 1)), (lf [0, 0, va2_4, va2_5, 0, va2_7, 0, nI va2_9]), (g14), (g15), (lf [va64 0, va64 1, va64 2, va64 3, va64 4, va64 5, va64 6, va64 7]), (va65), (va66), (lf [va67 0, va67 1, va67 2, va67 3, va67 4, va67 5, va67 6, va67 7]), (va68), (va69), (lf [va70 0, va70 1, va70 2, va70 3, va70 4, va70 5, va70 6, va70 7]), (va71), (va72), (lf [va73 0, va73 1, va73 2, va73 3, va73 4, va73 5, va73 6, va73 7]), (va74), (va75), (lf [va76 0, va76 1, va76 2, va76 3, va76 4, va76 5, va76 6, va76 7]), (va77), (va78)) (by omega))
        · refine r_eq (h' := h0 ++ (hga n va6 va2_4 va2_5 va2_7 va2_9 1 va59_2 va61 va62 va63 va64 va65 va66 va67 va68 va69 va70 va71 va72 va73 va74 va75 va76 va77 va78 ++ T)) rfl rfl rfl ?_
          refine r_iload_n X dX11_hours_49 rfl ?_
          refine r_iload_n X dX11_hours_50 rfl ?_
          refine r_icmp_ge_f (tgt := 92) X dX11_hours_51 rfl (nI_ge hi0 (by omega)) ?_
          refine r_iload_n X dX11_hours_54 rfl ?_
          refine r_iload_n X dX11_hours_55 rfl ?_
          refine r_isub X dX11_hours_56 ?_
          refine r_bipush (v := 6) X dX11_hours_57 (by decide +kernel) ?_
          refine r_icmp_gt (tgt := 76) X dX11_hours_59 rfl (fun q9 => ?_) (fun q9 => ?_)
          · exact r_eq (h' := h0 ++ (hga n va6 va2_4 va2_5 va2_7 va2_9 1 va59_2 va61 va62 va63 va64 va65 va66 va67 va68 va69 va70 va71 va72 va73 va74 va75 va76 va77 va78 ++ T)) (ls' := [some (vR (n + 0)), some (vI (nI j_a)), some (vI 0), some (vI (nI i0))]) (st' := []) rfl rfl rfl (seg ((va6), (va2_4), (va2_5), (va2_7), (va2_9), (1), (va59_2), (lf [va61 0, va61 1, va61 2, va61 3, va61 4, va61 5, va61 6, va61 7]), (va62), (va63), (lf [va64 0, va64 1, va64 2, va64 3, va64 4, va64 5, va64 6, va64 7]), (va65), (va66), (lf [va67 0, va67 1, va67 2, va67 3, va67 4, va67 5, va67 6, va67 7]), (va68), (va69), (lf [va70 0, va70 1, va70 2, va70 3, va70 4, va70 5, va70 6, va70 7]), (va71), (va72), (lf [va73 0, va73 1, va73 2, va73 3, va73 4, va73 5, va73 6, va73 7]), (va74), (va75), (lf [va76 0, va76 1, va76 2, va76 3, va76 4, va76 5, va76 6, va76 7]), (va77), (va78)) (by omega))
          · refine r_aload_n X dX11_hours_62 rfl ?_
            refine a_get (a := 0) X hn fg_X11_26 dX11_hours_63 rfl rfl ?_
            refine r_aload_n X dX11_hours_66 rfl ?_
            refine a_get (a := 0) X hn fg_X11_12 dX11_hours_67 rfl rfl ?_
            refine a_get (a := 1) X hn fg_X11_67 dX11_hours_70 rfl rfl ?_
            refine r_V1v X kv_X11_116 dX11_hours_73 (apG (k := 59) hn rfl) rfl (kh17_X7_keep l G _ _ hn _ _ _ _ _ _ _ _ _ _ _ _ _ _ _ _ _ _ _ _ _ _ _ _ _ (by omega)) rfl (fun h' hΨ => ?_)
            obtain ⟨g20, g21, rfl⟩ := hΨ
            exact r_eq (h' := h0 ++ (((((hga n va6 va2_4 va2_5 va2_7 va2_9 1 va59_2 va61 va62 va63 va64 va65 va66 va67 va68 va69 va70 va71 va72 va73 va74 va75 va76 va77 va78 ++ T).set 59 (eO 7 [vR (n + 60), vI 2, vI (if (6) < (va59_2 + 1) then (6) else (va59_2 + 1))])).set 64 (eO 0 [vR (n + 65), vR (n + 66), vI 0, vI 0, vI va2_4, vI va2_5, vI 0, vI va2_7, vI 0, vI (nI va2_9)])).set 65 (eI 120 g20)).set 66 (eI 144 g21))) (ls' := [some (vR (n + 0)), some (vI (nI j_a)), some (vI 0), some (vI (nI i0))]) (st' := []) rfl rfl rfl (seg ((va6), (va2_4), (va2_5), (va2_7), (va2_9), (2), (if (6) < (va59_2 + 1) then (6) else (va59_2 + 1)), (lf [va61 0, va61 1, va61 2, va61 3, va61 4, va61 5, va61 6, va61 7]), (va62), (va63), (lf [0, 0, va2_4, va2_5, 0, va2_7, 0, nI va2_9]), (g20), (g21), (lf [va67 0, va67 1, va67 2, va67 3, va67 4, va67 5, va67 6, va67 7]), (va68), (va69), (lf [va70 0, va70 1, va70 2, va70 3, va70 4, va70 5, va70 6, va70 7]), (va71), (va72), (lf [va73 0, va73 1, va73 2, va73 3, va73 4, va73 5, va73 6, va73 7]), (va74), (va75), (lf [va76 0, va76 1, va76 2, va76 3, va76 4, va76 5, va76 6, va76 7]), (va77), (va78)) (by omega))
        · refine r_eq (h' := h0 ++ (hga n va6 va2_4 va2_5 va2_7 va2_9 2 va59_2 va61 va62 va63 va64 va65 va66 va67 va68 va69 va70 va71 va72 va73 va74 va75 va76 va77 va78 ++ T)) rfl rfl rfl ?_
          refine r_iload_n X dX11_hours_49 rfl ?_
          refine r_iload_n X dX11_hours_50 rfl ?_
          refine r_icmp_ge_f (tgt := 92) X dX11_hours_51 rfl (nI_ge hi0 (by omega)) ?_
          refine r_iload_n X dX11_hours_54 rfl ?_
          refine r_iload_n X dX11_hours_55 rfl ?_
          refine r_isub X dX11_hours_56 ?_
          refine r_bipush (v := 6) X dX11_hours_57 (by decide +kernel) ?_
          refine r_icmp_gt (tgt := 76) X dX11_hours_59 rfl (fun q10 => ?_) (fun q10 => ?_)
          · exact r_eq (h' := h0 ++ (hga n va6 va2_4 va2_5 va2_7 va2_9 2 va59_2 va61 va62 va63 va64 va65 va66 va67 va68 va69 va70 va71 va72 va73 va74 va75 va76 va77 va78 ++ T)) (ls' := [some (vR (n + 0)), some (vI (nI j_a)), some (vI 0), some (vI (nI i0))]) (st' := []) rfl rfl rfl (seg ((va6), (va2_4), (va2_5), (va2_7), (va2_9), (2), (va59_2), (lf [va61 0, va61 1, va61 2, va61 3, va61 4, va61 5, va61 6, va61 7]), (va62), (va63), (lf [va64 0, va64 1, va64 2, va64 3, va64 4, va64 5, va64 6, va64 7]), (va65), (va66), (lf [va67 0, va67 1, va67 2, va67 3, va67 4, va67 5, va67 6, va67 7]), (va68), (va69), (lf [va70 0, va70 1, va70 2, va70 3, va70 4, va70 5, va70 6, va70 7]), (va71), (va72), (lf [va73 0, va73 1, va73 2, va73 3, va73 4, va73 5, va73 6, va73 7]), (va74), (va75), (lf [va76 0, va76 1, va76 2, va76 3, va76 4, va76 5, va76 6, va76 7]), (va77), (va78)) (by omega))
          · refine r_aload_n X dX11_hours_62 rfl ?_
            refine a_get (a := 0) X hn fg_X11_26 dX11_hours_63 rfl rfl ?_
            refine r_aload_n X dX11_hours_66 rfl ?_
            refine a_get (a := 0) X hn fg_X11_12 dX11_hours_67 rfl rfl ?_
            refine a_get (a := 1) X hn fg_X11_67 dX11_hours_70 rfl rfl ?_
            refine r_V1v X kv_X11_116 dX11_hours_73 (apG (k := 59) hn rfl) rfl (kh19_X7_keep l G _ _ hn _ _ _ _ _ _ _ _ _ _ _ _ _ _ _ _ _ _ _ _ _ _ _ _ _ (by omega)) rfl (fun h' hΨ => ?_)
            obtain ⟨g26, g27, rfl⟩ := hΨ
            exact r_eq (h' := h0 ++ (((((hga n va6 va2_4 va2_5 va2_7 va2_9 2 va59_2 va61 va62 va63 va64 va65 va66 va67 va68 va69 va70 va71 va72 va73 va74 va75 va76 va77 va78 ++ T).set 59 (eO 7 [vR (n + 60), vI 3, vI (if (6) < (va59_2 + 1) then (6) else (va59_2 + 1))])).set 67 (eO 0 [vR (n + 68), vR (n + 69), vI 0, vI 0, vI va2_4, vI va2_5, vI 0, vI va2_7, vI 0, vI (nI va2_9)])).set 68 (eI 120 g26)).set 69 (eI 144 g27))) (ls' := [some (vR (n + 0)), some (vI (nI j_a)), some (vI 0), some (vI (nI i0))]) (st' := []) rfl rfl rfl (seg ((va6), (va2_4), (va2_5), (va2_7), (va2_9), (3), (if (6) < (va59_2 + 1) then (6) else (va59_2 + 1)), (lf [va61 0, va61 1, va61 2, va61 3, va61 4, va61 5, va61 6, va61 7]), (va62), (va63), (lf [va64 0, va64 1, va64 2, va64 3, va64 4, va64 5, va64 6, va64 7]), (va65), (va66), (lf [0, 0, va2_4, va2_5, 0, va2_7, 0, nI va2_9]), (g26), (g27), (lf [va70 0, va70 1, va70 2, va70 3, va70 4, va70 5, va70 6, va70 7]), (va71), (va72), (lf [va73 0, va73 1, va73 2, va73 3, va73 4, va73 5, va73 6, va73 7]), (va74), (va75), (lf [va76 0, va76 1, va76 2, va76 3, va76 4, va76 5, va76 6, va76 7]), (va77), (va78)) (by omega))
        · refine r_eq (h' := h0 ++ (hga n va6 va2_4 va2_5 va2_7 va2_9 3 va59_2 va61 va62 va63 va64 va65 va66 va67 va68 va69 va70 va71 va72 va73 va74 va75 va76 va77 va78 ++ T)) rfl rfl rfl ?_
          refine r_iload_n X dX11_hours_49 rfl ?_
          refine r_iload_n X dX11_hours_50 rfl ?_
          refine r_icmp_ge_f (tgt := 92) X dX11_hours_51 rfl (nI_ge hi0 (by omega)) ?_
          refine r_iload_n X dX11_hours_54 rfl ?_
          refine r_iload_n X dX11_hours_55 rfl ?_
          refine r_isub X dX11_hours_56 ?_
          refine r_bipush (v := 6) X dX11_hours_57 (by decide +kernel) ?_
          refine r_icmp_gt (tgt := 76) X dX11_hours_59 rfl (fun q11 => ?_) (fun q11 => ?_)
          · exact r_eq (h' := h0 ++ (hga n va6 va2_4 va2_5 va2_7 va2_9 3 va59_2 va61 va62 va63 va64 va65 va66 va67 va68 va69 va70 va71 va72 va73 va74 va75 va76 va77 va78 ++ T)) (ls' := [some (vR (n + 0)), some (vI (nI j_a)), some (vI 0), some (vI (nI i0))]) (st' := []) rfl rfl rfl (seg ((va6), (va2_4), (va2_5), (va2_7), (va2_9), (3), (va59_2), (lf [va61 0, va61 1, va61 2, va61 3, va61 4, va61 5, va61 6, va61 7]), (va62), (va63), (lf [va64 0, va64 1, va64 2, va64 3, va64 4, va64 5, va64 6, va64 7]), (va65), (va66), (lf [va67 0, va67 1, va67 2, va67 3, va67 4, va67 5, va67 6, va67 7]), (va68), (va69), (lf [va70 0, va70 1, va70 2, va70 3, va70 4, va70 5, va70 6, va70 7]), (va71), (va72), (lf [va73 0, va73 1, va73 2, va73 3, va73 4, va73 5, va73 6, va73 7]), (va74), (va75), (lf [va76 0, va76 1, va76 2, va76 3, va76 4, va76 5, va76 6, va76 7]), (va77), (va78)) (by omega))
          · refine r_aload_n X dX11_hours_62 rfl ?_
            refine a_get (a := 0) X hn fg_X11_26 dX11_hours_63 rfl rfl ?_
            refine r_aload_n X dX11_hours_66 rfl ?_
            refine a_get (a := 0) X hn fg_X11_12 dX11_hours_67 rfl rfl ?_
            refine a_get (a := 1) X hn fg_X11_67 dX11_hours_70 rfl rfl ?_
            refine r_V1v X kv_X11_116 dX11_hours_73 (apG (k := 59) hn rfl) rfl (kh21_X7_keep l G _ _ hn _ _ _ _ _ _ _ _ _ _ _ _ _ _ _ _ _ _ _ _ _ _ _ _ _ (by omega)) rfl (fun h' hΨ => ?_)
            obtain ⟨g32, g33, rfl⟩ := hΨ
            exact r_eq (h' := h0 ++ (((((hga n va6 va2_4 va2_5 va2_7 va2_9 3 va59_2 va61 va62 va63 va64 va65 va66 va67 va68 va69 va70 va71 va72 va73 va74 va75 va76 va77 va78 ++ T).set 59 (eO 7 [vR (n + 60), vI 4, vI (if (6) < (va59_2 + 1) then (6) else (va59_2 + 1))])).set 70 (eO 0 [vR (n + 71), vR (n + 72), vI 0, vI 0, vI va2_4, vI va2_5, vI 0, vI va2_7, vI 0, vI (nI va2_9)])).set 71 (eI 120 g32)).set 72 (eI 144 g33))) (ls' := [some (vR (n + 0)), some (vI (nI j_a)), some (vI 0), some (vI (nI i0))]) (st' := []) rfl rfl rfl (seg ((va6), (va2_4), (va2_5), (va2_7), (va2_9), (4), (if (6) < (va59_2 + 1) then (6) else (va59_2 + 1)), (lf [va61 0, va61 1, va61 2, va61 3, va61 4, va61 5, va61 6, va61 7]), (va62), (va63), (lf [va64 0, va64 1, va64 2, va64 3, va64 4, va64 5, va64 6, va64 7]), (va65), (va66), (lf [va67 0, va67 1, va67 2, va67 3, va67 4, va67 5, va67 6, va67 7]), (va68), (va69), (lf [0, 0, va2_4, va2_5, 0, va2_7, 0, nI va2_9]), (g32), (g33), (lf [va73 0, va73 1, va73 2, va73 3, va73 4, va73 5, va73 6, va73 7]), (va74), (va75), (lf [va76 0, va76 1, va76 2, va76 3, va76 4, va76 5, va76 6, va76 7]), (va77), (va78)) (by omega))
        · refine r_eq (h' := h0 ++ (hga n va6 va2_4 va2_5 va2_7 va2_9 4 va59_2 va61 va62 va63 va64 va65 va66 va67 va68 va69 va70 va71 va72 va73 va74 va75 va76 va77 va78 ++ T)) rfl rfl rfl ?_
          refine r_iload_n X dX11_hours_49 rfl ?_
          refine r_iload_n X dX11_hours_50 rfl ?_
          refine r_icmp_ge_f (tgt := 92) X dX11_hours_51 rfl (nI_ge hi0 (by omega)) ?_
          refine r_iload_n X dX11_hours_54 rfl ?_
          refine r_iload_n X dX11_hours_55 rfl ?_
          refine r_isub X dX11_hours_56 ?_
          refine r_bipush (v := 6) X dX11_hours_57 (by decide +kernel) ?_
          refine r_icmp_gt (tgt := 76) X dX11_hours_59 rfl (fun q12 => ?_) (fun q12 => ?_)
          · exact r_eq (h' := h0 ++ (hga n va6 va2_4 va2_5 va2_7 va2_9 4 va59_2 va61 va62 va63 va64 va65 va66 va67 va68 va69 va70 va71 va72 va73 va74 va75 va76 va77 va78 ++ T)) (ls' := [some (vR (n + 0)), some (vI (nI j_a)), some (vI 0), some (vI (nI i0))]) (st' := []) rfl rfl rfl (seg ((va6), (va2_4), (va2_5), (va2_7), (va2_9), (4), (va59_2), (lf [va61 0, va61 1, va61 2, va61 3, va61 4, va61 5, va61 6, va61 7]), (va62), (va63), (lf [va64 0, va64 1, va64 2, va64 3, va64 4, va64 5, va64 6, va64 7]), (va65), (va66), (lf [va67 0, va67 1, va67 2, va67 3, va67 4, va67 5, va67 6, va67 7]), (va68), (va69), (lf [va70 0, va70 1, va70 2, va70 3, va70 4, va70 5, va70 6, va70 7]), (va71), (va72), (lf [va73 0, va73 1, va73 2, va73 3, va73 4, va73 5, va73 6, va73 7]), (va74), (va75), (lf [va76 0, va76 1, va76 2, va76 3, va76 4, va76 5, va76 6, va76 7]), (va77), (va78)) (by omega))
          · refine r_aload_n X dX11_hours_62 rfl ?_
            refine a_get (a := 0) X hn fg_X11_26 dX11_hours_63 rfl rfl ?_
            refine r_aload_n X dX11_hours_66 rfl ?_
            refine a_get (a := 0) X hn fg_X11_12 dX11_hours_67 rfl rfl ?_
            refine a_get (a := 1) X hn fg_X11_67 dX11_hours_70 rfl rfl ?_
            refine r_V1v X kv_X11_116 dX11_hours_73 (apG (k := 59) hn rfl) rfl (kh23_X7_keep l G _ _ hn _ _ _ _ _ _ _ _ _ _ _ _ _ _ _ _ _ _ _ _ _ _ _ _ _ (by omega)) rfl (fun h' hΨ => ?_)
            obtain ⟨g38, g39, rfl⟩ := hΨ
            exact r_eq (h' := h0 ++ (((((hga n va6 va2_4 va2_5 va2_7 va2_9 4 va59_2 va61 va62 va63 va64 va65 va66 va67 va68 va69 va70 va71 va72 va73 va74 va75 va76 va77 va78 ++ T).set 59 (eO 7 [vR (n + 60), vI 5, vI (if (6) < (va59_2 + 1) then (6) else (va59_2 + 1))])).set 73 (eO 0 [vR (n + 74), vR (n + 75), vI 0, vI 0, vI va2_4, vI va2_5, vI 0, vI va2_7, vI 0, vI (nI va2_9)])).set 74 (eI 120 g38)).set 75 (eI 144 g39))) (ls' := [some (vR (n + 0)), some (vI (nI j_a)), some (vI 0), some (vI (nI i0))]) (st' := []) rfl rfl rfl (seg ((va6), (va2_4), (va2_5), (va2_7), (va2_9), (5), (if (6) < (va59_2 + 1) then (6) else (va59_2 + 1)), (lf [va61 0, va61 1, va61 2, va61 3, va61 4, va61 5, va61 6, va61 7]), (va62), (va63), (lf [va64 0, va64 1, va64 2, va64 3, va64 4, va64 5, va64 6, va64 7]), (va65), (va66), (lf [va67 0, va67 1, va67 2, va67 3, va67 4, va67 5, va67 6, va67 7]), (va68), (va69), (lf [va70 0, va70 1, va70 2, va70 3, va70 4, va70 5, va70 6, va70 7]), (va71), (va72), (lf [0, 0, va2_4, va2_5, 0, va2_7, 0, nI va2_9]), (g38), (g39), (lf [va76 0, va76 1, va76 2, va76 3, va76 4, va76 5, va76 6, va76 7]), (va77), (va78)) (by omega))
        · refine r_eq (h' := h0 ++ (hga n va6 va2_4 va2_5 va2_7 va2_9 5 va59_2 va61 va62 va63 va64 va65 va66 va67 va68 va69 va70 va71 va72 va73 va74 va75 va76 va77 va78 ++ T)) rfl rfl rfl ?_
          refine r_iload_n X dX11_hours_49 rfl ?_
          refine r_iload_n X dX11_hours_50 rfl ?_
          refine r_icmp_ge_f (tgt := 92) X dX11_hours_51 rfl (nI_ge hi0 (by omega)) ?_
          refine r_iload_n X dX11_hours_54 rfl ?_
          refine r_iload_n X dX11_hours_55 rfl ?_
          refine r_isub X dX11_hours_56 ?_
          refine r_bipush (v := 6) X dX11_hours_57 (by decide +kernel) ?_
          refine r_icmp_gt (tgt := 76) X dX11_hours_59 rfl (fun q13 => ?_) (fun q13 => ?_)
          · exact r_eq (h' := h0 ++ (hga n va6 va2_4 va2_5 va2_7 va2_9 5 va59_2 va61 va62 va63 va64 va65 va66 va67 va68 va69 va70 va71 va72 va73 va74 va75 va76 va77 va78 ++ T)) (ls' := [some (vR (n + 0)), some (vI (nI j_a)), some (vI 0), some (vI (nI i0))]) (st' := []) rfl rfl rfl (seg ((va6), (va2_4), (va2_5), (va2_7), (va2_9), (5), (va59_2), (lf [va61 0, va61 1, va61 2, va61 3, va61 4, va61 5, va61 6, va61 7]), (va62), (va63), (lf [va64 0, va64 1, va64 2, va64 3, va64 4, va64 5, va64 6, va64 7]), (va65), (va66), (lf [va67 0, va67 1, va67 2, va67 3, va67 4, va67 5, va67 6, va67 7]), (va68), (va69), (lf [va70 0, va70 1, va70 2, va70 3, va70 4, va70 5, va70 6, va70 7]), (va71), (va72), (lf [va73 0, va73 1, va73 2, va73 3, va73 4, va73 5, va73 6, va73 7]), (va74), (va75), (lf [va76 0, va76 1, va76 2, va76 3, va76 4, va76 5, va76 6, va76 7]), (va77), (va78)) (by omega))
          · refine r_aload_n X dX11_hours_62 rfl ?_
            refine a_get (a := 0) X hn fg_X11_26 dX11_hours_63 rfl rfl ?_
            refine r_aload_n X dX11_hours_66 rfl ?_
            refine a_get (a := 0) X hn fg_X11_12 dX11_hours_67 rfl rfl ?_
            refine a_get (a := 1) X hn fg_X11_67 dX11_hours_70 rfl rfl ?_
            refine r_V1v X kv_X11_116 dX11_hours_73 (apG (k := 59) hn rfl) rfl (kh25_X7_keep l G _ _ hn _ _ _ _ _ _ _ _ _ _ _ _ _ _ _ _ _ _ _ _ _ _ _ _ _ (by omega)) rfl (fun h' hΨ => ?_)
            obtain ⟨g44, g45, rfl⟩ := hΨ
            exact r_eq (h' := h0 ++ (((((hga n va6 va2_4 va2_5 va2_7 va2_9 5 va59_2 va61 va62 va63 va64 va65 va66 va67 va68 va69 va70 va71 va72 va73 va74 va75 va76 va77 va78 ++ T).set 59 (eO 7 [vR (n + 60), vI 0, vI (if (6) < (va59_2 + 1) then (6) else (va59_2 + 1))])).set 76 (eO 0 [vR (n + 77), vR (n + 78), vI 0, vI 0, vI va2_4, vI va2_5, vI 0, vI va2_7, vI 0, vI (nI va2_9)])).set 77 (eI 120 g44)).set 78 (eI 144 g45))) (ls' := [some (vR (n + 0)), some (vI (nI j_a)), some (vI 0), some (vI (nI i0))]) (st' := []) rfl rfl rfl (seg ((va6), (va2_4), (va2_5), (va2_7), (va2_9), (0), (if (6) < (va59_2 + 1) then (6) else (va59_2 + 1)), (lf [va61 0, va61 1, va61 2, va61 3, va61 4, va61 5, va61 6, va61 7]), (va62), (va63), (lf [va64 0, va64 1, va64 2, va64 3, va64 4, va64 5, va64 6, va64 7]), (va65), (va66), (lf [va67 0, va67 1, va67 2, va67 3, va67 4, va67 5, va67 6, va67 7]), (va68), (va69), (lf [va70 0, va70 1, va70 2, va70 3, va70 4, va70 5, va70 6, va70 7]), (va71), (va72), (lf [va73 0, va73 1, va73 2, va73 3, va73 4, va73 5, va73 6, va73 7]), (va74), (va75), (lf [0, 0, va2_4, va2_5, 0, va2_7, 0, nI va2_9]), (g44), (g45)) (by omega))
