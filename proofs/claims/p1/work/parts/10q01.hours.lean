set_option maxRecDepth 100000 in
set_option maxHeartbeats 4000000 in
theorem kh7_X1_note (l : Launch) (G : PG) (h0 : PH) (n : Nat) (hn : h0.length = n) (T : PH) (vas2_4 vas2_5 vas2_7 vas59_2 : Int32) (vas6 : Nat → Int32) (vas61 : Nat → Int32) (vas62 : Nat → Int32) (vas63 : Nat → Int32) (vas64 : Nat → Int32) (vas65 : Nat → Int32) (vas66 : Nat → Int32) (vas67 : Nat → Int32) (vas68 : Nat → Int32) (vas69 : Nat → Int32) (vas70 : Nat → Int32) (vas71 : Nat → Int32) (vas72 : Nat → Int32) (vas73 : Nat → Int32) (vas74 : Nat → Int32) (vas75 : Nat → Int32) (vas76 : Nat → Int32) (vas77 : Nat → Int32) (vas78 : Nat → Int32) (vas2_9 : Nat) (hvas2_9 : vas2_9 ≤ 150) (vas59_1 : Nat) (hvas59_1 : vas59_1 ≤ 5) : PMet l G yX1_note cX1_note 4 none 1 0 0 [vR (n + 95), vI 4, vI ((-1)), vI 0] (h0 ++ ((hgas n vas6 vas2_4 vas2_5 vas2_7 vas2_9 vas59_1 vas59_2 vas61 vas62 vas63 vas64 vas65 vas66 vas67 vas68 vas69 vas70 vas71 vas72 vas73 vas74 vas75 vas76 vas77 vas78 ++ T).set 2 (eO 0 [vR (n + 3), vR (n + 4), vI 0, vI 0, vI vas2_4, vI vas2_5, vI 0, vI (vas2_7 + 1), vI 0, vI (nI vas2_9)]))) (qV (fun h' => (∃ g6 : Nat → Int32, ((nI (vas2_9)) < 150) ∧ h' = h0 ++ (((hgas n vas6 vas2_4 vas2_5 vas2_7 vas2_9 vas59_1 vas59_2 vas61 vas62 vas63 vas64 vas65 vas66 vas67 vas68 vas69 vas70 vas71 vas72 vas73 vas74 vas75 vas76 vas77 vas78 ++ T).set 2 (eO 0 [vR (n + 3), vR (n + 4), vI 0, vI 0, vI vas2_4, vI vas2_5, vI 0, vI (vas2_7 + 1), vI 0, vI (nI ((vas2_9) + 1))])).set 6 (eI 750 g6))) ∨ ((¬ (nI (vas2_9)) < 150) ∧ h' = h0 ++ ((hgas n vas6 vas2_4 vas2_5 vas2_7 vas2_9 vas59_1 vas59_2 vas61 vas62 vas63 vas64 vas65 vas66 vas67 vas68 vas69 vas70 vas71 vas72 vas73 vas74 vas75 vas76 vas77 vas78 ++ T).set 2 (eO 0 [vR (n + 3), vR (n + 4), vI 0, vI 0, vI vas2_4, vI vas2_5, vI 0, vI (vas2_7 + 1), vI 0, vI (nI (vas2_9))]))))) := by
  refine PMet.intro (by decide) (Nat.le_of_ble_eq_true rfl) ?_
  intro p e s m args below meth c X hr hlk hnm
  refine r_aload_n X dX1_note_0 rfl ?_
  refine a_get (a := 95) X hn fg_X1_29 dX1_note_1 rfl rfl ?_
  refine r_ifnull_r X dX1_note_4 ?_
  refine r_aload_n X dX1_note_7 rfl ?_
  refine a_get (a := 95) X hn fg_X1_21 dX1_note_8 rfl rfl ?_
  refine r_aload_n X dX1_note_11 rfl ?_
  refine a_get (a := 95) X hn fg_X1_29 dX1_note_12 rfl rfl ?_
  refine r_aload_n X dX1_note_15 rfl ?_
  refine a_get (a := 95) X hn fg_X1_21 dX1_note_16 rfl rfl ?_
  refine a_get (a := 2) X hn fg_X1_166 dX1_note_19 rfl rfl ?_
  refine r_aload_n X dX1_note_22 rfl ?_
  refine a_get (a := 95) X hn fg_X1_21 dX1_note_23 rfl rfl ?_
  refine r_iload_n X dX1_note_26 rfl ?_
  refine r_iload_n X dX1_note_27 rfl ?_
  refine r_iload_n X dX1_note_28 rfl ?_
  refine r_V5i X kv_X1_167 dX1_note_29 (apG (k := 5) hn rfl) rfl (kh6_X3_write l G _ _ hn _ _ _ _ _ _ _ _ _ _ _ _ _ _ _ _ _ _ _ _ _ _ _ _ _ (by omega) _ (by omega) _ (by omega)) rfl (fun x h' hΨ => ?_)
  rcases hΨ with ⟨g6, q1, rfl, rfl⟩ | ⟨q2, rfl, rfl⟩
  · have nq1 : (vas2_9) < 150 := by have e0 : (150 : Int32).toInt = 150 := (by decide); have e1 : (nI (vas2_9)).toInt = (((vas2_9) : Nat) : Int) := toN (rfl) (by omega); simp only [Int32.lt_iff_toInt_lt, Int32.le_iff_toInt_le, ← Int32.toInt_inj] at q1 ⊢; omega
    refine a_put (a := 2) X hn fp_X1_166 dX1_note_32 rfl rfl rfl rfl ?_
    refine r_eq (h' := h0 ++ (((hgas n vas6 vas2_4 vas2_5 vas2_7 vas2_9 vas59_1 vas59_2 vas61 vas62 vas63 vas64 vas65 vas66 vas67 vas68 vas69 vas70 vas71 vas72 vas73 vas74 vas75 vas76 vas77 vas78 ++ T).set 2 (eO 0 [vR (n + 3), vR (n + 4), vI 0, vI 0, vI vas2_4, vI vas2_5, vI 0, vI (vas2_7 + 1), vI 0, vI (nI ((vas2_9) + 1))])).set 6 (eI 750 g6))) rfl rfl rfl ?_
    exact r_ret_v X hr hlk dX1_note_35 (Nat.le_of_ble_eq_true rfl) (Nat.le_of_ble_eq_true rfl) ⟨rfl, Or.inl ⟨_, q1, rfl⟩⟩
  · have nq2 : ¬ ((vas2_9) < 150) := by have e0 : (150 : Int32).toInt = 150 := (by decide); have e1 : (nI (vas2_9)).toInt = (((vas2_9) : Nat) : Int) := toN (rfl) (by omega); simp only [Int32.lt_iff_toInt_lt, Int32.le_iff_toInt_le, ← Int32.toInt_inj] at q2 ⊢; omega
    refine a_put (a := 2) X hn fp_X1_166 dX1_note_32 rfl rfl rfl rfl ?_
    refine r_eq (h' := h0 ++ ((hgas n vas6 vas2_4 vas2_5 vas2_7 vas2_9 vas59_1 vas59_2 vas61 vas62 vas63 vas64 vas65 vas66 vas67 vas68 vas69 vas70 vas71 vas72 vas73 vas74 vas75 vas76 vas77 vas78 ++ T).set 2 (eO 0 [vR (n + 3), vR (n + 4), vI 0, vI 0, vI vas2_4, vI vas2_5, vI 0, vI (vas2_7 + 1), vI 0, vI (nI (vas2_9))]))) rfl rfl rfl ?_
    exact r_ret_v X hr hlk dX1_note_35 (Nat.le_of_ble_eq_true rfl) (Nat.le_of_ble_eq_true rfl) ⟨rfl, Or.inr (⟨q2, rfl⟩)⟩
set_option maxRecDepth 100000 in
set_option maxHeartbeats 4000000 in
theorem kh8_J7_fill_53178 (l : Launch) (G : PG) (h0 : PH) (n : Nat) (hn : h0.length = n) (T : PH) (vas2_4 vas2_5 vas2_7 vas59_2 : Int32) (g7 : Nat → Int32) (vas6 : Nat → Int32) (vas61 : Nat → Int32) (vas62 : Nat → Int32) (vas63 : Nat → Int32) (vas64 : Nat → Int32) (vas65 : Nat → Int32) (vas66 : Nat → Int32) (vas67 : Nat → Int32) (vas68 : Nat → Int32) (vas69 : Nat → Int32) (vas70 : Nat → Int32) (vas71 : Nat → Int32) (vas72 : Nat → Int32) (vas73 : Nat → Int32) (vas74 : Nat → Int32) (vas75 : Nat → Int32) (vas76 : Nat → Int32) (vas77 : Nat → Int32) (vas78 : Nat → Int32) (vas2_9 : Nat) (hvas2_9 : vas2_9 ≤ 149) (vas59_1 : Nat) (hvas59_1 : vas59_1 ≤ 5) : PMet l G yJ7_fill_53178 cJ7_fill_53178 4 none 0 0 0 [vR (n + 4), vI 0] (h0 ++ (((hgas n vas6 vas2_4 vas2_5 vas2_7 vas2_9 vas59_1 vas59_2 vas61 vas62 vas63 vas64 vas65 vas66 vas67 vas68 vas69 vas70 vas71 vas72 vas73 vas74 vas75 vas76 vas77 vas78 ++ T).set 2 (eO 0 [vR (n + 3), vR (n + 4), vI 0, vI 0, vI vas2_4, vI vas2_5, vI 0, vI (vas2_7 + 1), vI 0, vI (nI ((vas2_9) + 1))])).set 6 (eI 750 g7))) (qV (fun h' => h' = h0 ++ (((hgas n vas6 vas2_4 vas2_5 vas2_7 vas2_9 vas59_1 vas59_2 vas61 vas62 vas63 vas64 vas65 vas66 vas67 vas68 vas69 vas70 vas71 vas72 vas73 vas74 vas75 vas76 vas77 vas78 ++ T).set 2 (eO 0 [vR (n + 3), vR (n + 4), vI 0, vI 0, vI vas2_4, vI vas2_5, vI 0, vI (vas2_7 + 1), vI 0, vI (nI ((vas2_9) + 1))])).set 6 (eI 750 g7)))) := by
  refine PMet.intro (by decide) (Nat.le_of_ble_eq_true rfl) ?_
  intro p e s m args below meth c X hr hlk hnm
  refine r_iconst (v := 0) X dJ7_fill_53178_0 (by decide +kernel) ?_
  refine r_istore_n X dJ7_fill_53178_1 (by decide) ?_
  refine r_aload_n X dJ7_fill_53178_2 rfl ?_
  refine a_alen (a := 4) (v := 144) X hn dJ7_fill_53178_3 rfl (by decide +kernel) ?_
  refine r_istore_n X dJ7_fill_53178_4 (by decide) ?_
  refine r_eq (h' := h0 ++ (((hgas n vas6 vas2_4 vas2_5 vas2_7 vas2_9 vas59_1 vas59_2 vas61 vas62 vas63 vas64 vas65 vas66 vas67 vas68 vas69 vas70 vas71 vas72 vas73 vas74 vas75 vas76 vas77 vas78 ++ T).set 2 (eO 0 [vR (n + 3), vR (n + 4), vI 0, vI 0, vI vas2_4, vI vas2_5, vI 0, vI (vas2_7 + 1), vI 0, vI (nI ((vas2_9) + 1))])).set 6 (eI 750 g7))) (ls' := [some (vR (n + 4)), some (vI 0), some (vI (nI 0)), some (vI 144)]) rfl rfl rfl ?_
  refine pw_loop1 144 (fun i0 => h0 ++ (((hgas n vas6 vas2_4 vas2_5 vas2_7 vas2_9 vas59_1 vas59_2 vas61 vas62 vas63 vas64 vas65 vas66 vas67 vas68 vas69 vas70 vas71 vas72 vas73 vas74 vas75 vas76 vas77 vas78 ++ T).set 2 (eO 0 [vR (n + 3), vR (n + 4), vI 0, vI 0, vI vas2_4, vI vas2_5, vI 0, vI (vas2_7 + 1), vI 0, vI (nI ((vas2_9) + 1))])).set 6 (eI 750 g7))) (fun i0 => [some (vR (n + 4)), some (vI 0), some (vI (nI i0)), some (vI 144)]) ?_ ?_ 0 (by omega)
  · refine r_eq (h' := h0 ++ (((hgas n vas6 vas2_4 vas2_5 vas2_7 vas2_9 vas59_1 vas59_2 vas61 vas62 vas63 vas64 vas65 vas66 vas67 vas68 vas69 vas70 vas71 vas72 vas73 vas74 vas75 vas76 vas77 vas78 ++ T).set 2 (eO 0 [vR (n + 3), vR (n + 4), vI 0, vI 0, vI vas2_4, vI vas2_5, vI 0, vI (vas2_7 + 1), vI 0, vI (nI ((vas2_9) + 1))])).set 6 (eI 750 g7))) (ls' := [some (vR (n + 4)), some (vI 0), some (vI (nI 144)), some (vI 144)]) rfl rfl rfl ?_
    refine r_iload_n X dJ7_fill_53178_5 rfl ?_
    refine r_iload_n X dJ7_fill_53178_6 rfl ?_
    refine r_icmp_ge_t (tgt := 20) X dJ7_fill_53178_7 rfl (by decide +kernel) ?_
    exact r_ret_v X hr hlk dJ7_fill_53178_20 (Nat.le_of_ble_eq_true rfl) (Nat.le_of_ble_eq_true rfl) ⟨rfl, rfl⟩
  · rintro i0 hi0 ih0 
    refine r_eq (h' := h0 ++ (((hgas n vas6 vas2_4 vas2_5 vas2_7 vas2_9 vas59_1 vas59_2 vas61 vas62 vas63 vas64 vas65 vas66 vas67 vas68 vas69 vas70 vas71 vas72 vas73 vas74 vas75 vas76 vas77 vas78 ++ T).set 2 (eO 0 [vR (n + 3), vR (n + 4), vI 0, vI 0, vI vas2_4, vI vas2_5, vI 0, vI (vas2_7 + 1), vI 0, vI (nI ((vas2_9) + 1))])).set 6 (eI 750 g7))) (ls' := [some (vR (n + 4)), some (vI 0), some (vI (nI i0)), some (vI 144)]) rfl rfl rfl ?_
    refine r_iload_n X dJ7_fill_53178_5 rfl ?_
    refine r_iload_n X dJ7_fill_53178_6 rfl ?_
    refine r_icmp_ge_f (tgt := 20) X dJ7_fill_53178_7 rfl (by have e0 : (144 : Int32).toInt = 144 := (by decide); have e1 : (nI i0).toInt = ((i0 : Nat) : Int) := toN (rfl) (by omega); simp only [Int32.lt_iff_toInt_lt, Int32.le_iff_toInt_le, ← Int32.toInt_inj] at  ⊢; omega) ?_
    refine r_aload_n X dJ7_fill_53178_10 rfl ?_
    refine r_iload_n X dJ7_fill_53178_11 rfl ?_
    refine r_iload_n X dJ7_fill_53178_12 rfl ?_
    refine a_iastE (a := 4) (f' := fun _ => 0) X hn dJ7_fill_53178_13 rfl (vin (k := i0) (rfl) (by omega) (by decide)) (upd_c _ _) ?_
    refine r_eq (h' := h0 ++ (((hgas n vas6 vas2_4 vas2_5 vas2_7 vas2_9 vas59_1 vas59_2 vas61 vas62 vas63 vas64 vas65 vas66 vas67 vas68 vas69 vas70 vas71 vas72 vas73 vas74 vas75 vas76 vas77 vas78 ++ T).set 2 (eO 0 [vR (n + 3), vR (n + 4), vI 0, vI 0, vI vas2_4, vI vas2_5, vI 0, vI (vas2_7 + 1), vI 0, vI (nI ((vas2_9) + 1))])).set 6 (eI 750 g7))) rfl rfl rfl ?_
    refine r_iinc (v := nI (i0 + 1)) X dJ7_fill_53178_14 rfl (nadd (rfl) rfl) (by decide) ?_
    refine r_goto (tgt := 5) X dJ7_fill_53178_17 rfl ?_
    exact r_eq (h' := h0 ++ (((hgas n vas6 vas2_4 vas2_5 vas2_7 vas2_9 vas59_1 vas59_2 vas61 vas62 vas63 vas64 vas65 vas66 vas67 vas68 vas69 vas70 vas71 vas72 vas73 vas74 vas75 vas76 vas77 vas78 ++ T).set 2 (eO 0 [vR (n + 3), vR (n + 4), vI 0, vI 0, vI vas2_4, vI vas2_5, vI 0, vI (vas2_7 + 1), vI 0, vI (nI ((vas2_9) + 1))])).set 6 (eI 750 g7))) (ls' := [some (vR (n + 4)), some (vI 0), some (vI (nI (i0 + 1))), some (vI 144)]) (st' := []) rfl rfl rfl (ih0)
set_option maxRecDepth 100000 in
set_option maxHeartbeats 4000000 in
theorem kh9_X0_takeAllMarks (l : Launch) (G : PG) (h0 : PH) (n : Nat) (hn : h0.length = n) (T : PH) (vas2_4 vas2_5 vas2_7 vas59_2 : Int32) (g7 : Nat → Int32) (vas6 : Nat → Int32) (vas61 : Nat → Int32) (vas62 : Nat → Int32) (vas63 : Nat → Int32) (vas64 : Nat → Int32) (vas65 : Nat → Int32) (vas66 : Nat → Int32) (vas67 : Nat → Int32) (vas68 : Nat → Int32) (vas69 : Nat → Int32) (vas70 : Nat → Int32) (vas71 : Nat → Int32) (vas72 : Nat → Int32) (vas73 : Nat → Int32) (vas74 : Nat → Int32) (vas75 : Nat → Int32) (vas76 : Nat → Int32) (vas77 : Nat → Int32) (vas78 : Nat → Int32) (vas2_9 : Nat) (hvas2_9 : vas2_9 ≤ 149) (vas59_1 : Nat) (hvas59_1 : vas59_1 ≤ 5) : PMet l G yX0_takeAllMarks cX0_takeAllMarks 1 none 1 0 0 [vR (n + 2)] (h0 ++ (((hgas n vas6 vas2_4 vas2_5 vas2_7 vas2_9 vas59_1 vas59_2 vas61 vas62 vas63 vas64 vas65 vas66 vas67 vas68 vas69 vas70 vas71 vas72 vas73 vas74 vas75 vas76 vas77 vas78 ++ T).set 2 (eO 0 [vR (n + 3), vR (n + 4), vI 0, vI 0, vI vas2_4, vI vas2_5, vI 0, vI (vas2_7 + 1), vI 0, vI (nI ((vas2_9) + 1))])).set 6 (eI 750 g7))) (qV (fun h' => h' = h0 ++ (((hgas n vas6 vas2_4 vas2_5 vas2_7 vas2_9 vas59_1 vas59_2 vas61 vas62 vas63 vas64 vas65 vas66 vas67 vas68 vas69 vas70 vas71 vas72 vas73 vas74 vas75 vas76 vas77 vas78 ++ T).set 2 (eO 0 [vR (n + 3), vR (n + 4), vI 0, vI 0, vI vas2_4, vI vas2_5, vI 0, vI (vas2_7 + 1), vI 0, vI (nI ((vas2_9) + 1))])).set 6 (eI 750 g7)))) := by
  refine PMet.intro (by decide) (Nat.le_of_ble_eq_true rfl) ?_
  intro p e s m args below meth c X hr hlk hnm
  refine r_aload_n X dX0_takeAllMarks_0 rfl ?_
  refine a_get (a := 2) X hn fg_X0_15 dX0_takeAllMarks_1 rfl rfl ?_
  refine r_iconst (v := 0) X dX0_takeAllMarks_4 (by decide +kernel) ?_
  refine r_S2v X ks_X0_80 dX0_takeAllMarks_5 (kh8_J7_fill_53178 l G _ _ hn _ _ _ _ _ _ _ _ _ _ _ _ _ _ _ _ _ _ _ _ _ _ _ _ _ _ (by omega) _ (by omega)) rfl (fun h' hΨ => ?_)
  obtain rfl := hΨ
  exact r_ret_v X hr hlk dX0_takeAllMarks_8 (Nat.le_of_ble_eq_true rfl) (Nat.le_of_ble_eq_true rfl) ⟨rfl, rfl⟩
set_option maxRecDepth 100000 in
set_option maxHeartbeats 4000000 in
theorem kh10_J7_fill_53178 (l : Launch) (G : PG) (h0 : PH) (n : Nat) (hn : h0.length = n) (T : PH) (vas2_4 vas2_5 vas2_7 vas59_2 : Int32) (vas6 : Nat → Int32) (vas61 : Nat → Int32) (vas62 : Nat → Int32) (vas63 : Nat → Int32) (vas64 : Nat → Int32) (vas65 : Nat → Int32) (vas66 : Nat → Int32) (vas67 : Nat → Int32) (vas68 : Nat → Int32) (vas69 : Nat → Int32) (vas70 : Nat → Int32) (vas71 : Nat → Int32) (vas72 : Nat → Int32) (vas73 : Nat → Int32) (vas74 : Nat → Int32) (vas75 : Nat → Int32) (vas76 : Nat → Int32) (vas77 : Nat → Int32) (vas78 : Nat → Int32) (vas2_9 : Nat) (hvas2_9 : vas2_9 ≤ 150) (vas59_1 : Nat) (hvas59_1 : vas59_1 ≤ 5) : PMet l G yJ7_fill_53178 cJ7_fill_53178 4 none 0 0 0 [vR (n + 4), vI 0] (h0 ++ ((hgas n vas6 vas2_4 vas2_5 vas2_7 vas2_9 vas59_1 vas59_2 vas61 vas62 vas63 vas64 vas65 vas66 vas67 vas68 vas69 vas70 vas71 vas72 vas73 vas74 vas75 vas76 vas77 vas78 ++ T).set 2 (eO 0 [vR (n + 3), vR (n + 4), vI 0, vI 0, vI vas2_4, vI vas2_5, vI 0, vI (vas2_7 + 1), vI 0, vI (nI (vas2_9))]))) (qV (fun h' => h' = h0 ++ ((hgas n vas6 vas2_4 vas2_5 vas2_7 vas2_9 vas59_1 vas59_2 vas61 vas62 vas63 vas64 vas65 vas66 vas67 vas68 vas69 vas70 vas71 vas72 vas73 vas74 vas75 vas76 vas77 vas78 ++ T).set 2 (eO 0 [vR (n + 3), vR (n + 4), vI 0, vI 0, vI vas2_4, vI vas2_5, vI 0, vI (vas2_7 + 1), vI 0, vI (nI (vas2_9))])))) := by
  refine PMet.intro (by decide) (Nat.le_of_ble_eq_true rfl) ?_
  intro p e s m args below meth c X hr hlk hnm
  refine r_iconst (v := 0) X dJ7_fill_53178_0 (by decide +kernel) ?_
  refine r_istore_n X dJ7_fill_53178_1 (by decide) ?_
  refine r_aload_n X dJ7_fill_53178_2 rfl ?_
  refine a_alen (a := 4) (v := 144) X hn dJ7_fill_53178_3 rfl (by decide +kernel) ?_
  refine r_istore_n X dJ7_fill_53178_4 (by decide) ?_
  refine r_eq (h' := h0 ++ ((hgas n vas6 vas2_4 vas2_5 vas2_7 vas2_9 vas59_1 vas59_2 vas61 vas62 vas63 vas64 vas65 vas66 vas67 vas68 vas69 vas70 vas71 vas72 vas73 vas74 vas75 vas76 vas77 vas78 ++ T).set 2 (eO 0 [vR (n + 3), vR (n + 4), vI 0, vI 0, vI vas2_4, vI vas2_5, vI 0, vI (vas2_7 + 1), vI 0, vI (nI (vas2_9))]))) (ls' := [some (vR (n + 4)), some (vI 0), some (vI (nI 0)), some (vI 144)]) rfl rfl rfl ?_
  refine pw_loop1 144 (fun i0 => h0 ++ ((hgas n vas6 vas2_4 vas2_5 vas2_7 vas2_9 vas59_1 vas59_2 vas61 vas62 vas63 vas64 vas65 vas66 vas67 vas68 vas69 vas70 vas71 vas72 vas73 vas74 vas75 vas76 vas77 vas78 ++ T).set 2 (eO 0 [vR (n + 3), vR (n + 4), vI 0, vI 0, vI vas2_4, vI vas2_5, vI 0, vI (vas2_7 + 1), vI 0, vI (nI (vas2_9))]))) (fun i0 => [some (vR (n + 4)), some (vI 0), some (vI (nI i0)), some (vI 144)]) ?_ ?_ 0 (by omega)
  · refine r_eq (h' := h0 ++ ((hgas n vas6 vas2_4 vas2_5 vas2_7 vas2_9 vas59_1 vas59_2 vas61 vas62 vas63 vas64 vas65 vas66 vas67 vas68 vas69 vas70 vas71 vas72 vas73 vas74 vas75 vas76 vas77 vas78 ++ T).set 2 (eO 0 [vR (n + 3), vR (n + 4), vI 0, vI 0, vI vas2_4, vI vas2_5, vI 0, vI (vas2_7 + 1), vI 0, vI (nI (vas2_9))]))) (ls' := [some (vR (n + 4)), some (vI 0), some (vI (nI 144)), some (vI 144)]) rfl rfl rfl ?_
    refine r_iload_n X dJ7_fill_53178_5 rfl ?_
    refine r_iload_n X dJ7_fill_53178_6 rfl ?_
    refine r_icmp_ge_t (tgt := 20) X dJ7_fill_53178_7 rfl (by decide +kernel) ?_
    exact r_ret_v X hr hlk dJ7_fill_53178_20 (Nat.le_of_ble_eq_true rfl) (Nat.le_of_ble_eq_true rfl) ⟨rfl, rfl⟩
  · rintro i0 hi0 ih0 
    refine r_eq (h' := h0 ++ ((hgas n vas6 vas2_4 vas2_5 vas2_7 vas2_9 vas59_1 vas59_2 vas61 vas62 vas63 vas64 vas65 vas66 vas67 vas68 vas69 vas70 vas71 vas72 vas73 vas74 vas75 vas76 vas77 vas78 ++ T).set 2 (eO 0 [vR (n + 3), vR (n + 4), vI 0, vI 0, vI vas2_4, vI vas2_5, vI 0, vI (vas2_7 + 1), vI 0, vI (nI (vas2_9))]))) (ls' := [some (vR (n + 4)), some (vI 0), some (vI (nI i0)), some (vI 144)]) rfl rfl rfl ?_
    refine r_iload_n X dJ7_fill_53178_5 rfl ?_
    refine r_iload_n X dJ7_fill_53178_6 rfl ?_
    refine r_icmp_ge_f (tgt := 20) X dJ7_fill_53178_7 rfl (by have e0 : (144 : Int32).toInt = 144 := (by decide); have e1 : (nI i0).toInt = ((i0 : Nat) : Int) := toN (rfl) (by omega); simp only [Int32.lt_iff_toInt_lt, Int32.le_iff_toInt_le, ← Int32.toInt_inj] at  ⊢; omega) ?_
    refine r_aload_n X dJ7_fill_53178_10 rfl ?_
    refine r_iload_n X dJ7_fill_53178_11 rfl ?_
    refine r_iload_n X dJ7_fill_53178_12 rfl ?_
    refine a_iastE (a := 4) (f' := fun _ => 0) X hn dJ7_fill_53178_13 rfl (vin (k := i0) (rfl) (by omega) (by decide)) (upd_c _ _) ?_
    refine r_eq (h' := h0 ++ ((hgas n vas6 vas2_4 vas2_5 vas2_7 vas2_9 vas59_1 vas59_2 vas61 vas62 vas63 vas64 vas65 vas66 vas67 vas68 vas69 vas70 vas71 vas72 vas73 vas74 vas75 vas76 vas77 vas78 ++ T).set 2 (eO 0 [vR (n + 3), vR (n + 4), vI 0, vI 0, vI vas2_4, vI vas2_5, vI 0, vI (vas2_7 + 1), vI 0, vI (nI (vas2_9))]))) rfl rfl rfl ?_
    refine r_iinc (v := nI (i0 + 1)) X dJ7_fill_53178_14 rfl (nadd (rfl) rfl) (by decide) ?_
    refine r_goto (tgt := 5) X dJ7_fill_53178_17 rfl ?_
    exact r_eq (h' := h0 ++ ((hgas n vas6 vas2_4 vas2_5 vas2_7 vas2_9 vas59_1 vas59_2 vas61 vas62 vas63 vas64 vas65 vas66 vas67 vas68 vas69 vas70 vas71 vas72 vas73 vas74 vas75 vas76 vas77 vas78 ++ T).set 2 (eO 0 [vR (n + 3), vR (n + 4), vI 0, vI 0, vI vas2_4, vI vas2_5, vI 0, vI (vas2_7 + 1), vI 0, vI (nI (vas2_9))]))) (ls' := [some (vR (n + 4)), some (vI 0), some (vI (nI (i0 + 1))), some (vI 144)]) (st' := []) rfl rfl rfl (ih0)
set_option maxRecDepth 100000 in
set_option maxHeartbeats 4000000 in
theorem kh11_X0_takeAllMarks (l : Launch) (G : PG) (h0 : PH) (n : Nat) (hn : h0.length = n) (T : PH) (vas2_4 vas2_5 vas2_7 vas59_2 : Int32) (vas6 : Nat → Int32) (vas61 : Nat → Int32) (vas62 : Nat → Int32) (vas63 : Nat → Int32) (vas64 : Nat → Int32) (vas65 : Nat → Int32) (vas66 : Nat → Int32) (vas67 : Nat → Int32) (vas68 : Nat → Int32) (vas69 : Nat → Int32) (vas70 : Nat → Int32) (vas71 : Nat → Int32) (vas72 : Nat → Int32) (vas73 : Nat → Int32) (vas74 : Nat → Int32) (vas75 : Nat → Int32) (vas76 : Nat → Int32) (vas77 : Nat → Int32) (vas78 : Nat → Int32) (vas2_9 : Nat) (hvas2_9 : vas2_9 ≤ 150) (vas59_1 : Nat) (hvas59_1 : vas59_1 ≤ 5) : PMet l G yX0_takeAllMarks cX0_takeAllMarks 1 none 1 0 0 [vR (n + 2)] (h0 ++ ((hgas n vas6 vas2_4 vas2_5 vas2_7 vas2_9 vas59_1 vas59_2 vas61 vas62 vas63 vas64 vas65 vas66 vas67 vas68 vas69 vas70 vas71 vas72 vas73 vas74 vas75 vas76 vas77 vas78 ++ T).set 2 (eO 0 [vR (n + 3), vR (n + 4), vI 0, vI 0, vI vas2_4, vI vas2_5, vI 0, vI (vas2_7 + 1), vI 0, vI (nI (vas2_9))]))) (qV (fun h' => h' = h0 ++ ((hgas n vas6 vas2_4 vas2_5 vas2_7 vas2_9 vas59_1 vas59_2 vas61 vas62 vas63 vas64 vas65 vas66 vas67 vas68 vas69 vas70 vas71 vas72 vas73 vas74 vas75 vas76 vas77 vas78 ++ T).set 2 (eO 0 [vR (n + 3), vR (n + 4), vI 0, vI 0, vI vas2_4, vI vas2_5, vI 0, vI (vas2_7 + 1), vI 0, vI (nI (vas2_9))])))) := by
  refine PMet.intro (by decide) (Nat.le_of_ble_eq_true rfl) ?_
  intro p e s m args below meth c X hr hlk hnm
  refine r_aload_n X dX0_takeAllMarks_0 rfl ?_
  refine a_get (a := 2) X hn fg_X0_15 dX0_takeAllMarks_1 rfl rfl ?_
  refine r_iconst (v := 0) X dX0_takeAllMarks_4 (by decide +kernel) ?_
  refine r_S2v X ks_X0_80 dX0_takeAllMarks_5 (kh10_J7_fill_53178 l G _ _ hn _ _ _ _ _ _ _ _ _ _ _ _ _ _ _ _ _ _ _ _ _ _ _ _ _ (by omega) _ (by omega)) rfl (fun h' hΨ => ?_)
  obtain rfl := hΨ
  exact r_ret_v X hr hlk dX0_takeAllMarks_8 (Nat.le_of_ble_eq_true rfl) (Nat.le_of_ble_eq_true rfl) ⟨rfl, rfl⟩
set_option maxRecDepth 100000 in
set_option maxHeartbeats 4000000 in
theorem kh12_X1_readDoor (l : Launch) (G : PG) (h0 : PH) (n : Nat) (hn : h0.length = n) (T : PH) (vas2_4 vas2_5 vas2_7 vas59_2 : Int32) (vas6 : Nat → Int32) (vas61 : Nat → Int32) (vas62 : Nat → Int32) (vas63 : Nat → Int32) (vas64 : Nat → Int32) (vas65 : Nat → Int32) (vas66 : Nat → Int32) (vas67 : Nat → Int32) (vas68 : Nat → Int32) (vas69 : Nat → Int32) (vas70 : Nat → Int32) (vas71 : Nat → Int32) (vas72 : Nat → Int32) (vas73 : Nat → Int32) (vas74 : Nat → Int32) (vas75 : Nat → Int32) (vas76 : Nat → Int32) (vas77 : Nat → Int32) (vas78 : Nat → Int32) (vas2_9 : Nat) (hvas2_9 : vas2_9 ≤ 150) (vas59_1 : Nat) (hvas59_1 : vas59_1 ≤ 5) : PMet l G yX1_readDoor cX1_readDoor 2 none 2 0 0 [vR (n + 95)] (h0 ++ (hgas n vas6 vas2_4 vas2_5 vas2_7 vas2_9 vas59_1 vas59_2 vas61 vas62 vas63 vas64 vas65 vas66 vas67 vas68 vas69 vas70 vas71 vas72 vas73 vas74 vas75 vas76 vas77 vas78 ++ T)) (qV (fun h' => (∃ g7 : Nat → Int32, ((nI (vas2_9)) < 150) ∧ h' = h0 ++ (((hgas n vas6 vas2_4 vas2_5 vas2_7 vas2_9 vas59_1 vas59_2 vas61 vas62 vas63 vas64 vas65 vas66 vas67 vas68 vas69 vas70 vas71 vas72 vas73 vas74 vas75 vas76 vas77 vas78 ++ T).set 2 (eO 0 [vR (n + 3), vR (n + 4), vI 0, vI 0, vI 0, vI (vas2_5 + 1), vI 0, vI (vas2_7 + 1), vI 0, vI (nI ((vas2_9) + 1))])).set 6 (eI 750 g7))) ∨ ((¬ (nI (vas2_9)) < 150) ∧ h' = h0 ++ ((hgas n vas6 vas2_4 vas2_5 vas2_7 vas2_9 vas59_1 vas59_2 vas61 vas62 vas63 vas64 vas65 vas66 vas67 vas68 vas69 vas70 vas71 vas72 vas73 vas74 vas75 vas76 vas77 vas78 ++ T).set 2 (eO 0 [vR (n + 3), vR (n + 4), vI 0, vI 0, vI 0, vI (vas2_5 + 1), vI 0, vI (vas2_7 + 1), vI 0, vI (nI (vas2_9))]))))) := by
  refine PMet.intro (by decide) (Nat.le_of_ble_eq_true rfl) ?_
  intro p e s m args below meth c X hr hlk hnm
  refine r_aload_n X dX1_readDoor_0 rfl ?_
  refine r_V0i X kv_X1_141 dX1_readDoor_1 (apG (k := 95) hn rfl) rfl (kh5_X1_sum l G _ _ hn _ _ _ _ _ _ _ _ _ _ _ _ _ _ _ _ _ _ _ _ _ _ _ _ _ (by omega) _ (by omega)) rfl (fun x h' hΨ => ?_)
  obtain ⟨rfl, rfl⟩ := hΨ
  refine r_istore_n X dX1_readDoor_4 (by decide) ?_
  refine r_iload_n X dX1_readDoor_5 rfl ?_
  refine r_if_le_t (tgt := 25) X dX1_readDoor_6 rfl (by decide +kernel) ?_
  refine r_aload_n X dX1_readDoor_25 rfl ?_
  refine a_get (a := 95) X hn fg_X1_21 dX1_readDoor_26 rfl rfl ?_
  refine r_dup X dX1_readDoor_29 ?_
  refine a_get (a := 2) X hn fg_X1_147 dX1_readDoor_30 rfl rfl ?_
  refine r_iconst (v := 1) X dX1_readDoor_33 (by decide +kernel) ?_
  refine r_iadd X dX1_readDoor_34 ?_
  refine a_put (a := 2) X hn fp_X1_147 dX1_readDoor_35 rfl rfl rfl rfl ?_
  refine r_aload_n X dX1_readDoor_38 rfl ?_
  refine r_iconst (v := 4) X dX1_readDoor_39 (by decide +kernel) ?_
  refine r_iconst (v := -1) X dX1_readDoor_40 (by decide +kernel) ?_
  refine r_iload_n X dX1_readDoor_41 rfl ?_
  refine r_V3v X kv_X1_150 dX1_readDoor_42 (apG (k := 95) hn rfl) rfl (kh7_X1_note l G _ _ hn _ _ _ _ _ _ _ _ _ _ _ _ _ _ _ _ _ _ _ _ _ _ _ _ _ (by omega) _ (by omega)) rfl (fun h' hΨ => ?_)
  rcases hΨ with ⟨g7, q1, rfl⟩ | ⟨q2, rfl⟩
  · have nq1 : (vas2_9) < 150 := by have e0 : (150 : Int32).toInt = 150 := (by decide); have e1 : (nI (vas2_9)).toInt = (((vas2_9) : Nat) : Int) := toN (rfl) (by omega); simp only [Int32.lt_iff_toInt_lt, Int32.le_iff_toInt_le, ← Int32.toInt_inj] at q1 ⊢; omega
    refine r_aload_n X dX1_readDoor_45 rfl ?_
    refine a_get (a := 95) X hn fg_X1_21 dX1_readDoor_46 rfl rfl ?_
    refine r_V0v X kv_X1_153 dX1_readDoor_49 (apG (k := 2) hn rfl) rfl (kh9_X0_takeAllMarks l G _ _ hn _ _ _ _ _ _ _ _ _ _ _ _ _ _ _ _ _ _ _ _ _ _ _ _ _ _ (by omega) _ (by omega)) rfl (fun h' hΨ => ?_)
    obtain rfl := hΨ
    refine r_aload_n X dX1_readDoor_52 rfl ?_
    refine a_get (a := 95) X hn fg_X1_21 dX1_readDoor_53 rfl rfl ?_
    refine r_iconst (v := 0) X dX1_readDoor_56 (by decide +kernel) ?_
    refine a_put (a := 2) X hn fp_X1_66 dX1_readDoor_57 rfl rfl rfl rfl ?_
    refine r_eq (h' := h0 ++ (((hgas n vas6 vas2_4 vas2_5 vas2_7 vas2_9 vas59_1 vas59_2 vas61 vas62 vas63 vas64 vas65 vas66 vas67 vas68 vas69 vas70 vas71 vas72 vas73 vas74 vas75 vas76 vas77 vas78 ++ T).set 2 (eO 0 [vR (n + 3), vR (n + 4), vI 0, vI 0, vI 0, vI vas2_5, vI 0, vI (vas2_7 + 1), vI 0, vI (nI ((vas2_9) + 1))])).set 6 (eI 750 g7))) rfl rfl rfl ?_
    refine r_aload_n X dX1_readDoor_60 rfl ?_
    refine a_get (a := 95) X hn fg_X1_21 dX1_readDoor_61 rfl rfl ?_
    refine r_dup X dX1_readDoor_64 ?_
    refine a_get (a := 2) X hn fg_X1_72 dX1_readDoor_65 rfl rfl ?_
    refine r_iconst (v := 1) X dX1_readDoor_68 (by decide +kernel) ?_
    refine r_iadd X dX1_readDoor_69 ?_
    refine a_put (a := 2) X hn fp_X1_72 dX1_readDoor_70 rfl rfl rfl rfl ?_
    refine r_eq (h' := h0 ++ (((hgas n vas6 vas2_4 vas2_5 vas2_7 vas2_9 vas59_1 vas59_2 vas61 vas62 vas63 vas64 vas65 vas66 vas67 vas68 vas69 vas70 vas71 vas72 vas73 vas74 vas75 vas76 vas77 vas78 ++ T).set 2 (eO 0 [vR (n + 3), vR (n + 4), vI 0, vI 0, vI 0, vI (vas2_5 + 1), vI 0, vI (vas2_7 + 1), vI 0, vI (nI ((vas2_9) + 1))])).set 6 (eI 750 g7))) rfl rfl rfl ?_
    exact r_ret_v X hr hlk dX1_readDoor_73 (Nat.le_of_ble_eq_true rfl) (Nat.le_of_ble_eq_true rfl) ⟨rfl, Or.inl ⟨_, q1, rfl⟩⟩
  · have nq2 : ¬ ((vas2_9) < 150) := by have e0 : (150 : Int32).toInt = 150 := (by decide); have e1 : (nI (vas2_9)).toInt = (((vas2_9) : Nat) : Int) := toN (rfl) (by omega); simp only [Int32.lt_iff_toInt_lt, Int32.le_iff_toInt_le, ← Int32.toInt_inj] at q2 ⊢; omega
    refine r_aload_n X dX1_readDoor_45 rfl ?_
    refine a_get (a := 95) X hn fg_X1_21 dX1_readDoor_46 rfl rfl ?_
    refine r_V0v X kv_X1_153 dX1_readDoor_49 (apG (k := 2) hn rfl) rfl (kh11_X0_takeAllMarks l G _ _ hn _ _ _ _ _ _ _ _ _ _ _ _ _ _ _ _ _ _ _ _ _ _ _ _ _ (by omega) _ (by omega)) rfl (fun h' hΨ => ?_)
    obtain rfl := hΨ
    refine r_aload_n X dX1_readDoor_52 rfl ?_
    refine a_get (a := 95) X hn fg_X1_21 dX1_readDoor_53 rfl rfl ?_
    refine r_iconst (v := 0) X dX1_readDoor_56 (by decide +kernel) ?_
    refine a_put (a := 2) X hn fp_X1_66 dX1_readDoor_57 rfl rfl rfl rfl ?_
    refine r_eq (h' := h0 ++ ((hgas n vas6 vas2_4 vas2_5 vas2_7 vas2_9 vas59_1 vas59_2 vas61 vas62 vas63 vas64 vas65 vas66 vas67 vas68 vas69 vas70 vas71 vas72 vas73 vas74 vas75 vas76 vas77 vas78 ++ T).set 2 (eO 0 [vR (n + 3), vR (n + 4), vI 0, vI 0, vI 0, vI vas2_5, vI 0, vI (vas2_7 + 1), vI 0, vI (nI (vas2_9))]))) rfl rfl rfl ?_
    refine r_aload_n X dX1_readDoor_60 rfl ?_
    refine a_get (a := 95) X hn fg_X1_21 dX1_readDoor_61 rfl rfl ?_
    refine r_dup X dX1_readDoor_64 ?_
    refine a_get (a := 2) X hn fg_X1_72 dX1_readDoor_65 rfl rfl ?_
    refine r_iconst (v := 1) X dX1_readDoor_68 (by decide +kernel) ?_
    refine r_iadd X dX1_readDoor_69 ?_
    refine a_put (a := 2) X hn fp_X1_72 dX1_readDoor_70 rfl rfl rfl rfl ?_
    refine r_eq (h' := h0 ++ ((hgas n vas6 vas2_4 vas2_5 vas2_7 vas2_9 vas59_1 vas59_2 vas61 vas62 vas63 vas64 vas65 vas66 vas67 vas68 vas69 vas70 vas71 vas72 vas73 vas74 vas75 vas76 vas77 vas78 ++ T).set 2 (eO 0 [vR (n + 3), vR (n + 4), vI 0, vI 0, vI 0, vI (vas2_5 + 1), vI 0, vI (vas2_7 + 1), vI 0, vI (nI (vas2_9))]))) rfl rfl rfl ?_
    exact r_ret_v X hr hlk dX1_readDoor_73 (Nat.le_of_ble_eq_true rfl) (Nat.le_of_ble_eq_true rfl) ⟨rfl, Or.inr (⟨q2, rfl⟩)⟩
