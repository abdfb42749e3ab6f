set_option maxRecDepth 100000 in
set_option maxHeartbeats 4000000 in
theorem km92_X12_thinks (l : Launch) (G : PG) (h0 : PH) (n : Nat) (hn : h0.length = n) (wf : Nat → Int32) : PMet l G yX12_thinks cX12_thinks 2 none 0 0 0 [vR (n + 0)] (h0 ++ (frM n wf)) (qV (fun h' => ∃ va3 : Nat → Int32, h' = h0 ++ (((frM n wf).set 0 (eO 12 [vI 0, vR (n + 1), vR (n + 2), vI 0, vR (n + 3), vI 1, vI 0, vR (n + 4), vR (n + 5), vR (n + 6), vR (n + 7), vR (n + 8), vI 0, vI 0, vI 0, vI 0, vI 0, vR (n + 9), vR (n + 10), vR (n + 11), vR (n + 12), vR (n + 13), vR (n + 14), vR (n + 15), vR (n + 16), vI 0, vI 0, vI 0, vR (n + 17), vI 0, vI 0, vI 0, vI 0, vI ((-1)), vI 0, vR (n + 18), vI 0, vR (n + 19), vI 0, vR (n + 20), vR (n + 21), vR (n + 22), vR (n + 23), vI 0, vR (n + 24), vR (n + 25), vI 0, vR (n + 26), vR (n + 27), vR (n + 28), vI 0, vR (n + 29), vI 0, vR (n + 30), vI 0, vR (n + 31), vR (n + 32), vI 0, vR (n + 33), vR (n + 34), vR (n + 35), vI 0, vR (n + 36), vI 0, vR (n + 37), vI 0, vR (n + 38), vR (n + 39), vR (n + 40), vR (n + 41), vI 0, vI 0, vI 0, vI 0, vI 0, vR (n + 42)])).set 3 (eI 499 va3)))) := by
  refine PMet.intro (by decide) (Nat.le_of_ble_eq_true rfl) ?_
  intro p e s m args below meth c X hr hlk hnm
  refine r_iconst (v := 0) X dX12_thinks_0 (by decide +kernel) ?_
  refine r_istore_n X dX12_thinks_1 (by decide) ?_
  refine r_eq (h' := h0 ++ ((frM n wf).set 3 (eI 499 (fun _ => 0)))) (ls' := [some (vR (n + 0)), some (vI (nI 0))]) rfl rfl rfl ?_
  refine pw_loopA (α := (Nat → Int32)) 499 (fun va3 => True) (fun i0 => fun va3 => h0 ++ ((frM n wf).set 3 (eI 499 va3))) (fun i0 => [some (vR (n + 0)), some (vI (nI i0))]) ?_ ?_ 0 (by omega) ((fun _ => 0)) (by trivial)
  · rintro va3 _
    refine r_eq (h' := h0 ++ ((frM n wf).set 3 (eI 499 va3))) (ls' := [some (vR (n + 0)), some (vI (nI 499))]) rfl rfl rfl ?_
    refine r_iload_n X dX12_thinks_2 rfl ?_
    refine r_sipush (v := 499) X dX12_thinks_3 (by decide +kernel) ?_
    refine r_icmp_ge_t (tgt := 27) X dX12_thinks_6 rfl (by decide +kernel) ?_
    refine r_aload_n X dX12_thinks_27 rfl ?_
    refine r_iconst (v := 1) X dX12_thinks_28 (by decide +kernel) ?_
    refine a_put (a := 0) X hn fp_X12_146 dX12_thinks_29 rfl rfl rfl rfl ?_
    refine r_eq (h' := h0 ++ (((frM n wf).set 0 (eO 12 [vI 0, vR (n + 1), vR (n + 2), vI 0, vR (n + 3), vI 1, vI 0, vR (n + 4), vR (n + 5), vR (n + 6), vR (n + 7), vR (n + 8), vI 0, vI 0, vI 0, vI 0, vI 0, vR (n + 9), vR (n + 10), vR (n + 11), vR (n + 12), vR (n + 13), vR (n + 14), vR (n + 15), vR (n + 16), vI 0, vI 0, vI 0, vR (n + 17), vI 0, vI 0, vI 0, vI 0, vI ((-1)), vI 0, vR (n + 18), vI 0, vR (n + 19), vI 0, vR (n + 20), vR (n + 21), vR (n + 22), vR (n + 23), vI 0, vR (n + 24), vR (n + 25), vI 0, vR (n + 26), vR (n + 27), vR (n + 28), vI 0, vR (n + 29), vI 0, vR (n + 30), vI 0, vR (n + 31), vR (n + 32), vI 0, vR (n + 33), vR (n + 34), vR (n + 35), vI 0, vR (n + 36), vI 0, vR (n + 37), vI 0, vR (n + 38), vR (n + 39), vR (n + 40), vR (n + 41), vI 0, vI 0, vI 0, vI 0, vI 0, vR (n + 42)])).set 3 (eI 499 va3))) rfl rfl rfl ?_
    exact r_ret_v X hr hlk dX12_thinks_32 (Nat.le_of_ble_eq_true rfl) (Nat.le_of_ble_eq_true rfl) ⟨rfl, ⟨_, rfl⟩⟩
  · rintro i0 hi0 ih0 va3 _
    refine r_eq (h' := h0 ++ ((frM n wf).set 3 (eI 499 va3))) (ls' := [some (vR (n + 0)), some (vI (nI i0))]) rfl rfl rfl ?_
    refine r_iload_n X dX12_thinks_2 rfl ?_
    refine r_sipush (v := 499) X dX12_thinks_3 (by decide +kernel) ?_
    refine r_icmp_ge_f (tgt := 27) X dX12_thinks_6 rfl (by have e0 : (499 : Int32).toInt = 499 := (by decide); have e1 : (nI i0).toInt = ((i0 : Nat) : Int) := toN (rfl) (by omega); simp only [Int32.lt_iff_toInt_lt, Int32.le_iff_toInt_le, ← Int32.toInt_inj] at  ⊢; omega) ?_
    refine r_aload_n X dX12_thinks_9 rfl ?_
    refine a_get (a := 0) X hn fg_X12_16 dX12_thinks_10 rfl rfl ?_
    refine r_iload_n X dX12_thinks_13 rfl ?_
    refine r_aload_n X dX12_thinks_14 rfl ?_
    refine a_get (a := 0) X hn fg_X12_7 dX12_thinks_15 rfl rfl ?_
    refine r_iload_n X dX12_thinks_18 rfl ?_
    refine a_iald (a := 1) X hn dX12_thinks_19 rfl (vin (k := i0) (rfl) (by omega) (by decide)) rfl ?_
    refine a_iast_any (a := 3) X hn dX12_thinks_20 rfl (vin (k := i0) (rfl) (by omega) (by decide)) (fun g97 => ?_)
    refine r_eq (h' := h0 ++ ((frM n wf).set 3 (eI 499 g97))) rfl rfl rfl ?_
    refine r_iinc (v := nI (i0 + 1)) X dX12_thinks_21 rfl (nadd (rfl) rfl) (by decide) ?_
    refine r_goto (tgt := 2) X dX12_thinks_24 rfl ?_
    exact r_eq (h' := h0 ++ ((frM n wf).set 3 (eI 499 g97))) (ls' := [some (vR (n + 0)), some (vI (nI (i0 + 1)))]) (st' := []) rfl rfl rfl (ih0 ((g97)) (by trivial))
set_option maxRecDepth 100000 in
set_option maxHeartbeats 4000000 in
theorem km93_X12_endsThought (l : Launch) (G : PG) (h0 : PH) (n : Nat) (hn : h0.length = n) (wf : Nat → Int32) (va1_0 va1_1 va1_6 : Int32) (g98 : Nat → Int32) : PMet l G yX12_endsThought cX12_endsThought 2 none 0 0 0 [vR (n + 0)] (h0 ++ ((((frM n wf).set 0 (eO 12 [vI 0, vR (n + 1), vR (n + 2), vI 0, vR (n + 3), vI 1, vI 0, vR (n + 4), vR (n + 5), vR (n + 6), vR (n + 7), vR (n + 8), vI 0, vI 0, vI 0, vI 0, vI 0, vR (n + 9), vR (n + 10), vR (n + 11), vR (n + 12), vR (n + 13), vR (n + 14), vR (n + 15), vR (n + 16), vI 0, vI 0, vI 0, vR (n + 17), vI 0, vI 0, vI 0, vI 0, vI ((-1)), vI 0, vR (n + 18), vI 0, vR (n + 19), vI 0, vR (n + 20), vR (n + 21), vR (n + 22), vR (n + 23), vI 0, vR (n + 24), vR (n + 25), vI 0, vR (n + 26), vR (n + 27), vR (n + 28), vI 0, vR (n + 29), vI 0, vR (n + 30), vI 0, vR (n + 31), vR (n + 32), vI 0, vR (n + 33), vR (n + 34), vR (n + 35), vI 0, vR (n + 36), vI 0, vR (n + 37), vI 0, vR (n + 38), vR (n + 39), vR (n + 40), vR (n + 41), vI 0, vI 0, vI 0, vI 0, vI 0, vR (n + 42)])).set 1 (eI 499 (nw va1_0 va1_1 0 0 0 0 va1_6))).set 3 (eI 499 g98))) (qV (fun h' => ∃ va1 : Nat → Int32, h' = h0 ++ (((frM n wf).set 1 (eI 499 va1)).set 3 (eI 499 g98)))) := by
  refine PMet.intro (by decide) (Nat.le_of_ble_eq_true rfl) ?_
  intro p e s m args below meth c X hr hlk hnm
  refine r_iconst (v := 0) X dX12_endsThought_0 (by decide +kernel) ?_
  refine r_istore_n X dX12_endsThought_1 (by decide) ?_
  refine r_eq (h' := h0 ++ ((((frM n wf).set 0 (eO 12 [vI 0, vR (n + 1), vR (n + 2), vI 0, vR (n + 3), vI 1, vI 0, vR (n + 4), vR (n + 5), vR (n + 6), vR (n + 7), vR (n + 8), vI 0, vI 0, vI 0, vI 0, vI 0, vR (n + 9), vR (n + 10), vR (n + 11), vR (n + 12), vR (n + 13), vR (n + 14), vR (n + 15), vR (n + 16), vI 0, vI 0, vI 0, vR (n + 17), vI 0, vI 0, vI 0, vI 0, vI ((-1)), vI 0, vR (n + 18), vI 0, vR (n + 19), vI 0, vR (n + 20), vR (n + 21), vR (n + 22), vR (n + 23), vI 0, vR (n + 24), vR (n + 25), vI 0, vR (n + 26), vR (n + 27), vR (n + 28), vI 0, vR (n + 29), vI 0, vR (n + 30), vI 0, vR (n + 31), vR (n + 32), vI 0, vR (n + 33), vR (n + 34), vR (n + 35), vI 0, vR (n + 36), vI 0, vR (n + 37), vI 0, vR (n + 38), vR (n + 39), vR (n + 40), vR (n + 41), vI 0, vI 0, vI 0, vI 0, vI 0, vR (n + 42)])).set 1 (eI 499 (nw va1_0 va1_1 0 0 0 0 va1_6))).set 3 (eI 499 g98))) (ls' := [some (vR (n + 0)), some (vI (nI 0))]) rfl rfl rfl ?_
  refine pw_loopA (α := (Nat → Int32)) 499 (fun va1 => True) (fun i0 => fun va1 => h0 ++ ((((frM n wf).set 0 (eO 12 [vI 0, vR (n + 1), vR (n + 2), vI 0, vR (n + 3), vI 1, vI 0, vR (n + 4), vR (n + 5), vR (n + 6), vR (n + 7), vR (n + 8), vI 0, vI 0, vI 0, vI 0, vI 0, vR (n + 9), vR (n + 10), vR (n + 11), vR (n + 12), vR (n + 13), vR (n + 14), vR (n + 15), vR (n + 16), vI 0, vI 0, vI 0, vR (n + 17), vI 0, vI 0, vI 0, vI 0, vI ((-1)), vI 0, vR (n + 18), vI 0, vR (n + 19), vI 0, vR (n + 20), vR (n + 21), vR (n + 22), vR (n + 23), vI 0, vR (n + 24), vR (n + 25), vI 0, vR (n + 26), vR (n + 27), vR (n + 28), vI 0, vR (n + 29), vI 0, vR (n + 30), vI 0, vR (n + 31), vR (n + 32), vI 0, vR (n + 33), vR (n + 34), vR (n + 35), vI 0, vR (n + 36), vI 0, vR (n + 37), vI 0, vR (n + 38), vR (n + 39), vR (n + 40), vR (n + 41), vI 0, vI 0, vI 0, vI 0, vI 0, vR (n + 42)])).set 1 (eI 499 va1)).set 3 (eI 499 g98))) (fun i0 => [some (vR (n + 0)), some (vI (nI i0))]) ?_ ?_ 0 (by omega) ((nw va1_0 va1_1 0 0 0 0 va1_6)) (by trivial)
  · rintro va1 _
    refine r_eq (h' := h0 ++ ((((frM n wf).set 0 (eO 12 [vI 0, vR (n + 1), vR (n + 2), vI 0, vR (n + 3), vI 1, vI 0, vR (n + 4), vR (n + 5), vR (n + 6), vR (n + 7), vR (n + 8), vI 0, vI 0, vI 0, vI 0, vI 0, vR (n + 9), vR (n + 10), vR (n + 11), vR (n + 12), vR (n + 13), vR (n + 14), vR (n + 15), vR (n + 16), vI 0, vI 0, vI 0, vR (n + 17), vI 0, vI 0, vI 0, vI 0, vI ((-1)), vI 0, vR (n + 18), vI 0, vR (n + 19), vI 0, vR (n + 20), vR (n + 21), vR (n + 22), vR (n + 23), vI 0, vR (n + 24), vR (n + 25), vI 0, vR (n + 26), vR (n + 27), vR (n + 28), vI 0, vR (n + 29), vI 0, vR (n + 30), vI 0, vR (n + 31), vR (n + 32), vI 0, vR (n + 33), vR (n + 34), vR (n + 35), vI 0, vR (n + 36), vI 0, vR (n + 37), vI 0, vR (n + 38), vR (n + 39), vR (n + 40), vR (n + 41), vI 0, vI 0, vI 0, vI 0, vI 0, vR (n + 42)])).set 1 (eI 499 va1)).set 3 (eI 499 g98))) (ls' := [some (vR (n + 0)), some (vI (nI 499))]) rfl rfl rfl ?_
    refine r_iload_n X dX12_endsThought_2 rfl ?_
    refine r_sipush (v := 499) X dX12_endsThought_3 (by decide +kernel) ?_
    refine r_icmp_ge_t (tgt := 27) X dX12_endsThought_6 rfl (by decide +kernel) ?_
    refine r_aload_n X dX12_endsThought_27 rfl ?_
    refine r_iconst (v := 0) X dX12_endsThought_28 (by decide +kernel) ?_
    refine a_put (a := 0) X hn fp_X12_146 dX12_endsThought_29 rfl rfl rfl rfl ?_
    refine r_eq (h' := h0 ++ (((frM n wf).set 1 (eI 499 va1)).set 3 (eI 499 g98))) rfl rfl rfl ?_
    exact r_ret_v X hr hlk dX12_endsThought_32 (Nat.le_of_ble_eq_true rfl) (Nat.le_of_ble_eq_true rfl) ⟨rfl, ⟨_, rfl⟩⟩
  · rintro i0 hi0 ih0 va1 _
    refine r_eq (h' := h0 ++ ((((frM n wf).set 0 (eO 12 [vI 0, vR (n + 1), vR (n + 2), vI 0, vR (n + 3), vI 1, vI 0, vR (n + 4), vR (n + 5), vR (n + 6), vR (n + 7), vR (n + 8), vI 0, vI 0, vI 0, vI 0, vI 0, vR (n + 9), vR (n + 10), vR (n + 11), vR (n + 12), vR (n + 13), vR (n + 14), vR (n + 15), vR (n + 16), vI 0, vI 0, vI 0, vR (n + 17), vI 0, vI 0, vI 0, vI 0, vI ((-1)), vI 0, vR (n + 18), vI 0, vR (n + 19), vI 0, vR (n + 20), vR (n + 21), vR (n + 22), vR (n + 23), vI 0, vR (n + 24), vR (n + 25), vI 0, vR (n + 26), vR (n + 27), vR (n + 28), vI 0, vR (n + 29), vI 0, vR (n + 30), vI 0, vR (n + 31), vR (n + 32), vI 0, vR (n + 33), vR (n + 34), vR (n + 35), vI 0, vR (n + 36), vI 0, vR (n + 37), vI 0, vR (n + 38), vR (n + 39), vR (n + 40), vR (n + 41), vI 0, vI 0, vI 0, vI 0, vI 0, vR (n + 42)])).set 1 (eI 499 va1)).set 3 (eI 499 g98))) (ls' := [some (vR (n + 0)), some (vI (nI i0))]) rfl rfl rfl ?_
    refine r_iload_n X dX12_endsThought_2 rfl ?_
    refine r_sipush (v := 499) X dX12_endsThought_3 (by decide +kernel) ?_
    refine r_icmp_ge_f (tgt := 27) X dX12_endsThought_6 rfl (by have e0 : (499 : Int32).toInt = 499 := (by decide); have e1 : (nI i0).toInt = ((i0 : Nat) : Int) := toN (rfl) (by omega); simp only [Int32.lt_iff_toInt_lt, Int32.le_iff_toInt_le, ← Int32.toInt_inj] at  ⊢; omega) ?_
    refine r_aload_n X dX12_endsThought_9 rfl ?_
    refine a_get (a := 0) X hn fg_X12_7 dX12_endsThought_10 rfl rfl ?_
    refine r_iload_n X dX12_endsThought_13 rfl ?_
    refine r_aload_n X dX12_endsThought_14 rfl ?_
    refine a_get (a := 0) X hn fg_X12_16 dX12_endsThought_15 rfl rfl ?_
    refine r_iload_n X dX12_endsThought_18 rfl ?_
    refine a_iald (a := 3) X hn dX12_endsThought_19 rfl (vin (k := i0) (rfl) (by omega) (by decide)) rfl ?_
    refine a_iast_any (a := 1) X hn dX12_endsThought_20 rfl (vin (k := i0) (rfl) (by omega) (by decide)) (fun g99 => ?_)
    refine r_eq (h' := h0 ++ ((((frM n wf).set 0 (eO 12 [vI 0, vR (n + 1), vR (n + 2), vI 0, vR (n + 3), vI 1, vI 0, vR (n + 4), vR (n + 5), vR (n + 6), vR (n + 7), vR (n + 8), vI 0, vI 0, vI 0, vI 0, vI 0, vR (n + 9), vR (n + 10), vR (n + 11), vR (n + 12), vR (n + 13), vR (n + 14), vR (n + 15), vR (n + 16), vI 0, vI 0, vI 0, vR (n + 17), vI 0, vI 0, vI 0, vI 0, vI ((-1)), vI 0, vR (n + 18), vI 0, vR (n + 19), vI 0, vR (n + 20), vR (n + 21), vR (n + 22), vR (n + 23), vI 0, vR (n + 24), vR (n + 25), vI 0, vR (n + 26), vR (n + 27), vR (n + 28), vI 0, vR (n + 29), vI 0, vR (n + 30), vI 0, vR (n + 31), vR (n + 32), vI 0, vR (n + 33), vR (n + 34), vR (n + 35), vI 0, vR (n + 36), vI 0, vR (n + 37), vI 0, vR (n + 38), vR (n + 39), vR (n + 40), vR (n + 41), vI 0, vI 0, vI 0, vI 0, vI 0, vR (n + 42)])).set 1 (eI 499 g99)).set 3 (eI 499 g98))) rfl rfl rfl ?_
    refine r_iinc (v := nI (i0 + 1)) X dX12_endsThought_21 rfl (nadd (rfl) rfl) (by decide) ?_
    refine r_goto (tgt := 2) X dX12_endsThought_24 rfl ?_
    exact r_eq (h' := h0 ++ ((((frM n wf).set 0 (eO 12 [vI 0, vR (n + 1), vR (n + 2), vI 0, vR (n + 3), vI 1, vI 0, vR (n + 4), vR (n + 5), vR (n + 6), vR (n + 7), vR (n + 8), vI 0, vI 0, vI 0, vI 0, vI 0, vR (n + 9), vR (n + 10), vR (n + 11), vR (n + 12), vR (n + 13), vR (n + 14), vR (n + 15), vR (n + 16), vI 0, vI 0, vI 0, vR (n + 17), vI 0, vI 0, vI 0, vI 0, vI ((-1)), vI 0, vR (n + 18), vI 0, vR (n + 19), vI 0, vR (n + 20), vR (n + 21), vR (n + 22), vR (n + 23), vI 0, vR (n + 24), vR (n + 25), vI 0, vR (n + 26), vR (n + 27), vR (n + 28), vI 0, vR (n + 29), vI 0, vR (n + 30), vI 0, vR (n + 31), vR (n + 32), vI 0, vR (n + 33), vR (n + 34), vR (n + 35), vI 0, vR (n + 36), vI 0, vR (n + 37), vI 0, vR (n + 38), vR (n + 39), vR (n + 40), vR (n + 41), vI 0, vI 0, vI 0, vI 0, vI 0, vR (n + 42)])).set 1 (eI 499 g99)).set 3 (eI 499 g98))) (ls' := [some (vR (n + 0)), some (vI (nI (i0 + 1)))]) (st' := []) rfl rfl rfl (ih0 ((g99)) (by trivial))
set_option maxRecDepth 100000 in
set_option maxHeartbeats 4000000 in
theorem km94_X12_isMarked (l : Launch) (G : PG) (h0 : PH) (n : Nat) (hn : h0.length = n) (wf : Nat → Int32) (va1_0 va1_1 va1_6 : Int32) (g98 : Nat → Int32) (z0 : Nat) (hz0 : z0 ≤ 143) : PMet l G yX12_isMarked cX12_isMarked 2 (some .boolean) 0 0 0 [vR (n + 0), vI (nI z0)] (h0 ++ ((((frM n wf).set 0 (eO 12 [vI 0, vR (n + 1), vR (n + 2), vI 0, vR (n + 3), vI 1, vI 0, vR (n + 4), vR (n + 5), vR (n + 6), vR (n + 7), vR (n + 8), vI 0, vI 0, vI 0, vI 0, vI 0, vR (n + 9), vR (n + 10), vR (n + 11), vR (n + 12), vR (n + 13), vR (n + 14), vR (n + 15), vR (n + 16), vI 0, vI 0, vI 0, vR (n + 17), vI 0, vI 0, vI 0, vI 0, vI ((-1)), vI 0, vR (n + 18), vI 0, vR (n + 19), vI 0, vR (n + 20), vR (n + 21), vR (n + 22), vR (n + 23), vI 0, vR (n + 24), vR (n + 25), vI 0, vR (n + 26), vR (n + 27), vR (n + 28), vI 0, vR (n + 29), vI 0, vR (n + 30), vI 0, vR (n + 31), vR (n + 32), vI 0, vR (n + 33), vR (n + 34), vR (n + 35), vI 0, vR (n + 36), vI 0, vR (n + 37), vI 0, vR (n + 38), vR (n + 39), vR (n + 40), vR (n + 41), vI 0, vI 0, vI 0, vI 0, vI 0, vR (n + 42)])).set 1 (eI 499 (nw va1_0 va1_1 0 0 0 0 va1_6))).set 3 (eI 499 g98))) (qI (fun x h' => x = 0 ∧ h' = h0 ++ ((((frM n wf).set 0 (eO 12 [vI 0, vR (n + 1), vR (n + 2), vI 0, vR (n + 3), vI 1, vI 0, vR (n + 4), vR (n + 5), vR (n + 6), vR (n + 7), vR (n + 8), vI 0, vI 0, vI 0, vI 0, vI 0, vR (n + 9), vR (n + 10), vR (n + 11), vR (n + 12), vR (n + 13), vR (n + 14), vR (n + 15), vR (n + 16), vI 0, vI 0, vI 0, vR (n + 17), vI 0, vI 0, vI 0, vI 0, vI ((-1)), vI 0, vR (n + 18), vI 0, vR (n + 19), vI 0, vR (n + 20), vR (n + 21), vR (n + 22), vR (n + 23), vI 0, vR (n + 24), vR (n + 25), vI 0, vR (n + 26), vR (n + 27), vR (n + 28), vI 0, vR (n + 29), vI 0, vR (n + 30), vI 0, vR (n + 31), vR (n + 32), vI 0, vR (n + 33), vR (n + 34), vR (n + 35), vI 0, vR (n + 36), vI 0, vR (n + 37), vI 0, vR (n + 38), vR (n + 39), vR (n + 40), vR (n + 41), vI 0, vI 0, vI 0, vI 0, vI 0, vR (n + 42)])).set 1 (eI 499 (nw va1_0 va1_1 0 0 0 0 va1_6))).set 3 (eI 499 g98)))) := by
  refine PMet.intro (by decide) (Nat.le_of_ble_eq_true rfl) ?_
  intro p e s m args below meth c X hr hlk hnm
  refine r_aload_n X dX12_isMarked_0 rfl ?_
  refine a_get (a := 0) X hn fg_X12_7 dX12_isMarked_1 rfl rfl ?_
  refine r_bipush (v := 67) X dX12_isMarked_4 (by decide +kernel) ?_
  refine r_iload_n X dX12_isMarked_6 rfl ?_
  refine r_iaddE (v := nI (67 + z0)) X dX12_isMarked_7 (nadd ((rfl : (67 : Int32) = nI 67)) (rfl)) ?_
  refine a_iald (a := 1) (v := 0) X hn dX12_isMarked_8 rfl (vin (k := (67 + z0)) (rfl) (by omega) (by decide)) (nw_hi (k := (67 + z0)) (rfl) (by omega) (by omega)) ?_
  refine r_if_le_t (tgt := 16) X dX12_isMarked_9 rfl (by decide +kernel) ?_
  refine r_iconst (v := 0) X dX12_isMarked_16 (by decide +kernel) ?_
  exact r_ret_z X hr hlk (Or.inl rfl) dX12_isMarked_17 (Nat.le_of_ble_eq_true rfl) (Nat.le_of_ble_eq_true rfl) ⟨_, rfl, ⟨rfl, rfl⟩⟩
set_option maxRecDepth 100000 in
set_option maxHeartbeats 4000000 in
theorem km95_X12_sumOf (l : Launch) (G : PG) (h0 : PH) (n : Nat) (hn : h0.length = n) (wf : Nat → Int32) (va1_0 va1_1 va1_6 : Int32) (g98 : Nat → Int32) : PMet l G yX12_sumOf cX12_sumOf 3 (some .int) 1 0 0 [vR (n + 0)] (h0 ++ ((((frM n wf).set 0 (eO 12 [vI 0, vR (n + 1), vR (n + 2), vI 0, vR (n + 3), vI 1, vI 0, vR (n + 4), vR (n + 5), vR (n + 6), vR (n + 7), vR (n + 8), vI 0, vI 0, vI 0, vI 0, vI 0, vR (n + 9), vR (n + 10), vR (n + 11), vR (n + 12), vR (n + 13), vR (n + 14), vR (n + 15), vR (n + 16), vI 0, vI 0, vI 0, vR (n + 17), vI 0, vI 0, vI 0, vI 0, vI ((-1)), vI 0, vR (n + 18), vI 0, vR (n + 19), vI 0, vR (n + 20), vR (n + 21), vR (n + 22), vR (n + 23), vI 0, vR (n + 24), vR (n + 25), vI 0, vR (n + 26), vR (n + 27), vR (n + 28), vI 0, vR (n + 29), vI 0, vR (n + 30), vI 0, vR (n + 31), vR (n + 32), vI 0, vR (n + 33), vR (n + 34), vR (n + 35), vI 0, vR (n + 36), vI 0, vR (n + 37), vI 0, vR (n + 38), vR (n + 39), vR (n + 40), vR (n + 41), vI 0, vI 0, vI 0, vI 0, vI 0, vR (n + 42)])).set 1 (eI 499 (nw va1_0 va1_1 0 0 0 0 va1_6))).set 3 (eI 499 g98))) (qI (fun x h' => x = 0 ∧ h' = h0 ++ ((((frM n wf).set 0 (eO 12 [vI 0, vR (n + 1), vR (n + 2), vI 0, vR (n + 3), vI 1, vI 0, vR (n + 4), vR (n + 5), vR (n + 6), vR (n + 7), vR (n + 8), vI 0, vI 0, vI 0, vI 0, vI 0, vR (n + 9), vR (n + 10), vR (n + 11), vR (n + 12), vR (n + 13), vR (n + 14), vR (n + 15), vR (n + 16), vI 0, vI 0, vI 0, vR (n + 17), vI 0, vI 0, vI 0, vI 0, vI ((-1)), vI 0, vR (n + 18), vI 0, vR (n + 19), vI 0, vR (n + 20), vR (n + 21), vR (n + 22), vR (n + 23), vI 0, vR (n + 24), vR (n + 25), vI 0, vR (n + 26), vR (n + 27), vR (n + 28), vI 0, vR (n + 29), vI 0, vR (n + 30), vI 0, vR (n + 31), vR (n + 32), vI 0, vR (n + 33), vR (n + 34), vR (n + 35), vI 0, vR (n + 36), vI 0, vR (n + 37), vI 0, vR (n + 38), vR (n + 39), vR (n + 40), vR (n + 41), vI 0, vI 0, vI 0, vI 0, vI 0, vR (n + 42)])).set 1 (eI 499 (nw va1_0 va1_1 0 0 0 0 va1_6))).set 3 (eI 499 g98)))) := by
  refine PMet.intro (by decide) (Nat.le_of_ble_eq_true rfl) ?_
  intro p e s m args below meth c X hr hlk hnm
  refine r_iconst (v := 0) X dX12_sumOf_0 (by decide +kernel) ?_
  refine r_istore_n X dX12_sumOf_1 (by decide) ?_
  refine r_iconst (v := 0) X dX12_sumOf_2 (by decide +kernel) ?_
  refine r_istore_n X dX12_sumOf_3 (by decide) ?_
  refine r_eq (h' := h0 ++ ((((frM n wf).set 0 (eO 12 [vI 0, vR (n + 1), vR (n + 2), vI 0, vR (n + 3), vI 1, vI 0, vR (n + 4), vR (n + 5), vR (n + 6), vR (n + 7), vR (n + 8), vI 0, vI 0, vI 0, vI 0, vI 0, vR (n + 9), vR (n + 10), vR (n + 11), vR (n + 12), vR (n + 13), vR (n + 14), vR (n + 15), vR (n + 16), vI 0, vI 0, vI 0, vR (n + 17), vI 0, vI 0, vI 0, vI 0, vI ((-1)), vI 0, vR (n + 18), vI 0, vR (n + 19), vI 0, vR (n + 20), vR (n + 21), vR (n + 22), vR (n + 23), vI 0, vR (n + 24), vR (n + 25), vI 0, vR (n + 26), vR (n + 27), vR (n + 28), vI 0, vR (n + 29), vI 0, vR (n + 30), vI 0, vR (n + 31), vR (n + 32), vI 0, vR (n + 33), vR (n + 34), vR (n + 35), vI 0, vR (n + 36), vI 0, vR (n + 37), vI 0, vR (n + 38), vR (n + 39), vR (n + 40), vR (n + 41), vI 0, vI 0, vI 0, vI 0, vI 0, vR (n + 42)])).set 1 (eI 499 (nw va1_0 va1_1 0 0 0 0 va1_6))).set 3 (eI 499 g98))) (ls' := [some (vR (n + 0)), some (vI 0), some (vI (nI 0))]) rfl rfl rfl ?_
  refine pw_loop1 144 (fun i0 => h0 ++ ((((frM n wf).set 0 (eO 12 [vI 0, vR (n + 1), vR (n + 2), vI 0, vR (n + 3), vI 1, vI 0, vR (n + 4), vR (n + 5), vR (n + 6), vR (n + 7), vR (n + 8), vI 0, vI 0, vI 0, vI 0, vI 0, vR (n + 9), vR (n + 10), vR (n + 11), vR (n + 12), vR (n + 13), vR (n + 14), vR (n + 15), vR (n + 16), vI 0, vI 0, vI 0, vR (n + 17), vI 0, vI 0, vI 0, vI 0, vI ((-1)), vI 0, vR (n + 18), vI 0, vR (n + 19), vI 0, vR (n + 20), vR (n + 21), vR (n + 22), vR (n + 23), vI 0, vR (n + 24), vR (n + 25), vI 0, vR (n + 26), vR (n + 27), vR (n + 28), vI 0, vR (n + 29), vI 0, vR (n + 30), vI 0, vR (n + 31), vR (n + 32), vI 0, vR (n + 33), vR (n + 34), vR (n + 35), vI 0, vR (n + 36), vI 0, vR (n + 37), vI 0, vR (n + 38), vR (n + 39), vR (n + 40), vR (n + 41), vI 0, vI 0, vI 0, vI 0, vI 0, vR (n + 42)])).set 1 (eI 499 (nw va1_0 va1_1 0 0 0 0 va1_6))).set 3 (eI 499 g98))) (fun i0 => [some (vR (n + 0)), some (vI 0), some (vI (nI i0))]) ?_ ?_ 0 (by omega)
  · refine r_eq (h' := h0 ++ ((((frM n wf).set 0 (eO 12 [vI 0, vR (n + 1), vR (n + 2), vI 0, vR (n + 3), vI 1, vI 0, vR (n + 4), vR (n + 5), vR (n + 6), vR (n + 7), vR (n + 8), vI 0, vI 0, vI 0, vI 0, vI 0, vR (n + 9), vR (n + 10), vR (n + 11), vR (n + 12), vR (n + 13), vR (n + 14), vR (n + 15), vR (n + 16), vI 0, vI 0, vI 0, vR (n + 17), vI 0, vI 0, vI 0, vI 0, vI ((-1)), vI 0, vR (n + 18), vI 0, vR (n + 19), vI 0, vR (n + 20), vR (n + 21), vR (n + 22), vR (n + 23), vI 0, vR (n + 24), vR (n + 25), vI 0, vR (n + 26), vR (n + 27), vR (n + 28), vI 0, vR (n + 29), vI 0, vR (n + 30), vI 0, vR (n + 31), vR (n + 32), vI 0, vR (n + 33), vR (n + 34), vR (n + 35), vI 0, vR (n + 36), vI 0, vR (n + 37), vI 0, vR (n + 38), vR (n + 39), vR (n + 40), vR (n + 41), vI 0, vI 0, vI 0, vI 0, vI 0, vR (n + 42)])).set 1 (eI 499 (nw va1_0 va1_1 0 0 0 0 va1_6))).set 3 (eI 499 g98))) (ls' := [some (vR (n + 0)), some (vI 0), some (vI (nI 144))]) rfl rfl rfl ?_
    refine r_iload_n X dX12_sumOf_4 rfl ?_
    refine r_sipush (v := 144) X dX12_sumOf_5 (by decide +kernel) ?_
    refine r_icmp_ge_t (tgt := 44) X dX12_sumOf_8 rfl (by decide +kernel) ?_
    refine r_iload_n X dX12_sumOf_44 rfl ?_
    exact r_ret_i X hr hlk dX12_sumOf_45 (Nat.le_of_ble_eq_true rfl) (Nat.le_of_ble_eq_true rfl) ⟨_, rfl, ⟨rfl, rfl⟩⟩
  · rintro i0 hi0 ih0 
    refine r_eq (h' := h0 ++ ((((frM n wf).set 0 (eO 12 [vI 0, vR (n + 1), vR (n + 2), vI 0, vR (n + 3), vI 1, vI 0, vR (n + 4), vR (n + 5), vR (n + 6), vR (n + 7), vR (n + 8), vI 0, vI 0, vI 0, vI 0, vI 0, vR (n + 9), vR (n + 10), vR (n + 11), vR (n + 12), vR (n + 13), vR (n + 14), vR (n + 15), vR (n + 16), vI 0, vI 0, vI 0, vR (n + 17), vI 0, vI 0, vI 0, vI 0, vI ((-1)), vI 0, vR (n + 18), vI 0, vR (n + 19), vI 0, vR (n + 20), vR (n + 21), vR (n + 22), vR (n + 23), vI 0, vR (n + 24), vR (n + 25), vI 0, vR (n + 26), vR (n + 27), vR (n + 28), vI 0, vR (n + 29), vI 0, vR (n + 30), vI 0, vR (n + 31), vR (n + 32), vI 0, vR (n + 33), vR (n + 34), vR (n + 35), vI 0, vR (n + 36), vI 0, vR (n + 37), vI 0, vR (n + 38), vR (n + 39), vR (n + 40), vR (n + 41), vI 0, vI 0, vI 0, vI 0, vI 0, vR (n + 42)])).set 1 (eI 499 (nw va1_0 va1_1 0 0 0 0 va1_6))).set 3 (eI 499 g98))) (ls' := [some (vR (n + 0)), some (vI 0), some (vI (nI i0))]) rfl rfl rfl ?_
    refine r_iload_n X dX12_sumOf_4 rfl ?_
    refine r_sipush (v := 144) X dX12_sumOf_5 (by decide +kernel) ?_
    refine r_icmp_ge_f (tgt := 44) X dX12_sumOf_8 rfl (by have e0 : (144 : Int32).toInt = 144 := (by decide); have e1 : (nI i0).toInt = ((i0 : Nat) : Int) := toN (rfl) (by omega); simp only [Int32.lt_iff_toInt_lt, Int32.le_iff_toInt_le, ← Int32.toInt_inj] at  ⊢; omega) ?_
    refine r_aload_n X dX12_sumOf_11 rfl ?_
    refine r_iload_n X dX12_sumOf_12 rfl ?_
    refine r_V1i X kv_X12_332 dX12_sumOf_13 (apG (k := 0) hn rfl) rfl (km94_X12_isMarked l G _ _ hn _ _ _ _ _ _ (by omega)) rfl (fun x h' hΨ => ?_)
    obtain ⟨rfl, rfl⟩ := hΨ
    refine r_if_eq_t (tgt := 38) X dX12_sumOf_16 rfl (by decide +kernel) ?_
    refine r_iinc (v := nI (i0 + 1)) X dX12_sumOf_38 rfl (nadd (rfl) rfl) (by decide) ?_
    refine r_goto (tgt := 4) X dX12_sumOf_41 rfl ?_
    exact r_eq (h' := h0 ++ ((((frM n wf).set 0 (eO 12 [vI 0, vR (n + 1), vR (n + 2), vI 0, vR (n + 3), vI 1, vI 0, vR (n + 4), vR (n + 5), vR (n + 6), vR (n + 7), vR (n + 8), vI 0, vI 0, vI 0, vI 0, vI 0, vR (n + 9), vR (n + 10), vR (n + 11), vR (n + 12), vR (n + 13), vR (n + 14), vR (n + 15), vR (n + 16), vI 0, vI 0, vI 0, vR (n + 17), vI 0, vI 0, vI 0, vI 0, vI ((-1)), vI 0, vR (n + 18), vI 0, vR (n + 19), vI 0, vR (n + 20), vR (n + 21), vR (n + 22), vR (n + 23), vI 0, vR (n + 24), vR (n + 25), vI 0, vR (n + 26), vR (n + 27), vR (n + 28), vI 0, vR (n + 29), vI 0, vR (n + 30), vI 0, vR (n + 31), vR (n + 32), vI 0, vR (n + 33), vR (n + 34), vR (n + 35), vI 0, vR (n + 36), vI 0, vR (n + 37), vI 0, vR (n + 38), vR (n + 39), vR (n + 40), vR (n + 41), vI 0, vI 0, vI 0, vI 0, vI 0, vR (n + 42)])).set 1 (eI 499 (nw va1_0 va1_1 0 0 0 0 va1_6))).set 3 (eI 499 g98))) (ls' := [some (vR (n + 0)), some (vI 0), some (vI (nI (i0 + 1)))]) (st' := []) rfl rfl rfl (ih0)
set_option maxRecDepth 100000 in
set_option maxHeartbeats 4000000 in
theorem km96_X12_markMany (l : Launch) (G : PG) (h0 : PH) (n : Nat) (hn : h0.length = n) (wf : Nat → Int32) (va1_0 va1_1 va1_6 : Int32) (g98 : Nat → Int32) : PMet l G yX12_markMany cX12_markMany 3 (some .int) 1 0 0 [vR (n + 0)] (h0 ++ ((((frM n wf).set 0 (eO 12 [vI 0, vR (n + 1), vR (n + 2), vI 0, vR (n + 3), vI 1, vI 0, vR (n + 4), vR (n + 5), vR (n + 6), vR (n + 7), vR (n + 8), vI 0, vI 0, vI 0, vI 0, vI 0, vR (n + 9), vR (n + 10), vR (n + 11), vR (n + 12), vR (n + 13), vR (n + 14), vR (n + 15), vR (n + 16), vI 0, vI 0, vI 0, vR (n + 17), vI 0, vI 0, vI 0, vI 0, vI ((-1)), vI 0, vR (n + 18), vI 0, vR (n + 19), vI 0, vR (n + 20), vR (n + 21), vR (n + 22), vR (n + 23), vI 0, vR (n + 24), vR (n + 25), vI 0, vR (n + 26), vR (n + 27), vR (n + 28), vI 0, vR (n + 29), vI 0, vR (n + 30), vI 0, vR (n + 31), vR (n + 32), vI 0, vR (n + 33), vR (n + 34), vR (n + 35), vI 0, vR (n + 36), vI 0, vR (n + 37), vI 0, vR (n + 38), vR (n + 39), vR (n + 40), vR (n + 41), vI 0, vI 0, vI 0, vI 0, vI 0, vR (n + 42)])).set 1 (eI 499 (nw va1_0 va1_1 0 0 0 0 va1_6))).set 3 (eI 499 g98))) (qI (fun x h' => x = 0 ∧ h' = h0 ++ ((((frM n wf).set 0 (eO 12 [vI 0, vR (n + 1), vR (n + 2), vI 0, vR (n + 3), vI 1, vI 0, vR (n + 4), vR (n + 5), vR (n + 6), vR (n + 7), vR (n + 8), vI 0, vI 0, vI 0, vI 0, vI 0, vR (n + 9), vR (n + 10), vR (n + 11), vR (n + 12), vR (n + 13), vR (n + 14), vR (n + 15), vR (n + 16), vI 0, vI 0, vI 0, vR (n + 17), vI 0, vI 0, vI 0, vI 0, vI ((-1)), vI 0, vR (n + 18), vI 0, vR (n + 19), vI 0, vR (n + 20), vR (n + 21), vR (n + 22), vR (n + 23), vI 0, vR (n + 24), vR (n + 25), vI 0, vR (n + 26), vR (n + 27), vR (n + 28), vI 0, vR (n + 29), vI 0, vR (n + 30), vI 0, vR (n + 31), vR (n + 32), vI 0, vR (n + 33), vR (n + 34), vR (n + 35), vI 0, vR (n + 36), vI 0, vR (n + 37), vI 0, vR (n + 38), vR (n + 39), vR (n + 40), vR (n + 41), vI 0, vI 0, vI 0, vI 0, vI 0, vR (n + 42)])).set 1 (eI 499 (nw va1_0 va1_1 0 0 0 0 va1_6))).set 3 (eI 499 g98)))) := by
  refine PMet.intro (by decide) (Nat.le_of_ble_eq_true rfl) ?_
  intro p e s m args below meth c X hr hlk hnm
  refine r_iconst (v := 0) X dX12_markMany_0 (by decide +kernel) ?_
  refine r_istore_n X dX12_markMany_1 (by decide) ?_
  refine r_iconst (v := 0) X dX12_markMany_2 (by decide +kernel) ?_
  refine r_istore_n X dX12_markMany_3 (by decide) ?_
  refine r_eq (h' := h0 ++ ((((frM n wf).set 0 (eO 12 [vI 0, vR (n + 1), vR (n + 2), vI 0, vR (n + 3), vI 1, vI 0, vR (n + 4), vR (n + 5), vR (n + 6), vR (n + 7), vR (n + 8), vI 0, vI 0, vI 0, vI 0, vI 0, vR (n + 9), vR (n + 10), vR (n + 11), vR (n + 12), vR (n + 13), vR (n + 14), vR (n + 15), vR (n + 16), vI 0, vI 0, vI 0, vR (n + 17), vI 0, vI 0, vI 0, vI 0, vI ((-1)), vI 0, vR (n + 18), vI 0, vR (n + 19), vI 0, vR (n + 20), vR (n + 21), vR (n + 22), vR (n + 23), vI 0, vR (n + 24), vR (n + 25), vI 0, vR (n + 26), vR (n + 27), vR (n + 28), vI 0, vR (n + 29), vI 0, vR (n + 30), vI 0, vR (n + 31), vR (n + 32), vI 0, vR (n + 33), vR (n + 34), vR (n + 35), vI 0, vR (n + 36), vI 0, vR (n + 37), vI 0, vR (n + 38), vR (n + 39), vR (n + 40), vR (n + 41), vI 0, vI 0, vI 0, vI 0, vI 0, vR (n + 42)])).set 1 (eI 499 (nw va1_0 va1_1 0 0 0 0 va1_6))).set 3 (eI 499 g98))) (ls' := [some (vR (n + 0)), some (vI 0), some (vI (nI 0))]) rfl rfl rfl ?_
  refine pw_loop1 144 (fun i0 => h0 ++ ((((frM n wf).set 0 (eO 12 [vI 0, vR (n + 1), vR (n + 2), vI 0, vR (n + 3), vI 1, vI 0, vR (n + 4), vR (n + 5), vR (n + 6), vR (n + 7), vR (n + 8), vI 0, vI 0, vI 0, vI 0, vI 0, vR (n + 9), vR (n + 10), vR (n + 11), vR (n + 12), vR (n + 13), vR (n + 14), vR (n + 15), vR (n + 16), vI 0, vI 0, vI 0, vR (n + 17), vI 0, vI 0, vI 0, vI 0, vI ((-1)), vI 0, vR (n + 18), vI 0, vR (n + 19), vI 0, vR (n + 20), vR (n + 21), vR (n + 22), vR (n + 23), vI 0, vR (n + 24), vR (n + 25), vI 0, vR (n + 26), vR (n + 27), vR (n + 28), vI 0, vR (n + 29), vI 0, vR (n + 30), vI 0, vR (n + 31), vR (n + 32), vI 0, vR (n + 33), vR (n + 34), vR (n + 35), vI 0, vR (n + 36), vI 0, vR (n + 37), vI 0, vR (n + 38), vR (n + 39), vR (n + 40), vR (n + 41), vI 0, vI 0, vI 0, vI 0, vI 0, vR (n + 42)])).set 1 (eI 499 (nw va1_0 va1_1 0 0 0 0 va1_6))).set 3 (eI 499 g98))) (fun i0 => [some (vR (n + 0)), some (vI 0), some (vI (nI i0))]) ?_ ?_ 0 (by omega)
  · refine r_eq (h' := h0 ++ ((((frM n wf).set 0 (eO 12 [vI 0, vR (n + 1), vR (n + 2), vI 0, vR (n + 3), vI 1, vI 0, vR (n + 4), vR (n + 5), vR (n + 6), vR (n + 7), vR (n + 8), vI 0, vI 0, vI 0, vI 0, vI 0, vR (n + 9), vR (n + 10), vR (n + 11), vR (n + 12), vR (n + 13), vR (n + 14), vR (n + 15), vR (n + 16), vI 0, vI 0, vI 0, vR (n + 17), vI 0, vI 0, vI 0, vI 0, vI ((-1)), vI 0, vR (n + 18), vI 0, vR (n + 19), vI 0, vR (n + 20), vR (n + 21), vR (n + 22), vR (n + 23), vI 0, vR (n + 24), vR (n + 25), vI 0, vR (n + 26), vR (n + 27), vR (n + 28), vI 0, vR (n + 29), vI 0, vR (n + 30), vI 0, vR (n + 31), vR (n + 32), vI 0, vR (n + 33), vR (n + 34), vR (n + 35), vI 0, vR (n + 36), vI 0, vR (n + 37), vI 0, vR (n + 38), vR (n + 39), vR (n + 40), vR (n + 41), vI 0, vI 0, vI 0, vI 0, vI 0, vR (n + 42)])).set 1 (eI 499 (nw va1_0 va1_1 0 0 0 0 va1_6))).set 3 (eI 499 g98))) (ls' := [some (vR (n + 0)), some (vI 0), some (vI (nI 144))]) rfl rfl rfl ?_
    refine r_iload_n X dX12_markMany_4 rfl ?_
    refine r_sipush (v := 144) X dX12_markMany_5 (by decide +kernel) ?_
    refine r_icmp_ge_t (tgt := 29) X dX12_markMany_8 rfl (by decide +kernel) ?_
    refine r_iload_n X dX12_markMany_29 rfl ?_
    exact r_ret_i X hr hlk dX12_markMany_30 (Nat.le_of_ble_eq_true rfl) (Nat.le_of_ble_eq_true rfl) ⟨_, rfl, ⟨rfl, rfl⟩⟩
  · rintro i0 hi0 ih0 
    refine r_eq (h' := h0 ++ ((((frM n wf).set 0 (eO 12 [vI 0, vR (n + 1), vR (n + 2), vI 0, vR (n + 3), vI 1, vI 0, vR (n + 4), vR (n + 5), vR (n + 6), vR (n + 7), vR (n + 8), vI 0, vI 0, vI 0, vI 0, vI 0, vR (n + 9), vR (n + 10), vR (n + 11), vR (n + 12), vR (n + 13), vR (n + 14), vR (n + 15), vR (n + 16), vI 0, vI 0, vI 0, vR (n + 17), vI 0, vI 0, vI 0, vI 0, vI ((-1)), vI 0, vR (n + 18), vI 0, vR (n + 19), vI 0, vR (n + 20), vR (n + 21), vR (n + 22), vR (n + 23), vI 0, vR (n + 24), vR (n + 25), vI 0, vR (n + 26), vR (n + 27), vR (n + 28), vI 0, vR (n + 29), vI 0, vR (n + 30), vI 0, vR (n + 31), vR (n + 32), vI 0, vR (n + 33), vR (n + 34), vR (n + 35), vI 0, vR (n + 36), vI 0, vR (n + 37), vI 0, vR (n + 38), vR (n + 39), vR (n + 40), vR (n + 41), vI 0, vI 0, vI 0, vI 0, vI 0, vR (n + 42)])).set 1 (eI 499 (nw va1_0 va1_1 0 0 0 0 va1_6))).set 3 (eI 499 g98))) (ls' := [some (vR (n + 0)), some (vI 0), some (vI (nI i0))]) rfl rfl rfl ?_
    refine r_iload_n X dX12_markMany_4 rfl ?_
    refine r_sipush (v := 144) X dX12_markMany_5 (by decide +kernel) ?_
    refine r_icmp_ge_f (tgt := 29) X dX12_markMany_8 rfl (by have e0 : (144 : Int32).toInt = 144 := (by decide); have e1 : (nI i0).toInt = ((i0 : Nat) : Int) := toN (rfl) (by omega); simp only [Int32.lt_iff_toInt_lt, Int32.le_iff_toInt_le, ← Int32.toInt_inj] at  ⊢; omega) ?_
    refine r_aload_n X dX12_markMany_11 rfl ?_
    refine r_iload_n X dX12_markMany_12 rfl ?_
    refine r_V1i X kv_X12_332 dX12_markMany_13 (apG (k := 0) hn rfl) rfl (km94_X12_isMarked l G _ _ hn _ _ _ _ _ _ (by omega)) rfl (fun x h' hΨ => ?_)
    obtain ⟨rfl, rfl⟩ := hΨ
    refine r_if_eq_t (tgt := 23) X dX12_markMany_16 rfl (by decide +kernel) ?_
    refine r_iinc (v := nI (i0 + 1)) X dX12_markMany_23 rfl (nadd (rfl) rfl) (by decide) ?_
    refine r_goto (tgt := 4) X dX12_markMany_26 rfl ?_
    exact r_eq (h' := h0 ++ ((((frM n wf).set 0 (eO 12 [vI 0, vR (n + 1), vR (n + 2), vI 0, vR (n + 3), vI 1, vI 0, vR (n + 4), vR (n + 5), vR (n + 6), vR (n + 7), vR (n + 8), vI 0, vI 0, vI 0, vI 0, vI 0, vR (n + 9), vR (n + 10), vR (n + 11), vR (n + 12), vR (n + 13), vR (n + 14), vR (n + 15), vR (n + 16), vI 0, vI 0, vI 0, vR (n + 17), vI 0, vI 0, vI 0, vI 0, vI ((-1)), vI 0, vR (n + 18), vI 0, vR (n + 19), vI 0, vR (n + 20), vR (n + 21), vR (n + 22), vR (n + 23), vI 0, vR (n + 24), vR (n + 25), vI 0, vR (n + 26), vR (n + 27), vR (n + 28), vI 0, vR (n + 29), vI 0, vR (n + 30), vI 0, vR (n + 31), vR (n + 32), vI 0, vR (n + 33), vR (n + 34), vR (n + 35), vI 0, vR (n + 36), vI 0, vR (n + 37), vI 0, vR (n + 38), vR (n + 39), vR (n + 40), vR (n + 41), vI 0, vI 0, vI 0, vI 0, vI 0, vR (n + 42)])).set 1 (eI 499 (nw va1_0 va1_1 0 0 0 0 va1_6))).set 3 (eI 499 g98))) (ls' := [some (vR (n + 0)), some (vI 0), some (vI (nI (i0 + 1)))]) (st' := []) rfl rfl rfl (ih0)
set_option maxRecDepth 100000 in
set_option maxHeartbeats 4000000 in
theorem km97_X12_notes (l : Launch) (G : PG) (h0 : PH) (n : Nat) (hn : h0.length = n) (wf : Nat → Int32) (va1_0 va1_1 va1_6 : Int32) (g98 : Nat → Int32) : PMet l G yX12_notes cX12_notes 5 none 0 0 0 [vR (n + 0), vI 4, vI ((-1)), vI 0] (h0 ++ ((((frM n wf).set 0 (eO 12 [vI 0, vR (n + 1), vR (n + 2), vI 0, vR (n + 3), vI 1, vI 0, vR (n + 4), vR (n + 5), vR (n + 6), vR (n + 7), vR (n + 8), vI 0, vI 0, vI 0, vI 0, vI 0, vR (n + 9), vR (n + 10), vR (n + 11), vR (n + 12), vR (n + 13), vR (n + 14), vR (n + 15), vR (n + 16), vI 0, vI 0, vI 0, vR (n + 17), vI 0, vI 0, vI 0, vI 0, vI ((-1)), vI 0, vR (n + 18), vI 0, vR (n + 19), vI 0, vR (n + 20), vR (n + 21), vR (n + 22), vR (n + 23), vI 0, vR (n + 24), vR (n + 25), vI 0, vR (n + 26), vR (n + 27), vR (n + 28), vI 0, vR (n + 29), vI 0, vR (n + 30), vI 0, vR (n + 31), vR (n + 32), vI 0, vR (n + 33), vR (n + 34), vR (n + 35), vI 0, vR (n + 36), vI 0, vR (n + 37), vI 0, vR (n + 38), vR (n + 39), vR (n + 40), vR (n + 41), vI 0, vI 0, vI 0, vI 0, vI 0, vR (n + 42)])).set 1 (eI 499 (nw va1_0 va1_1 0 0 0 0 va1_6))).set 3 (eI 499 g98))) (qV (fun h' => h' = h0 ++ ((((frM n wf).set 0 (eO 12 [vI 0, vR (n + 1), vR (n + 2), vI 0, vR (n + 3), vI 1, vI 0, vR (n + 4), vR (n + 5), vR (n + 6), vR (n + 7), vR (n + 8), vI 0, vI 0, vI 0, vI 0, vI 0, vR (n + 9), vR (n + 10), vR (n + 11), vR (n + 12), vR (n + 13), vR (n + 14), vR (n + 15), vR (n + 16), vI 0, vI 0, vI 0, vR (n + 17), vI 0, vI 0, vI 0, vI 0, vI ((-1)), vI 0, vR (n + 18), vI 0, vR (n + 19), vI 0, vR (n + 20), vR (n + 21), vR (n + 22), vR (n + 23), vI 0, vR (n + 24), vR (n + 25), vI 0, vR (n + 26), vR (n + 27), vR (n + 28), vI 0, vR (n + 29), vI 0, vR (n + 30), vI 0, vR (n + 31), vR (n + 32), vI 0, vR (n + 33), vR (n + 34), vR (n + 35), vI 0, vR (n + 36), vI 0, vR (n + 37), vI 0, vR (n + 38), vR (n + 39), vR (n + 40), vR (n + 41), vI 0, vI 0, vI 0, vI 0, vI 0, vR (n + 42)])).set 1 (eI 499 (nw va1_0 va1_1 0 0 0 0 va1_6))).set 3 (eI 499 g98)))) := by
  refine PMet.intro (by decide) (Nat.le_of_ble_eq_true rfl) ?_
  intro p e s m args below meth c X hr hlk hnm
  refine r_aload_n X dX12_notes_0 rfl ?_
  refine a_get (a := 0) X hn fg_X12_146 dX12_notes_1 rfl rfl ?_
  refine r_if_ne_t (tgt := 19) X dX12_notes_4 rfl (by decide +kernel) ?_
  exact r_ret_v X hr hlk dX12_notes_19 (Nat.le_of_ble_eq_true rfl) (Nat.le_of_ble_eq_true rfl) ⟨rfl, rfl⟩
set_option maxRecDepth 100000 in
set_option maxHeartbeats 4000000 in
theorem km98_X12_isBare (l : Launch) (G : PG) (h0 : PH) (n : Nat) (hn : h0.length = n) (wf : Nat → Int32) (va1_0 va1_1 va1_6 : Int32) (g98 : Nat → Int32) (z0 : Nat) (hz0 : z0 ≤ 143) : PMet l G yX12_isBare cX12_isBare 2 none 0 0 0 [vR (n + 0), vI (nI z0)] (h0 ++ ((((frM n wf).set 0 (eO 12 [vI 0, vR (n + 1), vR (n + 2), vI 0, vR (n + 3), vI 1, vI 0, vR (n + 4), vR (n + 5), vR (n + 6), vR (n + 7), vR (n + 8), vI 0, vI 0, vI 0, vI 0, vI 0, vR (n + 9), vR (n + 10), vR (n + 11), vR (n + 12), vR (n + 13), vR (n + 14), vR (n + 15), vR (n + 16), vI 0, vI 0, vI 0, vR (n + 17), vI 0, vI 0, vI 0, vI 0, vI ((-1)), vI 0, vR (n + 18), vI 0, vR (n + 19), vI 0, vR (n + 20), vR (n + 21), vR (n + 22), vR (n + 23), vI 0, vR (n + 24), vR (n + 25), vI 0, vR (n + 26), vR (n + 27), vR (n + 28), vI 0, vR (n + 29), vI 0, vR (n + 30), vI 0, vR (n + 31), vR (n + 32), vI 0, vR (n + 33), vR (n + 34), vR (n + 35), vI 0, vR (n + 36), vI 0, vR (n + 37), vI 0, vR (n + 38), vR (n + 39), vR (n + 40), vR (n + 41), vI 0, vI 0, vI 0, vI 0, vI 0, vR (n + 42)])).set 1 (eI 499 (nw va1_0 va1_1 0 0 0 0 (va1_6 + 1)))).set 3 (eI 499 g98))) (qV (fun h' => h' = h0 ++ ((((frM n wf).set 0 (eO 12 [vI 0, vR (n + 1), vR (n + 2), vI 0, vR (n + 3), vI 1, vI 0, vR (n + 4), vR (n + 5), vR (n + 6), vR (n + 7), vR (n + 8), vI 0, vI 0, vI 0, vI 0, vI 0, vR (n + 9), vR (n + 10), vR (n + 11), vR (n + 12), vR (n + 13), vR (n + 14), vR (n + 15), vR (n + 16), vI 0, vI 0, vI 0, vR (n + 17), vI 0, vI 0, vI 0, vI 0, vI ((-1)), vI 0, vR (n + 18), vI 0, vR (n + 19), vI 0, vR (n + 20), vR (n + 21), vR (n + 22), vR (n + 23), vI 0, vR (n + 24), vR (n + 25), vI 0, vR (n + 26), vR (n + 27), vR (n + 28), vI 0, vR (n + 29), vI 0, vR (n + 30), vI 0, vR (n + 31), vR (n + 32), vI 0, vR (n + 33), vR (n + 34), vR (n + 35), vI 0, vR (n + 36), vI 0, vR (n + 37), vI 0, vR (n + 38), vR (n + 39), vR (n + 40), vR (n + 41), vI 0, vI 0, vI 0, vI 0, vI 0, vR (n + 42)])).set 1 (eI 499 (nw va1_0 va1_1 0 0 0 0 (va1_6 + 1)))).set 3 (eI 499 g98)))) := by
  refine PMet.intro (by decide) (Nat.le_of_ble_eq_true rfl) ?_
  intro p e s m args below meth c X hr hlk hnm
  refine r_aload_n X dX12_isBare_0 rfl ?_
  refine a_get (a := 0) X hn fg_X12_7 dX12_isBare_1 rfl rfl ?_
  refine r_bipush (v := 67) X dX12_isBare_4 (by decide +kernel) ?_
  refine r_iload_n X dX12_isBare_6 rfl ?_
  refine r_iaddE (v := nI (67 + z0)) X dX12_isBare_7 (nadd ((rfl : (67 : Int32) = nI 67)) (rfl)) ?_
  refine r_iconst (v := 0) X dX12_isBare_8 (by decide +kernel) ?_
  refine a_iastE (a := 1) (f' := nw va1_0 va1_1 0 0 0 0 (va1_6 + 1)) X hn dX12_isBare_9 rfl (vin (k := (67 + z0)) (rfl) (by omega) (by decide)) (nw_uh (k := (67 + z0)) (rfl) (by omega) (by omega)) ?_
  refine r_eq (h' := h0 ++ ((((frM n wf).set 0 (eO 12 [vI 0, vR (n + 1), vR (n + 2), vI 0, vR (n + 3), vI 1, vI 0, vR (n + 4), vR (n + 5), vR (n + 6), vR (n + 7), vR (n + 8), vI 0, vI 0, vI 0, vI 0, vI 0, vR (n + 9), vR (n + 10), vR (n + 11), vR (n + 12), vR (n + 13), vR (n + 14), vR (n + 15), vR (n + 16), vI 0, vI 0, vI 0, vR (n + 17), vI 0, vI 0, vI 0, vI 0, vI ((-1)), vI 0, vR (n + 18), vI 0, vR (n + 19), vI 0, vR (n + 20), vR (n + 21), vR (n + 22), vR (n + 23), vI 0, vR (n + 24), vR (n + 25), vI 0, vR (n + 26), vR (n + 27), vR (n + 28), vI 0, vR (n + 29), vI 0, vR (n + 30), vI 0, vR (n + 31), vR (n + 32), vI 0, vR (n + 33), vR (n + 34), vR (n + 35), vI 0, vR (n + 36), vI 0, vR (n + 37), vI 0, vR (n + 38), vR (n + 39), vR (n + 40), vR (n + 41), vI 0, vI 0, vI 0, vI 0, vI 0, vR (n + 42)])).set 1 (eI 499 (nw va1_0 va1_1 0 0 0 0 (va1_6 + 1)))).set 3 (eI 499 g98))) rfl rfl rfl ?_
  refine r_aload_n X dX12_isBare_10 rfl ?_
  refine a_get (a := 0) X hn fg_X12_7 dX12_isBare_11 rfl rfl ?_
  refine r_sipush (v := 211) X dX12_isBare_14 (by decide +kernel) ?_
  refine r_iload_n X dX12_isBare_17 rfl ?_
  refine r_iaddE (v := nI (211 + z0)) X dX12_isBare_18 (nadd ((rfl : (211 : Int32) = nI 211)) (rfl)) ?_
  refine r_iconst (v := 0) X dX12_isBare_19 (by decide +kernel) ?_
  refine a_iastE (a := 1) (f' := nw va1_0 va1_1 0 0 0 0 (va1_6 + 1)) X hn dX12_isBare_20 rfl (vin (k := (211 + z0)) (rfl) (by omega) (by decide)) (nw_uh (k := (211 + z0)) (rfl) (by omega) (by omega)) ?_
  refine r_eq (h' := h0 ++ ((((frM n wf).set 0 (eO 12 [vI 0, vR (n + 1), vR (n + 2), vI 0, vR (n + 3), vI 1, vI 0, vR (n + 4), vR (n + 5), vR (n + 6), vR (n + 7), vR (n + 8), vI 0, vI 0, vI 0, vI 0, vI 0, vR (n + 9), vR (n + 10), vR (n + 11), vR (n + 12), vR (n + 13), vR (n + 14), vR (n + 15), vR (n + 16), vI 0, vI 0, vI 0, vR (n + 17), vI 0, vI 0, vI 0, vI 0, vI ((-1)), vI 0, vR (n + 18), vI 0, vR (n + 19), vI 0, vR (n + 20), vR (n + 21), vR (n + 22), vR (n + 23), vI 0, vR (n + 24), vR (n + 25), vI 0, vR (n + 26), vR (n + 27), vR (n + 28), vI 0, vR (n + 29), vI 0, vR (n + 30), vI 0, vR (n + 31), vR (n + 32), vI 0, vR (n + 33), vR (n + 34), vR (n + 35), vI 0, vR (n + 36), vI 0, vR (n + 37), vI 0, vR (n + 38), vR (n + 39), vR (n + 40), vR (n + 41), vI 0, vI 0, vI 0, vI 0, vI 0, vR (n + 42)])).set 1 (eI 499 (nw va1_0 va1_1 0 0 0 0 (va1_6 + 1)))).set 3 (eI 499 g98))) rfl rfl rfl ?_
  refine r_aload_n X dX12_isBare_21 rfl ?_
  refine a_get (a := 0) X hn fg_X12_7 dX12_isBare_22 rfl rfl ?_
  refine r_sipush (v := 355) X dX12_isBare_25 (by decide +kernel) ?_
  refine r_iload_n X dX12_isBare_28 rfl ?_
  refine r_iaddE (v := nI (355 + z0)) X dX12_isBare_29 (nadd ((rfl : (355 : Int32) = nI 355)) (rfl)) ?_
  refine r_iconst (v := 0) X dX12_isBare_30 (by decide +kernel) ?_
  refine a_iastE (a := 1) (f' := nw va1_0 va1_1 0 0 0 0 (va1_6 + 1)) X hn dX12_isBare_31 rfl (vin (k := (355 + z0)) (rfl) (by omega) (by decide)) (nw_uh (k := (355 + z0)) (rfl) (by omega) (by omega)) ?_
  refine r_eq (h' := h0 ++ ((((frM n wf).set 0 (eO 12 [vI 0, vR (n + 1), vR (n + 2), vI 0, vR (n + 3), vI 1, vI 0, vR (n + 4), vR (n + 5), vR (n + 6), vR (n + 7), vR (n + 8), vI 0, vI 0, vI 0, vI 0, vI 0, vR (n + 9), vR (n + 10), vR (n + 11), vR (n + 12), vR (n + 13), vR (n + 14), vR (n + 15), vR (n + 16), vI 0, vI 0, vI 0, vR (n + 17), vI 0, vI 0, vI 0, vI 0, vI ((-1)), vI 0, vR (n + 18), vI 0, vR (n + 19), vI 0, vR (n + 20), vR (n + 21), vR (n + 22), vR (n + 23), vI 0, vR (n + 24), vR (n + 25), vI 0, vR (n + 26), vR (n + 27), vR (n + 28), vI 0, vR (n + 29), vI 0, vR (n + 30), vI 0, vR (n + 31), vR (n + 32), vI 0, vR (n + 33), vR (n + 34), vR (n + 35), vI 0, vR (n + 36), vI 0, vR (n + 37), vI 0, vR (n + 38), vR (n + 39), vR (n + 40), vR (n + 41), vI 0, vI 0, vI 0, vI 0, vI 0, vR (n + 42)])).set 1 (eI 499 (nw va1_0 va1_1 0 0 0 0 (va1_6 + 1)))).set 3 (eI 499 g98))) rfl rfl rfl ?_
  exact r_ret_v X hr hlk dX12_isBare_32 (Nat.le_of_ble_eq_true rfl) (Nat.le_of_ble_eq_true rfl) ⟨rfl, rfl⟩
set_option maxRecDepth 100000 in
set_option maxHeartbeats 4000000 in
theorem km99_X12_evening (l : Launch) (G : PG) (h0 : PH) (n : Nat) (hn : h0.length = n) (wf : Nat → Int32) (va1_0 va1_1 va1_6 : Int32) (g98 : Nat → Int32) : PMet l G yX12_evening cX12_evening 3 none 2 0 0 [vR (n + 0)] (h0 ++ ((((frM n wf).set 0 (eO 12 [vI 0, vR (n + 1), vR (n + 2), vI 0, vR (n + 3), vI 1, vI 0, vR (n + 4), vR (n + 5), vR (n + 6), vR (n + 7), vR (n + 8), vI 0, vI 0, vI 0, vI 0, vI 0, vR (n + 9), vR (n + 10), vR (n + 11), vR (n + 12), vR (n + 13), vR (n + 14), vR (n + 15), vR (n + 16), vI 0, vI 0, vI 0, vR (n + 17), vI 0, vI 0, vI 0, vI 0, vI ((-1)), vI 0, vR (n + 18), vI 0, vR (n + 19), vI 0, vR (n + 20), vR (n + 21), vR (n + 22), vR (n + 23), vI 0, vR (n + 24), vR (n + 25), vI 0, vR (n + 26), vR (n + 27), vR (n + 28), vI 0, vR (n + 29), vI 0, vR (n + 30), vI 0, vR (n + 31), vR (n + 32), vI 0, vR (n + 33), vR (n + 34), vR (n + 35), vI 0, vR (n + 36), vI 0, vR (n + 37), vI 0, vR (n + 38), vR (n + 39), vR (n + 40), vR (n + 41), vI 0, vI 0, vI 0, vI 0, vI 0, vR (n + 42)])).set 1 (eI 499 (nw va1_0 va1_1 0 0 0 0 va1_6))).set 3 (eI 499 g98))) (qV (fun h' => h' = h0 ++ ((((frM n wf).set 0 (eO 12 [vI 0, vR (n + 1), vR (n + 2), vI 0, vR (n + 3), vI 1, vI 0, vR (n + 4), vR (n + 5), vR (n + 6), vR (n + 7), vR (n + 8), vI 0, vI 0, vI 0, vI 0, vI 0, vR (n + 9), vR (n + 10), vR (n + 11), vR (n + 12), vR (n + 13), vR (n + 14), vR (n + 15), vR (n + 16), vI 0, vI 0, vI 0, vR (n + 17), vI 0, vI 0, vI 0, vI 0, vI ((-1)), vI 0, vR (n + 18), vI 0, vR (n + 19), vI 0, vR (n + 20), vR (n + 21), vR (n + 22), vR (n + 23), vI 0, vR (n + 24), vR (n + 25), vI 0, vR (n + 26), vR (n + 27), vR (n + 28), vI 0, vR (n + 29), vI 0, vR (n + 30), vI 0, vR (n + 31), vR (n + 32), vI 0, vR (n + 33), vR (n + 34), vR (n + 35), vI 0, vR (n + 36), vI 0, vR (n + 37), vI 0, vR (n + 38), vR (n + 39), vR (n + 40), vR (n + 41), vI 0, vI 0, vI 0, vI 0, vI 0, vR (n + 42)])).set 1 (eI 499 (nw (va1_0 + 1) 0 0 0 0 0 (va1_6 + 1)))).set 3 (eI 499 g98)))) := by
  refine PMet.intro (by decide) (Nat.le_of_ble_eq_true rfl) ?_
  intro p e s m args below meth c X hr hlk hnm
  refine r_aload_n X dX12_evening_0 rfl ?_
  refine r_V0i X kv_X12_387 dX12_evening_1 (apG (k := 0) hn rfl) rfl (km95_X12_sumOf l G _ _ hn _ _ _ _ _) rfl (fun x h' hΨ => ?_)
  obtain ⟨rfl, rfl⟩ := hΨ
  refine r_istore_n X dX12_evening_4 (by decide) ?_
  refine r_aload_n X dX12_evening_5 rfl ?_
  refine r_iconst (v := 4) X dX12_evening_6 (by decide +kernel) ?_
  refine r_iconst (v := -1) X dX12_evening_7 (by decide +kernel) ?_
  refine r_iload_n X dX12_evening_8 rfl ?_
  refine r_V3v X kv_X12_356 dX12_evening_9 (apG (k := 0) hn rfl) rfl (km97_X12_notes l G _ _ hn _ _ _ _ _) rfl (fun h' hΨ => ?_)
  obtain rfl := hΨ
  refine r_iload_n X dX12_evening_12 rfl ?_
  refine r_if_le_t (tgt := 33) X dX12_evening_13 rfl (by decide +kernel) ?_
  refine r_aload_n X dX12_evening_33 rfl ?_
  refine a_get (a := 0) X hn fg_X12_7 dX12_evening_34 rfl rfl ?_
  refine r_bipush (v := 6) X dX12_evening_37 (by decide +kernel) ?_
  refine r_aload_n X dX12_evening_39 rfl ?_
  refine a_get (a := 0) X hn fg_X12_7 dX12_evening_40 rfl rfl ?_
  refine r_bipush (v := 6) X dX12_evening_43 (by decide +kernel) ?_
  refine a_iald (a := 1) (v := va1_6) X hn dX12_evening_45 rfl (inK (by decide +kernel)) (by rfl) ?_
  refine r_iconst (v := 1) X dX12_evening_46 (by decide +kernel) ?_
  refine r_iadd X dX12_evening_47 ?_
  refine a_iastE (a := 1) (f' := nw va1_0 va1_1 0 0 0 0 (va1_6 + 1)) X hn dX12_evening_48 rfl (inK (by decide +kernel)) (nw_u6) ?_
  refine r_eq (h' := h0 ++ ((((frM n wf).set 0 (eO 12 [vI 0, vR (n + 1), vR (n + 2), vI 0, vR (n + 3), vI 1, vI 0, vR (n + 4), vR (n + 5), vR (n + 6), vR (n + 7), vR (n + 8), vI 0, vI 0, vI 0, vI 0, vI 0, vR (n + 9), vR (n + 10), vR (n + 11), vR (n + 12), vR (n + 13), vR (n + 14), vR (n + 15), vR (n + 16), vI 0, vI 0, vI 0, vR (n + 17), vI 0, vI 0, vI 0, vI 0, vI ((-1)), vI 0, vR (n + 18), vI 0, vR (n + 19), vI 0, vR (n + 20), vR (n + 21), vR (n + 22), vR (n + 23), vI 0, vR (n + 24), vR (n + 25), vI 0, vR (n + 26), vR (n + 27), vR (n + 28), vI 0, vR (n + 29), vI 0, vR (n + 30), vI 0, vR (n + 31), vR (n + 32), vI 0, vR (n + 33), vR (n + 34), vR (n + 35), vI 0, vR (n + 36), vI 0, vR (n + 37), vI 0, vR (n + 38), vR (n + 39), vR (n + 40), vR (n + 41), vI 0, vI 0, vI 0, vI 0, vI 0, vR (n + 42)])).set 1 (eI 499 (nw va1_0 va1_1 0 0 0 0 (va1_6 + 1)))).set 3 (eI 499 g98))) rfl rfl rfl ?_
  refine r_iconst (v := 0) X dX12_evening_49 (by decide +kernel) ?_
  refine r_istore_n X dX12_evening_50 (by decide) ?_
  refine r_eq (h' := h0 ++ ((((frM n wf).set 0 (eO 12 [vI 0, vR (n + 1), vR (n + 2), vI 0, vR (n + 3), vI 1, vI 0, vR (n + 4), vR (n + 5), vR (n + 6), vR (n + 7), vR (n + 8), vI 0, vI 0, vI 0, vI 0, vI 0, vR (n + 9), vR (n + 10), vR (n + 11), vR (n + 12), vR (n + 13), vR (n + 14), vR (n + 15), vR (n + 16), vI 0, vI 0, vI 0, vR (n + 17), vI 0, vI 0, vI 0, vI 0, vI ((-1)), vI 0, vR (n + 18), vI 0, vR (n + 19), vI 0, vR (n + 20), vR (n + 21), vR (n + 22), vR (n + 23), vI 0, vR (n + 24), vR (n + 25), vI 0, vR (n + 26), vR (n + 27), vR (n + 28), vI 0, vR (n + 29), vI 0, vR (n + 30), vI 0, vR (n + 31), vR (n + 32), vI 0, vR (n + 33), vR (n + 34), vR (n + 35), vI 0, vR (n + 36), vI 0, vR (n + 37), vI 0, vR (n + 38), vR (n + 39), vR (n + 40), vR (n + 41), vI 0, vI 0, vI 0, vI 0, vI 0, vR (n + 42)])).set 1 (eI 499 (nw va1_0 va1_1 0 0 0 0 (va1_6 + 1)))).set 3 (eI 499 g98))) (ls' := [some (vR (n + 0)), some (vI 0), some (vI (nI 0))]) rfl rfl rfl ?_
  refine pw_loop1 144 (fun i0 => h0 ++ ((((frM n wf).set 0 (eO 12 [vI 0, vR (n + 1), vR (n + 2), vI 0, vR (n + 3), vI 1, vI 0, vR (n + 4), vR (n + 5), vR (n + 6), vR (n + 7), vR (n + 8), vI 0, vI 0, vI 0, vI 0, vI 0, vR (n + 9), vR (n + 10), vR (n + 11), vR (n + 12), vR (n + 13), vR (n + 14), vR (n + 15), vR (n + 16), vI 0, vI 0, vI 0, vR (n + 17), vI 0, vI 0, vI 0, vI 0, vI ((-1)), vI 0, vR (n + 18), vI 0, vR (n + 19), vI 0, vR (n + 20), vR (n + 21), vR (n + 22), vR (n + 23), vI 0, vR (n + 24), vR (n + 25), vI 0, vR (n + 26), vR (n + 27), vR (n + 28), vI 0, vR (n + 29), vI 0, vR (n + 30), vI 0, vR (n + 31), vR (n + 32), vI 0, vR (n + 33), vR (n + 34), vR (n + 35), vI 0, vR (n + 36), vI 0, vR (n + 37), vI 0, vR (n + 38), vR (n + 39), vR (n + 40), vR (n + 41), vI 0, vI 0, vI 0, vI 0, vI 0, vR (n + 42)])).set 1 (eI 499 (nw va1_0 va1_1 0 0 0 0 (va1_6 + 1)))).set 3 (eI 499 g98))) (fun i0 => [some (vR (n + 0)), some (vI 0), some (vI (nI i0))]) ?_ ?_ 0 (by omega)
  · refine r_eq (h' := h0 ++ ((((frM n wf).set 0 (eO 12 [vI 0, vR (n + 1), vR (n + 2), vI 0, vR (n + 3), vI 1, vI 0, vR (n + 4), vR (n + 5), vR (n + 6), vR (n + 7), vR (n + 8), vI 0, vI 0, vI 0, vI 0, vI 0, vR (n + 9), vR (n + 10), vR (n + 11), vR (n + 12), vR (n + 13), vR (n + 14), vR (n + 15), vR (n + 16), vI 0, vI 0, vI 0, vR (n + 17), vI 0, vI 0, vI 0, vI 0, vI ((-1)), vI 0, vR (n + 18), vI 0, vR (n + 19), vI 0, vR (n + 20), vR (n + 21), vR (n + 22), vR (n + 23), vI 0, vR (n + 24), vR (n + 25), vI 0, vR (n + 26), vR (n + 27), vR (n + 28), vI 0, vR (n + 29), vI 0, vR (n + 30), vI 0, vR (n + 31), vR (n + 32), vI 0, vR (n + 33), vR (n + 34), vR (n + 35), vI 0, vR (n + 36), vI 0, vR (n + 37), vI 0, vR (n + 38), vR (n + 39), vR (n + 40), vR (n + 41), vI 0, vI 0, vI 0, vI 0, vI 0, vR (n + 42)])).set 1 (eI 499 (nw va1_0 va1_1 0 0 0 0 (va1_6 + 1)))).set 3 (eI 499 g98))) (ls' := [some (vR (n + 0)), some (vI 0), some (vI (nI 144))]) rfl rfl rfl ?_
    refine r_iload_n X dX12_evening_51 rfl ?_
    refine r_sipush (v := 144) X dX12_evening_52 (by decide +kernel) ?_
    refine r_icmp_ge_t (tgt := 69) X dX12_evening_55 rfl (by decide +kernel) ?_
    refine r_aload_n X dX12_evening_69 rfl ?_
    refine a_get (a := 0) X hn fg_X12_7 dX12_evening_70 rfl rfl ?_
    refine r_iconst (v := 1) X dX12_evening_73 (by decide +kernel) ?_
    refine r_iconst (v := 0) X dX12_evening_74 (by decide +kernel) ?_
    refine a_iastE (a := 1) (f' := nw va1_0 0 0 0 0 0 (va1_6 + 1)) X hn dX12_evening_75 rfl (inK (by decide +kernel)) (nw_u1) ?_
    refine r_eq (h' := h0 ++ ((((frM n wf).set 0 (eO 12 [vI 0, vR (n + 1), vR (n + 2), vI 0, vR (n + 3), vI 1, vI 0, vR (n + 4), vR (n + 5), vR (n + 6), vR (n + 7), vR (n + 8), vI 0, vI 0, vI 0, vI 0, vI 0, vR (n + 9), vR (n + 10), vR (n + 11), vR (n + 12), vR (n + 13), vR (n + 14), vR (n + 15), vR (n + 16), vI 0, vI 0, vI 0, vR (n + 17), vI 0, vI 0, vI 0, vI 0, vI ((-1)), vI 0, vR (n + 18), vI 0, vR (n + 19), vI 0, vR (n + 20), vR (n + 21), vR (n + 22), vR (n + 23), vI 0, vR (n + 24), vR (n + 25), vI 0, vR (n + 26), vR (n + 27), vR (n + 28), vI 0, vR (n + 29), vI 0, vR (n + 30), vI 0, vR (n + 31), vR (n + 32), vI 0, vR (n + 33), vR (n + 34), vR (n + 35), vI 0, vR (n + 36), vI 0, vR (n + 37), vI 0, vR (n + 38), vR (n + 39), vR (n + 40), vR (n + 41), vI 0, vI 0, vI 0, vI 0, vI 0, vR (n + 42)])).set 1 (eI 499 (nw va1_0 0 0 0 0 0 (va1_6 + 1)))).set 3 (eI 499 g98))) rfl rfl rfl ?_
    refine r_aload_n X dX12_evening_76 rfl ?_
    refine a_get (a := 0) X hn fg_X12_7 dX12_evening_77 rfl rfl ?_
    refine r_iconst (v := 0) X dX12_evening_80 (by decide +kernel) ?_
    refine r_aload_n X dX12_evening_81 rfl ?_
    refine a_get (a := 0) X hn fg_X12_7 dX12_evening_82 rfl rfl ?_
    refine r_iconst (v := 0) X dX12_evening_85 (by decide +kernel) ?_
    refine a_iald (a := 1) (v := va1_0) X hn dX12_evening_86 rfl (inK (by decide +kernel)) (by rfl) ?_
    refine r_iconst (v := 1) X dX12_evening_87 (by decide +kernel) ?_
    refine r_iadd X dX12_evening_88 ?_
    refine a_iastE (a := 1) (f' := nw (va1_0 + 1) 0 0 0 0 0 (va1_6 + 1)) X hn dX12_evening_89 rfl (inK (by decide +kernel)) (nw_u0) ?_
    refine r_eq (h' := h0 ++ ((((frM n wf).set 0 (eO 12 [vI 0, vR (n + 1), vR (n + 2), vI 0, vR (n + 3), vI 1, vI 0, vR (n + 4), vR (n + 5), vR (n + 6), vR (n + 7), vR (n + 8), vI 0, vI 0, vI 0, vI 0, vI 0, vR (n + 9), vR (n + 10), vR (n + 11), vR (n + 12), vR (n + 13), vR (n + 14), vR (n + 15), vR (n + 16), vI 0, vI 0, vI 0, vR (n + 17), vI 0, vI 0, vI 0, vI 0, vI ((-1)), vI 0, vR (n + 18), vI 0, vR (n + 19), vI 0, vR (n + 20), vR (n + 21), vR (n + 22), vR (n + 23), vI 0, vR (n + 24), vR (n + 25), vI 0, vR (n + 26), vR (n + 27), vR (n + 28), vI 0, vR (n + 29), vI 0, vR (n + 30), vI 0, vR (n + 31), vR (n + 32), vI 0, vR (n + 33), vR (n + 34), vR (n + 35), vI 0, vR (n + 36), vI 0, vR (n + 37), vI 0, vR (n + 38), vR (n + 39), vR (n + 40), vR (n + 41), vI 0, vI 0, vI 0, vI 0, vI 0, vR (n + 42)])).set 1 (eI 499 (nw (va1_0 + 1) 0 0 0 0 0 (va1_6 + 1)))).set 3 (eI 499 g98))) rfl rfl rfl ?_
    exact r_ret_v X hr hlk dX12_evening_90 (Nat.le_of_ble_eq_true rfl) (Nat.le_of_ble_eq_true rfl) ⟨rfl, rfl⟩
  · rintro i0 hi0 ih0 
    refine r_eq (h' := h0 ++ ((((frM n wf).set 0 (eO 12 [vI 0, vR (n + 1), vR (n + 2), vI 0, vR (n + 3), vI 1, vI 0, vR (n + 4), vR (n + 5), vR (n + 6), vR (n + 7), vR (n + 8), vI 0, vI 0, vI 0, vI 0, vI 0, vR (n + 9), vR (n + 10), vR (n + 11), vR (n + 12), vR (n + 13), vR (n + 14), vR (n + 15), vR (n + 16), vI 0, vI 0, vI 0, vR (n + 17), vI 0, vI 0, vI 0, vI 0, vI ((-1)), vI 0, vR (n + 18), vI 0, vR (n + 19), vI 0, vR (n + 20), vR (n + 21), vR (n + 22), vR (n + 23), vI 0, vR (n + 24), vR (n + 25), vI 0, vR (n + 26), vR (n + 27), vR (n + 28), vI 0, vR (n + 29), vI 0, vR (n + 30), vI 0, vR (n + 31), vR (n + 32), vI 0, vR (n + 33), vR (n + 34), vR (n + 35), vI 0, vR (n + 36), vI 0, vR (n + 37), vI 0, vR (n + 38), vR (n + 39), vR (n + 40), vR (n + 41), vI 0, vI 0, vI 0, vI 0, vI 0, vR (n + 42)])).set 1 (eI 499 (nw va1_0 va1_1 0 0 0 0 (va1_6 + 1)))).set 3 (eI 499 g98))) (ls' := [some (vR (n + 0)), some (vI 0), some (vI (nI i0))]) rfl rfl rfl ?_
    refine r_iload_n X dX12_evening_51 rfl ?_
    refine r_sipush (v := 144) X dX12_evening_52 (by decide +kernel) ?_
    refine r_icmp_ge_f (tgt := 69) X dX12_evening_55 rfl (by have e0 : (144 : Int32).toInt = 144 := (by decide); have e1 : (nI i0).toInt = ((i0 : Nat) : Int) := toN (rfl) (by omega); simp only [Int32.lt_iff_toInt_lt, Int32.le_iff_toInt_le, ← Int32.toInt_inj] at  ⊢; omega) ?_
    refine r_aload_n X dX12_evening_58 rfl ?_
    refine r_iload_n X dX12_evening_59 rfl ?_
    refine r_V1v X kv_X12_360 dX12_evening_60 (apG (k := 0) hn rfl) rfl (km98_X12_isBare l G _ _ hn _ _ _ _ _ _ (by omega)) rfl (fun h' hΨ => ?_)
    obtain rfl := hΨ
    refine r_iinc (v := nI (i0 + 1)) X dX12_evening_63 rfl (nadd (rfl) rfl) (by decide) ?_
    refine r_goto (tgt := 51) X dX12_evening_66 rfl ?_
    exact r_eq (h' := h0 ++ ((((frM n wf).set 0 (eO 12 [vI 0, vR (n + 1), vR (n + 2), vI 0, vR (n + 3), vI 1, vI 0, vR (n + 4), vR (n + 5), vR (n + 6), vR (n + 7), vR (n + 8), vI 0, vI 0, vI 0, vI 0, vI 0, vR (n + 9), vR (n + 10), vR (n + 11), vR (n + 12), vR (n + 13), vR (n + 14), vR (n + 15), vR (n + 16), vI 0, vI 0, vI 0, vR (n + 17), vI 0, vI 0, vI 0, vI 0, vI ((-1)), vI 0, vR (n + 18), vI 0, vR (n + 19), vI 0, vR (n + 20), vR (n + 21), vR (n + 22), vR (n + 23), vI 0, vR (n + 24), vR (n + 25), vI 0, vR (n + 26), vR (n + 27), vR (n + 28), vI 0, vR (n + 29), vI 0, vR (n + 30), vI 0, vR (n + 31), vR (n + 32), vI 0, vR (n + 33), vR (n + 34), vR (n + 35), vI 0, vR (n + 36), vI 0, vR (n + 37), vI 0, vR (n + 38), vR (n + 39), vR (n + 40), vR (n + 41), vI 0, vI 0, vI 0, vI 0, vI 0, vR (n + 42)])).set 1 (eI 499 (nw va1_0 va1_1 0 0 0 0 (va1_6 + 1)))).set 3 (eI 499 g98))) (ls' := [some (vR (n + 0)), some (vI 0), some (vI (nI (i0 + 1)))]) (st' := []) rfl rfl rfl (ih0)
set_option maxRecDepth 100000 in
set_option maxHeartbeats 4000000 in
theorem km100_X12_goesBy (l : Launch) (G : PG) (h0 : PH) (n : Nat) (hn : h0.length = n) (wf : Nat → Int32) (va1_0 va1_1 va1_6 : Int32) (g98 : Nat → Int32) : PMet l G yX12_goesBy cX12_goesBy 3 (some .int) 3 0 0 [vR (n + 0)] (h0 ++ ((((frM n wf).set 0 (eO 12 [vI 0, vR (n + 1), vR (n + 2), vI 0, vR (n + 3), vI 1, vI 0, vR (n + 4), vR (n + 5), vR (n + 6), vR (n + 7), vR (n + 8), vI 0, vI 0, vI 0, vI 0, vI 0, vR (n + 9), vR (n + 10), vR (n + 11), vR (n + 12), vR (n + 13), vR (n + 14), vR (n + 15), vR (n + 16), vI 0, vI 0, vI 0, vR (n + 17), vI 0, vI 0, vI 0, vI 0, vI ((-1)), vI 0, vR (n + 18), vI 0, vR (n + 19), vI 0, vR (n + 20), vR (n + 21), vR (n + 22), vR (n + 23), vI 0, vR (n + 24), vR (n + 25), vI 0, vR (n + 26), vR (n + 27), vR (n + 28), vI 0, vR (n + 29), vI 0, vR (n + 30), vI 0, vR (n + 31), vR (n + 32), vI 0, vR (n + 33), vR (n + 34), vR (n + 35), vI 0, vR (n + 36), vI 0, vR (n + 37), vI 0, vR (n + 38), vR (n + 39), vR (n + 40), vR (n + 41), vI 0, vI 0, vI 0, vI 0, vI 0, vR (n + 42)])).set 1 (eI 499 (nw va1_0 va1_1 0 0 0 0 va1_6))).set 3 (eI 499 g98))) (qI (fun x h' => ((¬ va1_1 = 11) ∧ x = 0 ∧ h' = h0 ++ ((((frM n wf).set 0 (eO 12 [vI 0, vR (n + 1), vR (n + 2), vI 0, vR (n + 3), vI 1, vI 0, vR (n + 4), vR (n + 5), vR (n + 6), vR (n + 7), vR (n + 8), vI 0, vI 0, vI 0, vI 0, vI 0, vR (n + 9), vR (n + 10), vR (n + 11), vR (n + 12), vR (n + 13), vR (n + 14), vR (n + 15), vR (n + 16), vI 0, vI 0, vI 0, vR (n + 17), vI 0, vI 0, vI 0, vI 0, vI ((-1)), vI 0, vR (n + 18), vI 0, vR (n + 19), vI 0, vR (n + 20), vR (n + 21), vR (n + 22), vR (n + 23), vI 0, vR (n + 24), vR (n + 25), vI 0, vR (n + 26), vR (n + 27), vR (n + 28), vI 0, vR (n + 29), vI 0, vR (n + 30), vI 0, vR (n + 31), vR (n + 32), vI 0, vR (n + 33), vR (n + 34), vR (n + 35), vI 0, vR (n + 36), vI 0, vR (n + 37), vI 0, vR (n + 38), vR (n + 39), vR (n + 40), vR (n + 41), vI 0, vI 0, vI 0, vI 0, vI 0, vR (n + 42)])).set 1 (eI 499 (nw va1_0 (va1_1 + 1) 0 0 0 0 va1_6))).set 3 (eI 499 g98))) ∨ ((va1_1 = 11) ∧ x = 0 ∧ h' = h0 ++ ((((frM n wf).set 0 (eO 12 [vI 0, vR (n + 1), vR (n + 2), vI 0, vR (n + 3), vI 1, vI 0, vR (n + 4), vR (n + 5), vR (n + 6), vR (n + 7), vR (n + 8), vI 0, vI 0, vI 0, vI 0, vI 0, vR (n + 9), vR (n + 10), vR (n + 11), vR (n + 12), vR (n + 13), vR (n + 14), vR (n + 15), vR (n + 16), vI 0, vI 0, vI 0, vR (n + 17), vI 0, vI 0, vI 0, vI 0, vI ((-1)), vI 0, vR (n + 18), vI 0, vR (n + 19), vI 0, vR (n + 20), vR (n + 21), vR (n + 22), vR (n + 23), vI 0, vR (n + 24), vR (n + 25), vI 0, vR (n + 26), vR (n + 27), vR (n + 28), vI 0, vR (n + 29), vI 0, vR (n + 30), vI 0, vR (n + 31), vR (n + 32), vI 0, vR (n + 33), vR (n + 34), vR (n + 35), vI 0, vR (n + 36), vI 0, vR (n + 37), vI 0, vR (n + 38), vR (n + 39), vR (n + 40), vR (n + 41), vI 0, vI 0, vI 0, vI 0, vI 0, vR (n + 42)])).set 1 (eI 499 (nw (va1_0 + 1) 0 0 0 0 0 (va1_6 + 1)))).set 3 (eI 499 g98))))) := by
  refine PMet.intro (by decide) (Nat.le_of_ble_eq_true rfl) ?_
  intro p e s m args below meth c X hr hlk hnm
  refine r_iconst (v := 0) X dX12_goesBy_0 (by decide +kernel) ?_
  refine r_istore_n X dX12_goesBy_1 (by decide) ?_
  refine r_iload_n X dX12_goesBy_2 rfl ?_
  refine r_iconst (v := 5) X dX12_goesBy_3 (by decide +kernel) ?_
  refine r_aload_n X dX12_goesBy_4 rfl ?_
  refine a_get (a := 0) X hn fg_X12_311 dX12_goesBy_5 rfl rfl ?_
  refine r_imulE (v := 0) X dX12_goesBy_8 (by decide +kernel) ?_
  refine r_icmp_ge_t (tgt := 56) X dX12_goesBy_9 rfl (by decide +kernel) ?_
  refine r_iconst (v := 0) X dX12_goesBy_56 (by decide +kernel) ?_
  refine r_istore_n X dX12_goesBy_57 (by decide) ?_
  refine r_iconst (v := 0) X dX12_goesBy_58 (by decide +kernel) ?_
  refine r_istore_n X dX12_goesBy_59 (by decide) ?_
  refine r_iload_n X dX12_goesBy_60 rfl ?_
  refine r_iconst (v := 3) X dX12_goesBy_61 (by decide +kernel) ?_
  refine r_aload_n X dX12_goesBy_62 rfl ?_
  refine a_get (a := 0) X hn fg_X12_308 dX12_goesBy_63 rfl rfl ?_
  refine r_imulE (v := 0) X dX12_goesBy_66 (by decide +kernel) ?_
  refine r_icmp_ge_t (tgt := 150) X dX12_goesBy_67 rfl (by decide +kernel) ?_
  refine r_iconst (v := 0) X dX12_goesBy_150 (by decide +kernel) ?_
  refine r_istore_n X dX12_goesBy_151 (by decide) ?_
  refine r_eq (h' := h0 ++ ((((frM n wf).set 0 (eO 12 [vI 0, vR (n + 1), vR (n + 2), vI 0, vR (n + 3), vI 1, vI 0, vR (n + 4), vR (n + 5), vR (n + 6), vR (n + 7), vR (n + 8), vI 0, vI 0, vI 0, vI 0, vI 0, vR (n + 9), vR (n + 10), vR (n + 11), vR (n + 12), vR (n + 13), vR (n + 14), vR (n + 15), vR (n + 16), vI 0, vI 0, vI 0, vR (n + 17), vI 0, vI 0, vI 0, vI 0, vI ((-1)), vI 0, vR (n + 18), vI 0, vR (n + 19), vI 0, vR (n + 20), vR (n + 21), vR (n + 22), vR (n + 23), vI 0, vR (n + 24), vR (n + 25), vI 0, vR (n + 26), vR (n + 27), vR (n + 28), vI 0, vR (n + 29), vI 0, vR (n + 30), vI 0, vR (n + 31), vR (n + 32), vI 0, vR (n + 33), vR (n + 34), vR (n + 35), vI 0, vR (n + 36), vI 0, vR (n + 37), vI 0, vR (n + 38), vR (n + 39), vR (n + 40), vR (n + 41), vI 0, vI 0, vI 0, vI 0, vI 0, vR (n + 42)])).set 1 (eI 499 (nw va1_0 va1_1 0 0 0 0 va1_6))).set 3 (eI 499 g98))) (ls' := [some (vR (n + 0)), some (vI 0), some (vI (nI 0))]) rfl rfl rfl ?_
  refine pw_loop1 144 (fun i0 => h0 ++ ((((frM n wf).set 0 (eO 12 [vI 0, vR (n + 1), vR (n + 2), vI 0, vR (n + 3), vI 1, vI 0, vR (n + 4), vR (n + 5), vR (n + 6), vR (n + 7), vR (n + 8), vI 0, vI 0, vI 0, vI 0, vI 0, vR (n + 9), vR (n + 10), vR (n + 11), vR (n + 12), vR (n + 13), vR (n + 14), vR (n + 15), vR (n + 16), vI 0, vI 0, vI 0, vR (n + 17), vI 0, vI 0, vI 0, vI 0, vI ((-1)), vI 0, vR (n + 18), vI 0, vR (n + 19), vI 0, vR (n + 20), vR (n + 21), vR (n + 22), vR (n + 23), vI 0, vR (n + 24), vR (n + 25), vI 0, vR (n + 26), vR (n + 27), vR (n + 28), vI 0, vR (n + 29), vI 0, vR (n + 30), vI 0, vR (n + 31), vR (n + 32), vI 0, vR (n + 33), vR (n + 34), vR (n + 35), vI 0, vR (n + 36), vI 0, vR (n + 37), vI 0, vR (n + 38), vR (n + 39), vR (n + 40), vR (n + 41), vI 0, vI 0, vI 0, vI 0, vI 0, vR (n + 42)])).set 1 (eI 499 (nw va1_0 va1_1 0 0 0 0 va1_6))).set 3 (eI 499 g98))) (fun i0 => [some (vR (n + 0)), some (vI 0), some (vI (nI i0))]) ?_ ?_ 0 (by omega)
  · refine r_eq (h' := h0 ++ ((((frM n wf).set 0 (eO 12 [vI 0, vR (n + 1), vR (n + 2), vI 0, vR (n + 3), vI 1, vI 0, vR (n + 4), vR (n + 5), vR (n + 6), vR (n + 7), vR (n + 8), vI 0, vI 0, vI 0, vI 0, vI 0, vR (n + 9), vR (n + 10), vR (n + 11), vR (n + 12), vR (n + 13), vR (n + 14), vR (n + 15), vR (n + 16), vI 0, vI 0, vI 0, vR (n + 17), vI 0, vI 0, vI 0, vI 0, vI ((-1)), vI 0, vR (n + 18), vI 0, vR (n + 19), vI 0, vR (n + 20), vR (n + 21), vR (n + 22), vR (n + 23), vI 0, vR (n + 24), vR (n + 25), vI 0, vR (n + 26), vR (n + 27), vR (n + 28), vI 0, vR (n + 29), vI 0, vR (n + 30), vI 0, vR (n + 31), vR (n + 32), vI 0, vR (n + 33), vR (n + 34), vR (n + 35), vI 0, vR (n + 36), vI 0, vR (n + 37), vI 0, vR (n + 38), vR (n + 39), vR (n + 40), vR (n + 41), vI 0, vI 0, vI 0, vI 0, vI 0, vR (n + 42)])).set 1 (eI 499 (nw va1_0 va1_1 0 0 0 0 va1_6))).set 3 (eI 499 g98))) (ls' := [some (vR (n + 0)), some (vI 0), some (vI (nI 144))]) rfl rfl rfl ?_
    refine r_iload_n X dX12_goesBy_152 rfl ?_
    refine r_sipush (v := 144) X dX12_goesBy_153 (by decide +kernel) ?_
    refine r_icmp_ge_t (tgt := 178) X dX12_goesBy_156 rfl (by decide +kernel) ?_
    refine r_aload_n X dX12_goesBy_178 rfl ?_
    refine a_get (a := 0) X hn fg_X12_7 dX12_goesBy_179 rfl rfl ?_
    refine r_iconst (v := 1) X dX12_goesBy_182 (by decide +kernel) ?_
    refine a_iald (a := 1) (v := va1_1) X hn dX12_goesBy_183 rfl (inK (by decide +kernel)) (by rfl) ?_
    refine r_bipush (v := 11) X dX12_goesBy_184 (by decide +kernel) ?_
    refine r_icmp_ne (tgt := 196) X dX12_goesBy_186 rfl (fun q1 => ?_) (fun q1 => ?_)
    · refine r_aload_n X dX12_goesBy_196 rfl ?_
      refine a_get (a := 0) X hn fg_X12_7 dX12_goesBy_197 rfl rfl ?_
      refine r_iconst (v := 1) X dX12_goesBy_200 (by decide +kernel) ?_
      refine r_aload_n X dX12_goesBy_201 rfl ?_
      refine a_get (a := 0) X hn fg_X12_7 dX12_goesBy_202 rfl rfl ?_
      refine r_iconst (v := 1) X dX12_goesBy_205 (by decide +kernel) ?_
      refine a_iald (a := 1) (v := va1_1) X hn dX12_goesBy_206 rfl (inK (by decide +kernel)) (by rfl) ?_
      refine r_iconst (v := 1) X dX12_goesBy_207 (by decide +kernel) ?_
      refine r_iadd X dX12_goesBy_208 ?_
      refine a_iastE (a := 1) (f' := nw va1_0 (va1_1 + 1) 0 0 0 0 va1_6) X hn dX12_goesBy_209 rfl (inK (by decide +kernel)) (nw_u1) ?_
      refine r_eq (h' := h0 ++ ((((frM n wf).set 0 (eO 12 [vI 0, vR (n + 1), vR (n + 2), vI 0, vR (n + 3), vI 1, vI 0, vR (n + 4), vR (n + 5), vR (n + 6), vR (n + 7), vR (n + 8), vI 0, vI 0, vI 0, vI 0, vI 0, vR (n + 9), vR (n + 10), vR (n + 11), vR (n + 12), vR (n + 13), vR (n + 14), vR (n + 15), vR (n + 16), vI 0, vI 0, vI 0, vR (n + 17), vI 0, vI 0, vI 0, vI 0, vI ((-1)), vI 0, vR (n + 18), vI 0, vR (n + 19), vI 0, vR (n + 20), vR (n + 21), vR (n + 22), vR (n + 23), vI 0, vR (n + 24), vR (n + 25), vI 0, vR (n + 26), vR (n + 27), vR (n + 28), vI 0, vR (n + 29), vI 0, vR (n + 30), vI 0, vR (n + 31), vR (n + 32), vI 0, vR (n + 33), vR (n + 34), vR (n + 35), vI 0, vR (n + 36), vI 0, vR (n + 37), vI 0, vR (n + 38), vR (n + 39), vR (n + 40), vR (n + 41), vI 0, vI 0, vI 0, vI 0, vI 0, vR (n + 42)])).set 1 (eI 499 (nw va1_0 (va1_1 + 1) 0 0 0 0 va1_6))).set 3 (eI 499 g98))) rfl rfl rfl ?_
      refine r_iload_n X dX12_goesBy_210 rfl ?_
      exact r_ret_i X hr hlk dX12_goesBy_211 (Nat.le_of_ble_eq_true rfl) (Nat.le_of_ble_eq_true rfl) ⟨_, rfl, Or.inl ⟨q1, rfl, rfl⟩⟩
    · refine r_aload_n X dX12_goesBy_189 rfl ?_
      refine r_V0v X kv_X12_399 dX12_goesBy_190 (apG (k := 0) hn rfl) rfl (km99_X12_evening l G _ _ hn _ _ _ _ _) rfl (fun h' hΨ => ?_)
      obtain rfl := hΨ
      refine r_goto (tgt := 210) X dX12_goesBy_193 rfl ?_
      refine r_iload_n X dX12_goesBy_210 rfl ?_
      exact r_ret_i X hr hlk dX12_goesBy_211 (Nat.le_of_ble_eq_true rfl) (Nat.le_of_ble_eq_true rfl) ⟨_, rfl, Or.inr (⟨q1, rfl, rfl⟩)⟩
  · rintro i0 hi0 ih0 
    refine r_eq (h' := h0 ++ ((((frM n wf).set 0 (eO 12 [vI 0, vR (n + 1), vR (n + 2), vI 0, vR (n + 3), vI 1, vI 0, vR (n + 4), vR (n + 5), vR (n + 6), vR (n + 7), vR (n + 8), vI 0, vI 0, vI 0, vI 0, vI 0, vR (n + 9), vR (n + 10), vR (n + 11), vR (n + 12), vR (n + 13), vR (n + 14), vR (n + 15), vR (n + 16), vI 0, vI 0, vI 0, vR (n + 17), vI 0, vI 0, vI 0, vI 0, vI ((-1)), vI 0, vR (n + 18), vI 0, vR (n + 19), vI 0, vR (n + 20), vR (n + 21), vR (n + 22), vR (n + 23), vI 0, vR (n + 24), vR (n + 25), vI 0, vR (n + 26), vR (n + 27), vR (n + 28), vI 0, vR (n + 29), vI 0, vR (n + 30), vI 0, vR (n + 31), vR (n + 32), vI 0, vR (n + 33), vR (n + 34), vR (n + 35), vI 0, vR (n + 36), vI 0, vR (n + 37), vI 0, vR (n + 38), vR (n + 39), vR (n + 40), vR (n + 41), vI 0, vI 0, vI 0, vI 0, vI 0, vR (n + 42)])).set 1 (eI 499 (nw va1_0 va1_1 0 0 0 0 va1_6))).set 3 (eI 499 g98))) (ls' := [some (vR (n + 0)), some (vI 0), some (vI (nI i0))]) rfl rfl rfl ?_
    refine r_iload_n X dX12_goesBy_152 rfl ?_
    refine r_sipush (v := 144) X dX12_goesBy_153 (by decide +kernel) ?_
    refine r_icmp_ge_f (tgt := 178) X dX12_goesBy_156 rfl (by have e0 : (144 : Int32).toInt = 144 := (by decide); have e1 : (nI i0).toInt = ((i0 : Nat) : Int) := toN (rfl) (by omega); simp only [Int32.lt_iff_toInt_lt, Int32.le_iff_toInt_le, ← Int32.toInt_inj] at  ⊢; omega) ?_
    refine r_aload_n X dX12_goesBy_159 rfl ?_
    refine r_iload_n X dX12_goesBy_160 rfl ?_
    refine r_V1i X kv_X12_332 dX12_goesBy_161 (apG (k := 0) hn rfl) rfl (km94_X12_isMarked l G _ _ hn _ _ _ _ _ _ (by omega)) rfl (fun x h' hΨ => ?_)
    obtain ⟨rfl, rfl⟩ := hΨ
    refine r_if_eq_t (tgt := 172) X dX12_goesBy_164 rfl (by decide +kernel) ?_
    refine r_iinc (v := nI (i0 + 1)) X dX12_goesBy_172 rfl (nadd (rfl) rfl) (by decide) ?_
    refine r_eq (ls' := [some (vR (n + 0)), some (vI 0), some (vI (nI (i0 + 1)))]) rfl rfl rfl ?_
    refine r_goto (tgt := 152) X dX12_goesBy_175 rfl ?_
    exact r_eq (h' := h0 ++ ((((frM n wf).set 0 (eO 12 [vI 0, vR (n + 1), vR (n + 2), vI 0, vR (n + 3), vI 1, vI 0, vR (n + 4), vR (n + 5), vR (n + 6), vR (n + 7), vR (n + 8), vI 0, vI 0, vI 0, vI 0, vI 0, vR (n + 9), vR (n + 10), vR (n + 11), vR (n + 12), vR (n + 13), vR (n + 14), vR (n + 15), vR (n + 16), vI 0, vI 0, vI 0, vR (n + 17), vI 0, vI 0, vI 0, vI 0, vI ((-1)), vI 0, vR (n + 18), vI 0, vR (n + 19), vI 0, vR (n + 20), vR (n + 21), vR (n + 22), vR (n + 23), vI 0, vR (n + 24), vR (n + 25), vI 0, vR (n + 26), vR (n + 27), vR (n + 28), vI 0, vR (n + 29), vI 0, vR (n + 30), vI 0, vR (n + 31), vR (n + 32), vI 0, vR (n + 33), vR (n + 34), vR (n + 35), vI 0, vR (n + 36), vI 0, vR (n + 37), vI 0, vR (n + 38), vR (n + 39), vR (n + 40), vR (n + 41), vI 0, vI 0, vI 0, vI 0, vI 0, vR (n + 42)])).set 1 (eI 499 (nw va1_0 va1_1 0 0 0 0 va1_6))).set 3 (eI 499 g98))) (ls' := [some (vR (n + 0)), some (vI 0), some (vI (nI (i0 + 1)))]) (st' := []) rfl rfl rfl (ih0)
set_option maxRecDepth 100000 in
set_option maxHeartbeats 4000000 in
theorem m_goes (l : Launch) (G : PG) (h0 : PH) (n : Nat) (hn : h0.length = n) (wf : Nat → Int32) (a b : Int32) : PMet l G yX12_goes cX12_goes 5 (some .int) 4 0 0 [vR (n + 0), vI a, vI b] (h0 ++ (frM n wf)) (qI (fun x h' => x = sp_goes a b)) := by
  refine PMet.intro (by decide) (Nat.le_of_ble_eq_true rfl) ?_
  intro p e s m args below meth c X hr hlk hnm
  refine r_aload_n X dX12_goes_0 rfl ?_
  refine r_iconst (v := 0) X dX12_goes_1 (by decide +kernel) ?_
  refine a_put (a := 0) X hn fp_X12_140 dX12_goes_2 rfl rfl rfl rfl ?_
  refine r_eq (h' := h0 ++ (frM n wf)) rfl rfl rfl ?_
  refine r_aload_n X dX12_goes_5 rfl ?_
  refine r_iload_n X dX12_goes_6 rfl ?_
  refine r_iconst (v := 1) X dX12_goes_7 (by decide +kernel) ?_
  refine r_bipush (v := 60) X dX12_goes_8 (by decide +kernel) ?_
  refine r_V3i X kv_X12_155 dX12_goes_10 (apG (k := 0) hn rfl) rfl (km35_X12_isIn l G _ _ hn _ _) rfl (fun x h' hΨ => ?_)
  rcases hΨ with ⟨q1, rfl, rfl⟩ | ⟨q2, q3, rfl, rfl⟩ | ⟨q4, q5, rfl, rfl⟩
  · refine r_if_eq_t (tgt := 26) X dX12_goes_13 rfl (by decide +kernel) ?_
    refine r_ldc_w (v := -100000) X kc_X12_405 dX12_goes_26 ?_
    exact r_ret_i X hr hlk dX12_goes_29 (Nat.le_of_ble_eq_true rfl) (Nat.le_of_ble_eq_true rfl) ⟨_, rfl, by unfold sp_goes; (repeat' split) <;> first | rfl | (exfalso; have e0 : (-100000 : Int32).toInt = -100000 := (by decide); have e1 : (0 : Int32).toInt = 0 := (by decide); have e2 : (1 : Int32).toInt = 1 := (by decide); have e3 : (3 : Int32).toInt = 3 := (by decide); have e4 : (60 : Int32).toInt = 60 := (by decide); simp only [inR, Int32.lt_iff_toInt_lt, Int32.le_iff_toInt_le, ← Int32.toInt_inj, true_or, or_true, not_true_eq_false, and_true, true_and, false_or, or_false, false_and, and_false, not_false_eq_true] at * <;> omega)⟩
  · refine r_if_eq_t (tgt := 26) X dX12_goes_13 rfl (by decide +kernel) ?_
    refine r_ldc_w (v := -100000) X kc_X12_405 dX12_goes_26 ?_
    exact r_ret_i X hr hlk dX12_goes_29 (Nat.le_of_ble_eq_true rfl) (Nat.le_of_ble_eq_true rfl) ⟨_, rfl, by unfold sp_goes; (repeat' split) <;> first | rfl | (exfalso; have e0 : (-100000 : Int32).toInt = -100000 := (by decide); have e1 : (0 : Int32).toInt = 0 := (by decide); have e2 : (1 : Int32).toInt = 1 := (by decide); have e3 : (3 : Int32).toInt = 3 := (by decide); have e4 : (60 : Int32).toInt = 60 := (by decide); simp only [inR, Int32.lt_iff_toInt_lt, Int32.le_iff_toInt_le, ← Int32.toInt_inj, true_or, or_true, not_true_eq_false, and_true, true_and, false_or, or_false, false_and, and_false, not_false_eq_true] at * <;> omega)⟩
  · refine r_if_eq_f (tgt := 26) X dX12_goes_13 rfl (by decide +kernel) ?_
    refine r_aload_n X dX12_goes_16 rfl ?_
    refine r_iload_n X dX12_goes_17 rfl ?_
    refine r_iconst (v := 0) X dX12_goes_18 (by decide +kernel) ?_
    refine r_iconst (v := 3) X dX12_goes_19 (by decide +kernel) ?_
    refine r_V3i X kv_X12_155 dX12_goes_20 (apG (k := 0) hn rfl) rfl (km5_X12_isIn l G _ _ hn _ _) rfl (fun x h' hΨ => ?_)
    rcases hΨ with ⟨q6, rfl, rfl⟩ | ⟨q7, q8, rfl, rfl⟩ | ⟨q9, q10, rfl, rfl⟩
    · refine r_if_ne_f (tgt := 30) X dX12_goes_23 rfl (by decide +kernel) ?_
      refine r_ldc_w (v := -100000) X kc_X12_405 dX12_goes_26 ?_
      exact r_ret_i X hr hlk dX12_goes_29 (Nat.le_of_ble_eq_true rfl) (Nat.le_of_ble_eq_true rfl) ⟨_, rfl, by unfold sp_goes; (repeat' split) <;> first | rfl | (exfalso; have e0 : (-100000 : Int32).toInt = -100000 := (by decide); have e1 : (0 : Int32).toInt = 0 := (by decide); have e2 : (1 : Int32).toInt = 1 := (by decide); have e3 : (3 : Int32).toInt = 3 := (by decide); have e4 : (60 : Int32).toInt = 60 := (by decide); simp only [inR, Int32.lt_iff_toInt_lt, Int32.le_iff_toInt_le, ← Int32.toInt_inj, true_or, or_true, not_true_eq_false, and_true, true_and, false_or, or_false, false_and, and_false, not_false_eq_true] at * <;> omega)⟩
    · refine r_if_ne_f (tgt := 30) X dX12_goes_23 rfl (by decide +kernel) ?_
      refine r_ldc_w (v := -100000) X kc_X12_405 dX12_goes_26 ?_
      exact r_ret_i X hr hlk dX12_goes_29 (Nat.le_of_ble_eq_true rfl) (Nat.le_of_ble_eq_true rfl) ⟨_, rfl, by unfold sp_goes; (repeat' split) <;> first | rfl | (exfalso; have e0 : (-100000 : Int32).toInt = -100000 := (by decide); have e1 : (0 : Int32).toInt = 0 := (by decide); have e2 : (1 : Int32).toInt = 1 := (by decide); have e3 : (3 : Int32).toInt = 3 := (by decide); have e4 : (60 : Int32).toInt = 60 := (by decide); simp only [inR, Int32.lt_iff_toInt_lt, Int32.le_iff_toInt_le, ← Int32.toInt_inj, true_or, or_true, not_true_eq_false, and_true, true_and, false_or, or_false, false_and, and_false, not_false_eq_true] at * <;> omega)⟩
    · refine r_if_ne_t (tgt := 30) X dX12_goes_23 rfl (by decide +kernel) ?_
      refine r_aload_n X dX12_goes_30 rfl ?_
      refine r_V0v X kv_X12_406 dX12_goes_31 (apG (k := 0) hn rfl) rfl (km92_X12_thinks l G _ _ hn _) rfl (fun h' hΨ => ?_)
      obtain ⟨g98, rfl⟩ := hΨ
      refine r_iconst (v := 0) X dX12_goes_34 (by decide +kernel) ?_
      refine r_istore_n X dX12_goes_35 (by decide) ?_
      obtain ⟨j_a, hj_a, rfl⟩ : ∃ j : Nat, j ≤ 60 ∧ a = nI j := nI_of2 (M := 60) (by decide) (by have e1 : (0 : Int32).toInt = 0 := (by decide); have e2 : (1 : Int32).toInt = 1 := (by decide); have e3 : (60 : Int32).toInt = 60 := (by decide); simp only [Int32.lt_iff_toInt_lt, Int32.le_iff_toInt_le, ← Int32.toInt_inj] at q4 q5 ⊢; omega) (by have e1 : (1 : Int32).toInt = 1 := (by decide); have e2 : (60 : Int32).toInt = 60 := (by decide); simp only [Int32.lt_iff_toInt_lt, Int32.le_iff_toInt_le, ← Int32.toInt_inj] at q4 q5 ⊢; omega)
      refine r_eq (h' := h0 ++ ((((frM n wf).set 0 (eO 12 [vI 0, vR (n + 1), vR (n + 2), vI 0, vR (n + 3), vI 1, vI 0, vR (n + 4), vR (n + 5), vR (n + 6), vR (n + 7), vR (n + 8), vI 0, vI 0, vI 0, vI 0, vI 0, vR (n + 9), vR (n + 10), vR (n + 11), vR (n + 12), vR (n + 13), vR (n + 14), vR (n + 15), vR (n + 16), vI 0, vI 0, vI 0, vR (n + 17), vI 0, vI 0, vI 0, vI 0, vI ((-1)), vI 0, vR (n + 18), vI 0, vR (n + 19), vI 0, vR (n + 20), vR (n + 21), vR (n + 22), vR (n + 23), vI 0, vR (n + 24), vR (n + 25), vI 0, vR (n + 26), vR (n + 27), vR (n + 28), vI 0, vR (n + 29), vI 0, vR (n + 30), vI 0, vR (n + 31), vR (n + 32), vI 0, vR (n + 33), vR (n + 34), vR (n + 35), vI 0, vR (n + 36), vI 0, vR (n + 37), vI 0, vR (n + 38), vR (n + 39), vR (n + 40), vR (n + 41), vI 0, vI 0, vI 0, vI 0, vI 0, vR (n + 42)])).set 1 (eI 499 (nw 0 0 0 0 0 0 0))).set 3 (eI 499 g98))) (ls' := [some (vR (n + 0)), some (vI (nI j_a)), some (vI b), some (vI (nI 0)), none]) rfl rfl rfl ?_
      refine pw_loopA (α := Int32 × Int32 × Int32) j_a (fun a => match a with | (va1_0, va1_1, va1_6) => True) (fun i0 => fun a => match a with | (va1_0, va1_1, va1_6) => h0 ++ ((((frM n wf).set 0 (eO 12 [vI 0, vR (n + 1), vR (n + 2), vI 0, vR (n + 3), vI 1, vI 0, vR (n + 4), vR (n + 5), vR (n + 6), vR (n + 7), vR (n + 8), vI 0, vI 0, vI 0, vI 0, vI 0, vR (n + 9), vR (n + 10), vR (n + 11), vR (n + 12), vR (n + 13), vR (n + 14), vR (n + 15), vR (n + 16), vI 0, vI 0, vI 0, vR (n + 17), vI 0, vI 0, vI 0, vI 0, vI ((-1)), vI 0, vR (n + 18), vI 0, vR (n + 19), vI 0, vR (n + 20), vR (n + 21), vR (n + 22), vR (n + 23), vI 0, vR (n + 24), vR (n + 25), vI 0, vR (n + 26), vR (n + 27), vR (n + 28), vI 0, vR (n + 29), vI 0, vR (n + 30), vI 0, vR (n + 31), vR (n + 32), vI 0, vR (n + 33), vR (n + 34), vR (n + 35), vI 0, vR (n + 36), vI 0, vR (n + 37), vI 0, vR (n + 38), vR (n + 39), vR (n + 40), vR (n + 41), vI 0, vI 0, vI 0, vI 0, vI 0, vR (n + 42)])).set 1 (eI 499 (nw va1_0 va1_1 0 0 0 0 va1_6))).set 3 (eI 499 g98))) (fun i0 => [some (vR (n + 0)), some (vI (nI j_a)), some (vI b), some (vI (nI i0)), none]) ?_ ?_ 0 (by omega) ((0), (0), (0)) (by trivial)
      · rintro ⟨va1_0, va1_1, va1_6⟩ _
        refine r_eq (h' := h0 ++ ((((frM n wf).set 0 (eO 12 [vI 0, vR (n + 1), vR (n + 2), vI 0, vR (n + 3), vI 1, vI 0, vR (n + 4), vR (n + 5), vR (n + 6), vR (n + 7), vR (n + 8), vI 0, vI 0, vI 0, vI 0, vI 0, vR (n + 9), vR (n + 10), vR (n + 11), vR (n + 12), vR (n + 13), vR (n + 14), vR (n + 15), vR (n + 16), vI 0, vI 0, vI 0, vR (n + 17), vI 0, vI 0, vI 0, vI 0, vI ((-1)), vI 0, vR (n + 18), vI 0, vR (n + 19), vI 0, vR (n + 20), vR (n + 21), vR (n + 22), vR (n + 23), vI 0, vR (n + 24), vR (n + 25), vI 0, vR (n + 26), vR (n + 27), vR (n + 28), vI 0, vR (n + 29), vI 0, vR (n + 30), vI 0, vR (n + 31), vR (n + 32), vI 0, vR (n + 33), vR (n + 34), vR (n + 35), vI 0, vR (n + 36), vI 0, vR (n + 37), vI 0, vR (n + 38), vR (n + 39), vR (n + 40), vR (n + 41), vI 0, vI 0, vI 0, vI 0, vI 0, vR (n + 42)])).set 1 (eI 499 (nw va1_0 va1_1 0 0 0 0 va1_6))).set 3 (eI 499 g98))) (ls' := [some (vR (n + 0)), some (vI (nI j_a)), some (vI b), some (vI (nI j_a)), none]) rfl rfl rfl ?_
        refine r_iload_n X dX12_goes_36 rfl ?_
        refine r_iload_n X dX12_goes_37 rfl ?_
        refine r_icmp_ge_t (tgt := 52) X dX12_goes_38 rfl (Int32.le_refl _) ?_
        refine r_iload_n X dX12_goes_52 rfl ?_
        refine r_if_ne (tgt := 65) X dX12_goes_53 rfl (fun q11 => ?_) (fun q11 => ?_)
        · refine r_iload_n X dX12_goes_65 rfl ?_
          refine r_iconst (v := 1) X dX12_goes_66 (by decide +kernel) ?_
          refine r_icmp_ne (tgt := 77) X dX12_goes_67 rfl (fun q12 => ?_) (fun q12 => ?_)
          · refine r_iload_n X dX12_goes_77 rfl ?_
            refine r_iconst (v := 2) X dX12_goes_78 (by decide +kernel) ?_
            refine r_icmp_ne (tgt := 89) X dX12_goes_79 rfl (fun q13 => ?_) (fun q13 => ?_)
            · refine r_iconst (v := 0) X dX12_goes_89 (by decide +kernel) ?_
              refine r_istore_n X dX12_goes_90 (by decide) ?_
              refine r_iconst (v := 0) X dX12_goes_91 (by decide +kernel) ?_
              refine r_istore X dX12_goes_92 (by decide) ?_
              refine r_iload X dX12_goes_94 rfl ?_
              refine r_aload_n X dX12_goes_96 rfl ?_
              refine a_get (a := 0) X hn fg_X12_152 dX12_goes_97 rfl rfl ?_
              refine r_icmp_ge_t (tgt := 127) X dX12_goes_100 rfl (by decide +kernel) ?_
              refine r_aload_n X dX12_goes_127 rfl ?_
              refine r_V0v X kv_X12_412 dX12_goes_128 (apG (k := 0) hn rfl) rfl (km93_X12_endsThought l G _ _ hn _ _ _ _ _) rfl (fun h' hΨ => ?_)
              obtain ⟨g100, rfl⟩ := hΨ
              refine r_iload_n X dX12_goes_131 rfl ?_
              exact r_ret_i X hr hlk dX12_goes_132 (Nat.le_of_ble_eq_true rfl) (Nat.le_of_ble_eq_true rfl) ⟨_, rfl, by unfold sp_goes; (repeat' split) <;> first | rfl | (exfalso; have e0 : (-100000 : Int32).toInt = -100000 := (by decide); have e1 : (0 : Int32).toInt = 0 := (by decide); have e2 : (1 : Int32).toInt = 1 := (by decide); have e3 : (2 : Int32).toInt = 2 := (by decide); have e4 : (3 : Int32).toInt = 3 := (by decide); have e5 : (60 : Int32).toInt = 60 := (by decide); have en0 : (nI j_a).toInt = ((j_a : Nat) : Int) := toN rfl (by omega); simp only [inR, Int32.lt_iff_toInt_lt, Int32.le_iff_toInt_le, ← Int32.toInt_inj, true_or, or_true, not_true_eq_false, and_true, true_and, false_or, or_false, false_and, and_false, not_false_eq_true] at * <;> omega)⟩
            · refine r_aload_n X dX12_goes_82 rfl ?_
              refine r_V0i X kv_X12_387 dX12_goes_83 (apG (k := 0) hn rfl) rfl (km95_X12_sumOf l G _ _ hn _ _ _ _ _) rfl (fun x h' hΨ => ?_)
              obtain ⟨rfl, rfl⟩ := hΨ
              refine r_goto (tgt := 90) X dX12_goes_86 rfl ?_
              refine r_istore_n X dX12_goes_90 (by decide) ?_
              refine r_iconst (v := 0) X dX12_goes_91 (by decide +kernel) ?_
              refine r_istore X dX12_goes_92 (by decide) ?_
              refine r_iload X dX12_goes_94 rfl ?_
              refine r_aload_n X dX12_goes_96 rfl ?_
              refine a_get (a := 0) X hn fg_X12_152 dX12_goes_97 rfl rfl ?_
              refine r_icmp_ge_t (tgt := 127) X dX12_goes_100 rfl (by decide +kernel) ?_
              refine r_aload_n X dX12_goes_127 rfl ?_
              refine r_V0v X kv_X12_412 dX12_goes_128 (apG (k := 0) hn rfl) rfl (km93_X12_endsThought l G _ _ hn _ _ _ _ _) rfl (fun h' hΨ => ?_)
              obtain ⟨g101, rfl⟩ := hΨ
              refine r_iload_n X dX12_goes_131 rfl ?_
              exact r_ret_i X hr hlk dX12_goes_132 (Nat.le_of_ble_eq_true rfl) (Nat.le_of_ble_eq_true rfl) ⟨_, rfl, by unfold sp_goes; (repeat' split) <;> first | rfl | (exfalso; have e0 : (-100000 : Int32).toInt = -100000 := (by decide); have e1 : (0 : Int32).toInt = 0 := (by decide); have e2 : (1 : Int32).toInt = 1 := (by decide); have e3 : (2 : Int32).toInt = 2 := (by decide); have e4 : (3 : Int32).toInt = 3 := (by decide); have e5 : (60 : Int32).toInt = 60 := (by decide); have en0 : (nI j_a).toInt = ((j_a : Nat) : Int) := toN rfl (by omega); simp only [inR, Int32.lt_iff_toInt_lt, Int32.le_iff_toInt_le, ← Int32.toInt_inj, true_or, or_true, not_true_eq_false, and_true, true_and, false_or, or_false, false_and, and_false, not_false_eq_true] at * <;> omega)⟩
          · refine r_aload_n X dX12_goes_70 rfl ?_
            refine r_V0i X kv_X12_409 dX12_goes_71 (apG (k := 0) hn rfl) rfl (km96_X12_markMany l G _ _ hn _ _ _ _ _) rfl (fun x h' hΨ => ?_)
            obtain ⟨rfl, rfl⟩ := hΨ
            refine r_goto (tgt := 90) X dX12_goes_74 rfl ?_
            refine r_istore_n X dX12_goes_90 (by decide) ?_
            refine r_iconst (v := 0) X dX12_goes_91 (by decide +kernel) ?_
            refine r_istore X dX12_goes_92 (by decide) ?_
            refine r_iload X dX12_goes_94 rfl ?_
            refine r_aload_n X dX12_goes_96 rfl ?_
            refine a_get (a := 0) X hn fg_X12_152 dX12_goes_97 rfl rfl ?_
            refine r_icmp_ge_t (tgt := 127) X dX12_goes_100 rfl (by decide +kernel) ?_
            refine r_aload_n X dX12_goes_127 rfl ?_
            refine r_V0v X kv_X12_412 dX12_goes_128 (apG (k := 0) hn rfl) rfl (km93_X12_endsThought l G _ _ hn _ _ _ _ _) rfl (fun h' hΨ => ?_)
            obtain ⟨g102, rfl⟩ := hΨ
            refine r_iload_n X dX12_goes_131 rfl ?_
            exact r_ret_i X hr hlk dX12_goes_132 (Nat.le_of_ble_eq_true rfl) (Nat.le_of_ble_eq_true rfl) ⟨_, rfl, by unfold sp_goes; (repeat' split) <;> first | rfl | (exfalso; have e0 : (-100000 : Int32).toInt = -100000 := (by decide); have e1 : (0 : Int32).toInt = 0 := (by decide); have e2 : (1 : Int32).toInt = 1 := (by decide); have e3 : (3 : Int32).toInt = 3 := (by decide); have e4 : (60 : Int32).toInt = 60 := (by decide); have en0 : (nI j_a).toInt = ((j_a : Nat) : Int) := toN rfl (by omega); simp only [inR, Int32.lt_iff_toInt_lt, Int32.le_iff_toInt_le, ← Int32.toInt_inj, true_or, or_true, not_true_eq_false, and_true, true_and, false_or, or_false, false_and, and_false, not_false_eq_true] at * <;> omega)⟩
        · refine r_aload_n X dX12_goes_56 rfl ?_
          refine a_get (a := 0) X hn fg_X12_7 dX12_goes_57 rfl rfl ?_
          refine r_iconst (v := 5) X dX12_goes_60 (by decide +kernel) ?_
          refine a_iald (a := 1) (v := 0) X hn dX12_goes_61 rfl (inK (by decide +kernel)) (by rfl) ?_
          refine r_goto (tgt := 90) X dX12_goes_62 rfl ?_
          refine r_istore_n X dX12_goes_90 (by decide) ?_
          refine r_iconst (v := 0) X dX12_goes_91 (by decide +kernel) ?_
          refine r_istore X dX12_goes_92 (by decide) ?_
          refine r_iload X dX12_goes_94 rfl ?_
          refine r_aload_n X dX12_goes_96 rfl ?_
          refine a_get (a := 0) X hn fg_X12_152 dX12_goes_97 rfl rfl ?_
          refine r_icmp_ge_t (tgt := 127) X dX12_goes_100 rfl (by decide +kernel) ?_
          refine r_aload_n X dX12_goes_127 rfl ?_
          refine r_V0v X kv_X12_412 dX12_goes_128 (apG (k := 0) hn rfl) rfl (km93_X12_endsThought l G _ _ hn _ _ _ _ _) rfl (fun h' hΨ => ?_)
          obtain ⟨g103, rfl⟩ := hΨ
          refine r_iload_n X dX12_goes_131 rfl ?_
          exact r_ret_i X hr hlk dX12_goes_132 (Nat.le_of_ble_eq_true rfl) (Nat.le_of_ble_eq_true rfl) ⟨_, rfl, by unfold sp_goes; (repeat' split) <;> first | rfl | (exfalso; have e0 : (-100000 : Int32).toInt = -100000 := (by decide); have e1 : (0 : Int32).toInt = 0 := (by decide); have e2 : (1 : Int32).toInt = 1 := (by decide); have e3 : (3 : Int32).toInt = 3 := (by decide); have e4 : (60 : Int32).toInt = 60 := (by decide); have en0 : (nI j_a).toInt = ((j_a : Nat) : Int) := toN rfl (by omega); simp only [inR, Int32.lt_iff_toInt_lt, Int32.le_iff_toInt_le, ← Int32.toInt_inj, true_or, or_true, not_true_eq_false, and_true, true_and, false_or, or_false, false_and, and_false, not_false_eq_true] at * <;> omega)⟩
      · rintro i0 hi0 ih0 ⟨va1_0, va1_1, va1_6⟩ _
        refine r_eq (h' := h0 ++ ((((frM n wf).set 0 (eO 12 [vI 0, vR (n + 1), vR (n + 2), vI 0, vR (n + 3), vI 1, vI 0, vR (n + 4), vR (n + 5), vR (n + 6), vR (n + 7), vR (n + 8), vI 0, vI 0, vI 0, vI 0, vI 0, vR (n + 9), vR (n + 10), vR (n + 11), vR (n + 12), vR (n + 13), vR (n + 14), vR (n + 15), vR (n + 16), vI 0, vI 0, vI 0, vR (n + 17), vI 0, vI 0, vI 0, vI 0, vI ((-1)), vI 0, vR (n + 18), vI 0, vR (n + 19), vI 0, vR (n + 20), vR (n + 21), vR (n + 22), vR (n + 23), vI 0, vR (n + 24), vR (n + 25), vI 0, vR (n + 26), vR (n + 27), vR (n + 28), vI 0, vR (n + 29), vI 0, vR (n + 30), vI 0, vR (n + 31), vR (n + 32), vI 0, vR (n + 33), vR (n + 34), vR (n + 35), vI 0, vR (n + 36), vI 0, vR (n + 37), vI 0, vR (n + 38), vR (n + 39), vR (n + 40), vR (n + 41), vI 0, vI 0, vI 0, vI 0, vI 0, vR (n + 42)])).set 1 (eI 499 (nw va1_0 va1_1 0 0 0 0 va1_6))).set 3 (eI 499 g98))) (ls' := [some (vR (n + 0)), some (vI (nI j_a)), some (vI b), some (vI (nI i0)), none]) rfl rfl rfl ?_
        refine r_iload_n X dX12_goes_36 rfl ?_
        refine r_iload_n X dX12_goes_37 rfl ?_
        refine r_icmp_ge_f (tgt := 52) X dX12_goes_38 rfl (nI_ge hi0 (by omega)) ?_
        refine r_aload_n X dX12_goes_41 rfl ?_
        refine r_V0i X kv_X12_402 dX12_goes_42 (apG (k := 0) hn rfl) rfl (km100_X12_goesBy l G _ _ hn _ _ _ _ _) rfl (fun x h' hΨ => ?_)
        rcases hΨ with ⟨q14, rfl, rfl⟩ | ⟨q15, rfl, rfl⟩
        · refine r_pop X dX12_goes_45 ?_
          refine r_iinc (v := nI (i0 + 1)) X dX12_goes_46 rfl (nadd (rfl) rfl) (by decide) ?_
          refine r_goto (tgt := 36) X dX12_goes_49 rfl ?_
          exact r_eq (h' := h0 ++ ((((frM n wf).set 0 (eO 12 [vI 0, vR (n + 1), vR (n + 2), vI 0, vR (n + 3), vI 1, vI 0, vR (n + 4), vR (n + 5), vR (n + 6), vR (n + 7), vR (n + 8), vI 0, vI 0, vI 0, vI 0, vI 0, vR (n + 9), vR (n + 10), vR (n + 11), vR (n + 12), vR (n + 13), vR (n + 14), vR (n + 15), vR (n + 16), vI 0, vI 0, vI 0, vR (n + 17), vI 0, vI 0, vI 0, vI 0, vI ((-1)), vI 0, vR (n + 18), vI 0, vR (n + 19), vI 0, vR (n + 20), vR (n + 21), vR (n + 22), vR (n + 23), vI 0, vR (n + 24), vR (n + 25), vI 0, vR (n + 26), vR (n + 27), vR (n + 28), vI 0, vR (n + 29), vI 0, vR (n + 30), vI 0, vR (n + 31), vR (n + 32), vI 0, vR (n + 33), vR (n + 34), vR (n + 35), vI 0, vR (n + 36), vI 0, vR (n + 37), vI 0, vR (n + 38), vR (n + 39), vR (n + 40), vR (n + 41), vI 0, vI 0, vI 0, vI 0, vI 0, vR (n + 42)])).set 1 (eI 499 (nw va1_0 (va1_1 + 1) 0 0 0 0 va1_6))).set 3 (eI 499 g98))) (ls' := [some (vR (n + 0)), some (vI (nI j_a)), some (vI b), some (vI (nI (i0 + 1))), none]) (st' := []) rfl rfl rfl (ih0 ((va1_0), (va1_1 + 1), (va1_6)) (by trivial))
        · refine r_pop X dX12_goes_45 ?_
          refine r_iinc (v := nI (i0 + 1)) X dX12_goes_46 rfl (nadd (rfl) rfl) (by decide) ?_
          refine r_goto (tgt := 36) X dX12_goes_49 rfl ?_
          exact r_eq (h' := h0 ++ ((((frM n wf).set 0 (eO 12 [vI 0, vR (n + 1), vR (n + 2), vI 0, vR (n + 3), vI 1, vI 0, vR (n + 4), vR (n + 5), vR (n + 6), vR (n + 7), vR (n + 8), vI 0, vI 0, vI 0, vI 0, vI 0, vR (n + 9), vR (n + 10), vR (n + 11), vR (n + 12), vR (n + 13), vR (n + 14), vR (n + 15), vR (n + 16), vI 0, vI 0, vI 0, vR (n + 17), vI 0, vI 0, vI 0, vI 0, vI ((-1)), vI 0, vR (n + 18), vI 0, vR (n + 19), vI 0, vR (n + 20), vR (n + 21), vR (n + 22), vR (n + 23), vI 0, vR (n + 24), vR (n + 25), vI 0, vR (n + 26), vR (n + 27), vR (n + 28), vI 0, vR (n + 29), vI 0, vR (n + 30), vI 0, vR (n + 31), vR (n + 32), vI 0, vR (n + 33), vR (n + 34), vR (n + 35), vI 0, vR (n + 36), vI 0, vR (n + 37), vI 0, vR (n + 38), vR (n + 39), vR (n + 40), vR (n + 41), vI 0, vI 0, vI 0, vI 0, vI 0, vR (n + 42)])).set 1 (eI 499 (nw (va1_0 + 1) 0 0 0 0 0 (va1_6 + 1)))).set 3 (eI 499 g98))) (ls' := [some (vR (n + 0)), some (vI (nI j_a)), some (vI b), some (vI (nI (i0 + 1))), none]) (st' := []) rfl rfl rfl (ih0 ((va1_0 + 1), (0), (va1_6 + 1)) (by trivial))
