set_option maxRecDepth 100000 in
set_option maxHeartbeats 4000000 in
theorem x_book (l : Launch) (G : PG) (h0 : PH) (n : Nat) (hn : h0.length = n) (T : PH) (a b : Int32) : PMet l G yX11_book cX11_book 3 (some .int) 0 0 0 [vR (n + 0), vI a, vI b] (h0 ++ (frC n ++ T)) (qI (fun x h' => x = sp_book a b ∧ kp n 103 T h')) := by
  refine PMet.intro (by decide) (Nat.le_of_ble_eq_true rfl) ?_
  intro p e s m args below meth c X hr hlk hnm
  refine r_iload_n X dX11_book_0 rfl ?_
  refine r_if_lt (tgt := 27) X dX11_book_1 rfl (fun q1 => ?_) (fun q1 => ?_)
  · refine r_sipush (v := -10000) X dX11_book_27 (by decide +kernel) ?_
    exact r_ret_i X hr hlk dX11_book_30 (Nat.le_of_ble_eq_true rfl) (Nat.le_of_ble_eq_true rfl) ⟨_, rfl, rfl, kp_of hn rfl rfl⟩
  · refine r_iload_n X dX11_book_4 rfl ?_
    refine r_aload_n X dX11_book_5 rfl ?_
    refine a_get (a := 0) X hn fg_X11_12 dX11_book_6 rfl rfl ?_
    refine a_get (a := 1) X hn fg_X11_67 dX11_book_9 rfl rfl ?_
    refine a_get (a := 2) X hn fg_X11_191 dX11_book_12 rfl rfl ?_
    refine r_icmp_ge_t (tgt := 27) X dX11_book_15 rfl (by have e0 : (0 : Int32).toInt = 0 := (by decide); simp only [Int32.lt_iff_toInt_lt, Int32.le_iff_toInt_le, ← Int32.toInt_inj] at q1 ⊢; omega) ?_
    refine r_sipush (v := -10000) X dX11_book_27 (by decide +kernel) ?_
    exact r_ret_i X hr hlk dX11_book_30 (Nat.le_of_ble_eq_true rfl) (Nat.le_of_ble_eq_true rfl) ⟨_, rfl, rfl, kp_of hn rfl rfl⟩
