theorem frM_lit (n : Nat) (wf : Nat → Int32) : [eO 12 [vI 0, vR (n + 1), vR (n + 2), vI 0, vR (n + 3), vI 0, vI 0, vR (n + 4), vR (n + 5), vR (n + 6), vR (n + 7), vR (n + 8), vI 0, vI 0, vI 0, vI 0, vI 0, vR (n + 9), vR (n + 10), vR (n + 11), vR (n + 12), vR (n + 13), vR (n + 14), vR (n + 15), vR (n + 16), vI 0, vI 0, vI 0, vR (n + 17), vI 0, vI 0, vI 0, vI 0, vI ((-1)), vI 0, vR (n + 18), vI 0, vR (n + 19), vI 0, vR (n + 20), vR (n + 21), vR (n + 22), vR (n + 23), vI 0, vR (n + 24), vR (n + 25), vI 0, vR (n + 26), vR (n + 27), vR (n + 28), vI 0, vR (n + 29), vI 0, vR (n + 30), vI 0, vR (n + 31), vR (n + 32), vI 0, vR (n + 33), vR (n + 34), vR (n + 35), vI 0, vR (n + 36), vI 0, vR (n + 37), vI 0, vR (n + 38), vR (n + 39), vR (n + 40), vR (n + 41), vI 0, vI 0, vI 0, vI 0, vI 0, vR (n + 42)], eI 499 (fun _ => 0), eI 2994 (fun _ => 0), eI 499 (fun _ => 0), eI 20 (fun _ => 0), eI 20 (fun _ => 0), eI 20 (fun _ => 0), eI 750 (fun _ => 0), eI 400 (fun _ => 0), eI 133 wf, eI 2 (fun _ => 0), eI 48 (fun _ => 0), eI 48 (fun _ => 0), eI 48 (fun _ => 0), eI 48 (fun _ => 0), eI 1200 (fun _ => 0), eI 1200 (fun _ => 0), eI 40 (fun _ => 0), eI 96 (fun _ => 0), eI 160 (fun _ => 0), eI 40 (fun _ => 0), eI 10 (fun _ => 0), eI 420 (fun _ => 0), eI 144 (fun _ => 0), eI 6 (fun _ => 0), eI 6 (fun _ => 0), eI 16 (fun _ => 0), eI 153 (fun _ => 0), eI 153 (fun _ => 0), eI 15 (fun _ => 0), eI 15 (fun _ => 0), eI 8 (fun _ => 0), eI 401 (fun _ => 0), eI 8 (fun _ => 0), eI 8 (fun _ => 0), eI 256 (fun _ => 0), eI 12 (fun _ => 0), eI 8 (fun _ => 0), eI 8 (fun _ => 0), eI 256 (fun _ => 0), eI 19683 (fun _ => 0), eI 9 (fun _ => 0), eI 2900 (fun _ => 0)] = frM n wf := rfl
set_option maxRecDepth 100000 in
set_option maxHeartbeats 40000000 in
theorem whole_start {p : Program} {e : Env} {s : State} {m : MethodId} {below : List Frame} {meth : Method} {c : Code} (l : Launch) {b L : Nat} {xs : Nat → Int32} (hL : L ≤ 3072) (C0 : lw_At p s m meth c b L xs) : W p l e room_1 s m #[Value.ref b] below meth c s.heap [] 0 0 (lw_Z below #[Value.ref b] s) (entryFrame m ([Value.ref b] : List Value).toArray 4) := by
  obtain ⟨hx, hb, hr, hml, hown, hts, hX, hbl, hlk, hg⟩ := C0
  obtain ⟨G, hG, hG3, hK⟩ := st_G hts hg
  have X : pX p s m #[Value.ref b] c G 4 cL_law RL := ⟨hx, hb, hml, hown, fun w hw => hts w (ok_tbl hw), hK⟩
  obtain ⟨lsA, e1, e2⟩ := pl_entry (G := G) [vS 3] (nL := 4) (Nat.le_of_ble_eq_true rfl) m
  have e3 : (([vS 3] : List PV).map (pr G)) = [Value.ref b] := by
    show [Value.ref (G.2.2.2 3)] = _
    rw [hG3]
  rw [e3] at e1
  rw [e1]
  obtain ⟨h0, hh0⟩ : ∃ h0 : PH, h0 = [] := ⟨_, rfl⟩
  obtain ⟨n, hn⟩ : ∃ n, h0.length = n := ⟨_, rfl⟩
  suffices K : PW p l e room_1 s m #[Value.ref b] below meth c G 4 (lw_Z below #[Value.ref b] s) 0 0 (h0 ++ []) 0 [some (vS 3), none, none, none] [] by
    refine K s.heap [] lsA ⟨?_, ?_, va_S.rf⟩ e2
    · rw [hh0, hG]; rfl
    · rw [hh0]; intro k q hk; simp [pw] at hk
  refine a_new (k := 0) X hn nk_L_7 dL_law_0 rfl rfl rfl ?_
  refine r_dup X dL_law_3 ?_
  refine r_eq (List.append_assoc _ _ _).symm rfl rfl ?_
  refine r_I0v X ki_L_9 dL_law_4 (c_X11_init l G _ (n + 0) (apL hn rfl)) rfl (fun h' hΨ => ?_)
  obtain rfl := hΨ
  refine r_eq (h' := h0 ++ (frC n)) ((List.append_assoc _ _ _).trans rfl) rfl rfl ?_
  refine r_astore_n X dL_law_7 (by decide) ?_
  refine a_new (k := 103) X hn nk_L_10 dL_law_8 rfl rfl rfl ?_
  refine r_dup X dL_law_11 ?_
  refine r_eq (List.append_assoc _ _ _).symm rfl rfl ?_
  refine r_I0v X ki_L_12 dL_law_12 (c_X12_initW l G _ (n + 103) (apL hn rfl)) rfl (fun h' hΨ => ?_)
  obtain ⟨wf, hwf, rfl⟩ := hΨ
  refine r_eq (h' := h0 ++ (frC n ++ frM (n + 103) wf)) ((List.append_assoc _ _ _).trans (congrArg (fun z => h0 ++ (frC n ++ z)) (frM_lit (n + 103) wf))) rfl rfl ?_
  refine r_astore_n X dL_law_15 (by decide) ?_
  refine r_iconst (v := 0) X dL_law_16 (by decide +kernel) ?_
  refine r_istore_n X dL_law_17 (by decide) ?_
  have hI : LIY PCW n (n + 103) (h0 ++ (frC n ++ frM (n + 103) wf)) := pw_start hn hwf
  exact lw_loop X hr hlk hX hbl hG hG3 hL (CB := 600000) (SB := 7302249) (Nat.le_refl _) (Nat.le_refl _) L 0 _ _ _ (by omega) (by omega) (lw_cb hL) (lw_sb hL) hI
