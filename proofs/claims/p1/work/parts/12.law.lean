section LawRows
variable {p : Program} {l : Launch} {e : Env} {R : Room} {s : State} {m : MethodId} {args : Array Value} {below : List Frame} {meth : Method} {c : Code} {G : PG} {nL : Nat} {Q : State → Prop} {cells slots : Nat} {h : PH} {pc : Nat} {ls : List (Option PV)} {st : List PV} {cc : ByteArray} {own : String} {b L : Nat} {xs : Nat → Int32}
theorem r_aload_nS (X : pX p s m args c G nL cc own) {i : Fin 4} {j : Nat} (hd : decode cc pc = .ok (.aload_n i, 1)) (hk : ls[(i : Nat)]? = some (some (vS j))) (k : PW p l e R s m args below meth c G nL Q cells slots h (pc + 1) ls (vS j :: st)) : PW p l e R s m args below meth c G nL Q cells slots h pc ls st := by
  intro H locs lsA hI hl
  exact lv_aload_n X.1 X.2.1 hd rfl (pl_at hl hk) (k H locs lsA hI hl)
theorem r_scr (X : pX p s m args c G nL cc own) (hX : va_X b L xs s s.heap) (hbl : b < s.heap.size) (hG : G.2.2.1 = s.heap.size) (hG3 : G.2.2.2 3 = b) {i v : Int32} (hd : decode cc pc = .ok (.iaload, 1)) (hin : vp_in i L) (hv : xs i.toNatClampNeg = v) (k : PW p l e R s m args below meth c G nL Q cells slots h (pc + 1) ls (vI v :: st)) : PW p l e R s m args below meth c G nL Q cells slots h pc ls (vI i :: vS 3 :: st) := by
  intro H locs lsA hI hl
  subst hv
  subst hG3
  exact va_sld X.1 X.2.1 hX hbl (by show ¬ G.2.2.1 ≤ _; rw [hG]; exact Nat.not_le.mpr hbl) hI.2.2 hin hd (k H locs lsA hI hl)
theorem r_scl (X : pX p s m args c G nL cc own) (hX : va_X b L xs s s.heap) (hbl : b < s.heap.size) (hG : G.2.2.1 = s.heap.size) (hG3 : G.2.2.2 3 = b) {v : Int32} (hd : decode cc pc = .ok (.arraylength, 1)) (hv : Int32.ofNat L = v) (k : PW p l e R s m args below meth c G nL Q cells slots h (pc + 1) ls (vI v :: st)) : PW p l e R s m args below meth c G nL Q cells slots h pc ls (vS 3 :: st) := by
  intro H locs lsA hI hl
  subst hv
  subst hG3
  exact va_slen X.1 X.2.1 hX hbl (by show ¬ G.2.2.1 ≤ _; rw [hG]; exact Nat.not_le.mpr hbl) hI.2.2 hd (k H locs lsA hI hl)
theorem r_lret (X : pX p s m #[Value.ref b] c G nL code own) (hr : meth.sig.returnType = ret) (hlk : meth.locks = false) (hG : G.2.2.1 = s.heap.size) (hd : decode code pc = .ok (.ireturn, 1)) (hc : Nat.ble cells 600000 = true) (hs : Nat.ble slots 7302249 = true) : PW p l e room_1 s m #[Value.ref b] below meth c G nL (lw_Z below #[Value.ref b] s) cells slots h pc ls [vI 1] := by
  intro H locs lsA hI hl
  refine va_forget (fun q hq => by rw [← hG]; exact hI.2.2.2.2 q hq) ?_
  refine W.widen (Nat.le_of_ble_eq_true hc) (Nat.le_of_ble_eq_true hs) ?_
  exact lw_ret X.1 X.2.1 hr hlk hd
end LawRows
theorem nwz : nw 0 0 0 0 0 0 0 = fun _ => 0 := by
  funext j
  rcases j with _ | _ | _ | _ | _ | _ | _ | j <;> rfl
theorem frM_lit (n : Nat) (wf : Nat → Int32) : [eO 12 [vI 0, vR (n + 1), vR (n + 2), vI 0, vR (n + 3), vI 0, vI 0, vR (n + 4), vR (n + 5), vR (n + 6), vR (n + 7), vR (n + 8), vI 0, vI 0, vI 0, vI 0, vI 0, vR (n + 9), vR (n + 10), vR (n + 11), vR (n + 12), vR (n + 13), vR (n + 14), vR (n + 15), vR (n + 16), vI 0, vI 0, vI 0, vR (n + 17), vI 0, vI 0, vI 0, vI 0, vI ((-1)), vI 0, vR (n + 18), vI 0, vR (n + 19), vI 0, vR (n + 20), vR (n + 21), vR (n + 22), vR (n + 23), vI 0, vR (n + 24), vR (n + 25), vI 0, vR (n + 26), vR (n + 27), vR (n + 28), vI 0, vR (n + 29), vI 0, vR (n + 30), vI 0, vR (n + 31), vR (n + 32), vI 0, vR (n + 33), vR (n + 34), vR (n + 35), vI 0, vR (n + 36), vI 0, vR (n + 37), vI 0, vR (n + 38), vR (n + 39), vR (n + 40), vR (n + 41), vI 0, vI 0, vI 0, vI 0, vI 0, vR (n + 42)], eI 499 (fun _ => 0), eI 2994 (fun _ => 0), eI 499 (fun _ => 0), eI 20 (fun _ => 0), eI 20 (fun _ => 0), eI 20 (fun _ => 0), eI 750 (fun _ => 0), eI 400 (fun _ => 0), eI 133 wf, eI 2 (fun _ => 0), eI 48 (fun _ => 0), eI 48 (fun _ => 0), eI 48 (fun _ => 0), eI 48 (fun _ => 0), eI 1200 (fun _ => 0), eI 1200 (fun _ => 0), eI 40 (fun _ => 0), eI 96 (fun _ => 0), eI 160 (fun _ => 0), eI 40 (fun _ => 0), eI 10 (fun _ => 0), eI 420 (fun _ => 0), eI 144 (fun _ => 0), eI 6 (fun _ => 0), eI 6 (fun _ => 0), eI 16 (fun _ => 0), eI 153 (fun _ => 0), eI 153 (fun _ => 0), eI 15 (fun _ => 0), eI 15 (fun _ => 0), eI 8 (fun _ => 0), eI 401 (fun _ => 0), eI 8 (fun _ => 0), eI 8 (fun _ => 0), eI 256 (fun _ => 0), eI 12 (fun _ => 0), eI 8 (fun _ => 0), eI 8 (fun _ => 0), eI 256 (fun _ => 0), eI 19683 (fun _ => 0), eI 9 (fun _ => 0), eI 2900 (fun _ => 0)] = frM n wf := by
  rw [frM, nwz]
set_option maxRecDepth 100000 in
set_option maxHeartbeats 40000000 in
theorem whole_start {p : Program} {e : Env} {s : State} {m : MethodId} {below : List Frame} {meth : Method} {c : Code} (l : Launch) {b L : Nat} {xs : Nat → Int32} (hL : L ≤ 6) (C0 : lw_At p s m meth c b L xs) : W p l e room_1 s m #[Value.ref b] below meth c s.heap [] 0 0 (lw_Z below #[Value.ref b] s) (entryFrame m ([Value.ref b] : List Value).toArray 4) := by
  obtain ⟨hx, hb, hr, hml, hown, hts, hX, hbl, hlk, hg⟩ := C0
  obtain ⟨G, hG, hG3, hK⟩ := st_G hts hg
  have X : pX p s m #[Value.ref b] c G 4 cL_law RL := ⟨hx, hb, hml, hown, fun w hw => hts w (ok_tbl hw), hK⟩
  obtain ⟨lsA, e1, e2⟩ := pl_entry (G := G) [vS 3] (nL := 4) (Nat.le_of_ble_eq_true rfl) m
  have e3 : (([vS 3] : List PV).map (pr G)) = [Value.ref b] := by
    show [Value.ref (G.2.2.2 3)] = _
    rw [hG3]
  rw [e3] at e1
  rw [e1]
  obtain ⟨h0, hh0⟩ : ∃ h0 : PH, h0 = [] := ⟨_, rfl⟩
  obtain ⟨n, hn⟩ : ∃ n, h0.length = n := ⟨_, rfl⟩
  suffices K : PW p l e room_1 s m #[Value.ref b] below meth c G 4 (lw_Z below #[Value.ref b] s) 0 0 (h0 ++ []) 0 [some (vS 3), none, none, none] [] by
    refine K s.heap [] lsA ⟨?_, ?_, va_S.rf⟩ e2
    · rw [hh0, hG]; rfl
    · rw [hh0]; intro k q hk; simp [pw] at hk
  rcases (show L = 0 ∨ L = 1 ∨ L = 2 ∨ L = 3 ∨ L = 4 ∨ L = 5 ∨ L = 6 by omega) with rfl | rfl | rfl | rfl | rfl | rfl | rfl
  · refine a_new (k := 0) X hn nk_L_7 dL_law_0 rfl rfl rfl ?_
    refine r_dup X dL_law_3 ?_
    refine r_eq (List.append_assoc _ _ _).symm rfl rfl ?_
    refine r_I0v X ki_L_9 dL_law_4 (c_X11_init l G _ (n + 0) (apL hn rfl)) rfl (fun h' hΨ => ?_)
    obtain rfl := hΨ
    refine r_eq (h' := h0 ++ (frC n)) ((List.append_assoc _ _ _).trans rfl) rfl rfl ?_
    refine r_astore_n X dL_law_7 (by decide) ?_
    refine a_new (k := 103) X hn nk_L_10 dL_law_8 rfl rfl rfl ?_
    refine r_dup X dL_law_11 ?_
    refine r_eq (List.append_assoc _ _ _).symm rfl rfl ?_
    refine r_I0v X ki_L_12 dL_law_12 (c_X12_init l G _ (n + 103) (apL hn rfl)) rfl (fun h' hΨ => ?_)
    obtain ⟨wf, rfl⟩ := hΨ
    refine r_eq (h' := h0 ++ (frC n ++ frM (n + 103) wf)) ((List.append_assoc _ _ _).trans (congrArg (fun z => h0 ++ (frC n ++ z)) (frM_lit (n + 103) wf))) rfl rfl ?_
    refine r_astore_n X dL_law_15 (by decide) ?_
    refine r_iconst (v := 0) X dL_law_16 (by decide +kernel) ?_
    refine r_istore_n X dL_law_17 (by decide) ?_
    refine r_iload_n X dL_law_18 rfl ?_
    refine r_aload_nS X dL_law_19 rfl ?_
    refine r_scl (v := 0) X hX hbl hG hG3 dL_law_20 (by decide +kernel) ?_
    refine r_bipush (v := 6) X dL_law_21 (by decide +kernel) ?_
    refine r_isubE (v := (-6)) X dL_law_23 (by decide +kernel) ?_
    refine r_icmp_gt_t (tgt := 1363) X dL_law_24 rfl (by decide +kernel) ?_
    refine r_iconst (v := 1) X dL_law_1363 (by decide +kernel) ?_
    exact r_lret X hr hlk hG dL_law_1364 rfl rfl
  · refine a_new (k := 0) X hn nk_L_7 dL_law_0 rfl rfl rfl ?_
    refine r_dup X dL_law_3 ?_
    refine r_eq (List.append_assoc _ _ _).symm rfl rfl ?_
    refine r_I0v X ki_L_9 dL_law_4 (c_X11_init l G _ (n + 0) (apL hn rfl)) rfl (fun h' hΨ => ?_)
    obtain rfl := hΨ
    refine r_eq (h' := h0 ++ (frC n)) ((List.append_assoc _ _ _).trans rfl) rfl rfl ?_
    refine r_astore_n X dL_law_7 (by decide) ?_
    refine a_new (k := 103) X hn nk_L_10 dL_law_8 rfl rfl rfl ?_
    refine r_dup X dL_law_11 ?_
    refine r_eq (List.append_assoc _ _ _).symm rfl rfl ?_
    refine r_I0v X ki_L_12 dL_law_12 (c_X12_init l G _ (n + 103) (apL hn rfl)) rfl (fun h' hΨ => ?_)
    obtain ⟨wf, rfl⟩ := hΨ
    refine r_eq (h' := h0 ++ (frC n ++ frM (n + 103) wf)) ((List.append_assoc _ _ _).trans (congrArg (fun z => h0 ++ (frC n ++ z)) (frM_lit (n + 103) wf))) rfl rfl ?_
    refine r_astore_n X dL_law_15 (by decide) ?_
    refine r_iconst (v := 0) X dL_law_16 (by decide +kernel) ?_
    refine r_istore_n X dL_law_17 (by decide) ?_
    refine r_iload_n X dL_law_18 rfl ?_
    refine r_aload_nS X dL_law_19 rfl ?_
    refine r_scl (v := 1) X hX hbl hG hG3 dL_law_20 (by decide +kernel) ?_
    refine r_bipush (v := 6) X dL_law_21 (by decide +kernel) ?_
    refine r_isubE (v := (-5)) X dL_law_23 (by decide +kernel) ?_
    refine r_icmp_gt_t (tgt := 1363) X dL_law_24 rfl (by decide +kernel) ?_
    refine r_iconst (v := 1) X dL_law_1363 (by decide +kernel) ?_
    exact r_lret X hr hlk hG dL_law_1364 rfl rfl
  · refine a_new (k := 0) X hn nk_L_7 dL_law_0 rfl rfl rfl ?_
    refine r_dup X dL_law_3 ?_
    refine r_eq (List.append_assoc _ _ _).symm rfl rfl ?_
    refine r_I0v X ki_L_9 dL_law_4 (c_X11_init l G _ (n + 0) (apL hn rfl)) rfl (fun h' hΨ => ?_)
    obtain rfl := hΨ
    refine r_eq (h' := h0 ++ (frC n)) ((List.append_assoc _ _ _).trans rfl) rfl rfl ?_
    refine r_astore_n X dL_law_7 (by decide) ?_
    refine a_new (k := 103) X hn nk_L_10 dL_law_8 rfl rfl rfl ?_
    refine r_dup X dL_law_11 ?_
    refine r_eq (List.append_assoc _ _ _).symm rfl rfl ?_
    refine r_I0v X ki_L_12 dL_law_12 (c_X12_init l G _ (n + 103) (apL hn rfl)) rfl (fun h' hΨ => ?_)
    obtain ⟨wf, rfl⟩ := hΨ
    refine r_eq (h' := h0 ++ (frC n ++ frM (n + 103) wf)) ((List.append_assoc _ _ _).trans (congrArg (fun z => h0 ++ (frC n ++ z)) (frM_lit (n + 103) wf))) rfl rfl ?_
    refine r_astore_n X dL_law_15 (by decide) ?_
    refine r_iconst (v := 0) X dL_law_16 (by decide +kernel) ?_
    refine r_istore_n X dL_law_17 (by decide) ?_
    refine r_iload_n X dL_law_18 rfl ?_
    refine r_aload_nS X dL_law_19 rfl ?_
    refine r_scl (v := 2) X hX hbl hG hG3 dL_law_20 (by decide +kernel) ?_
    refine r_bipush (v := 6) X dL_law_21 (by decide +kernel) ?_
    refine r_isubE (v := (-4)) X dL_law_23 (by decide +kernel) ?_
    refine r_icmp_gt_t (tgt := 1363) X dL_law_24 rfl (by decide +kernel) ?_
    refine r_iconst (v := 1) X dL_law_1363 (by decide +kernel) ?_
    exact r_lret X hr hlk hG dL_law_1364 rfl rfl
  · refine a_new (k := 0) X hn nk_L_7 dL_law_0 rfl rfl rfl ?_
    refine r_dup X dL_law_3 ?_
    refine r_eq (List.append_assoc _ _ _).symm rfl rfl ?_
    refine r_I0v X ki_L_9 dL_law_4 (c_X11_init l G _ (n + 0) (apL hn rfl)) rfl (fun h' hΨ => ?_)
    obtain rfl := hΨ
    refine r_eq (h' := h0 ++ (frC n)) ((List.append_assoc _ _ _).trans rfl) rfl rfl ?_
    refine r_astore_n X dL_law_7 (by decide) ?_
    refine a_new (k := 103) X hn nk_L_10 dL_law_8 rfl rfl rfl ?_
    refine r_dup X dL_law_11 ?_
    refine r_eq (List.append_assoc _ _ _).symm rfl rfl ?_
    refine r_I0v X ki_L_12 dL_law_12 (c_X12_init l G _ (n + 103) (apL hn rfl)) rfl (fun h' hΨ => ?_)
    obtain ⟨wf, rfl⟩ := hΨ
    refine r_eq (h' := h0 ++ (frC n ++ frM (n + 103) wf)) ((List.append_assoc _ _ _).trans (congrArg (fun z => h0 ++ (frC n ++ z)) (frM_lit (n + 103) wf))) rfl rfl ?_
    refine r_astore_n X dL_law_15 (by decide) ?_
    refine r_iconst (v := 0) X dL_law_16 (by decide +kernel) ?_
    refine r_istore_n X dL_law_17 (by decide) ?_
    refine r_iload_n X dL_law_18 rfl ?_
    refine r_aload_nS X dL_law_19 rfl ?_
    refine r_scl (v := 3) X hX hbl hG hG3 dL_law_20 (by decide +kernel) ?_
    refine r_bipush (v := 6) X dL_law_21 (by decide +kernel) ?_
    refine r_isubE (v := (-3)) X dL_law_23 (by decide +kernel) ?_
    refine r_icmp_gt_t (tgt := 1363) X dL_law_24 rfl (by decide +kernel) ?_
    refine r_iconst (v := 1) X dL_law_1363 (by decide +kernel) ?_
    exact r_lret X hr hlk hG dL_law_1364 rfl rfl
  · refine a_new (k := 0) X hn nk_L_7 dL_law_0 rfl rfl rfl ?_
    refine r_dup X dL_law_3 ?_
    refine r_eq (List.append_assoc _ _ _).symm rfl rfl ?_
    refine r_I0v X ki_L_9 dL_law_4 (c_X11_init l G _ (n + 0) (apL hn rfl)) rfl (fun h' hΨ => ?_)
    obtain rfl := hΨ
    refine r_eq (h' := h0 ++ (frC n)) ((List.append_assoc _ _ _).trans rfl) rfl rfl ?_
    refine r_astore_n X dL_law_7 (by decide) ?_
    refine a_new (k := 103) X hn nk_L_10 dL_law_8 rfl rfl rfl ?_
    refine r_dup X dL_law_11 ?_
    refine r_eq (List.append_assoc _ _ _).symm rfl rfl ?_
    refine r_I0v X ki_L_12 dL_law_12 (c_X12_init l G _ (n + 103) (apL hn rfl)) rfl (fun h' hΨ => ?_)
    obtain ⟨wf, rfl⟩ := hΨ
    refine r_eq (h' := h0 ++ (frC n ++ frM (n + 103) wf)) ((List.append_assoc _ _ _).trans (congrArg (fun z => h0 ++ (frC n ++ z)) (frM_lit (n + 103) wf))) rfl rfl ?_
    refine r_astore_n X dL_law_15 (by decide) ?_
    refine r_iconst (v := 0) X dL_law_16 (by decide +kernel) ?_
    refine r_istore_n X dL_law_17 (by decide) ?_
    refine r_iload_n X dL_law_18 rfl ?_
    refine r_aload_nS X dL_law_19 rfl ?_
    refine r_scl (v := 4) X hX hbl hG hG3 dL_law_20 (by decide +kernel) ?_
    refine r_bipush (v := 6) X dL_law_21 (by decide +kernel) ?_
    refine r_isubE (v := (-2)) X dL_law_23 (by decide +kernel) ?_
    refine r_icmp_gt_t (tgt := 1363) X dL_law_24 rfl (by decide +kernel) ?_
    refine r_iconst (v := 1) X dL_law_1363 (by decide +kernel) ?_
    exact r_lret X hr hlk hG dL_law_1364 rfl rfl
  · refine a_new (k := 0) X hn nk_L_7 dL_law_0 rfl rfl rfl ?_
    refine r_dup X dL_law_3 ?_
    refine r_eq (List.append_assoc _ _ _).symm rfl rfl ?_
    refine r_I0v X ki_L_9 dL_law_4 (c_X11_init l G _ (n + 0) (apL hn rfl)) rfl (fun h' hΨ => ?_)
    obtain rfl := hΨ
    refine r_eq (h' := h0 ++ (frC n)) ((List.append_assoc _ _ _).trans rfl) rfl rfl ?_
    refine r_astore_n X dL_law_7 (by decide) ?_
    refine a_new (k := 103) X hn nk_L_10 dL_law_8 rfl rfl rfl ?_
    refine r_dup X dL_law_11 ?_
    refine r_eq (List.append_assoc _ _ _).symm rfl rfl ?_
    refine r_I0v X ki_L_12 dL_law_12 (c_X12_init l G _ (n + 103) (apL hn rfl)) rfl (fun h' hΨ => ?_)
    obtain ⟨wf, rfl⟩ := hΨ
    refine r_eq (h' := h0 ++ (frC n ++ frM (n + 103) wf)) ((List.append_assoc _ _ _).trans (congrArg (fun z => h0 ++ (frC n ++ z)) (frM_lit (n + 103) wf))) rfl rfl ?_
    refine r_astore_n X dL_law_15 (by decide) ?_
    refine r_iconst (v := 0) X dL_law_16 (by decide +kernel) ?_
    refine r_istore_n X dL_law_17 (by decide) ?_
    refine r_iload_n X dL_law_18 rfl ?_
    refine r_aload_nS X dL_law_19 rfl ?_
    refine r_scl (v := 5) X hX hbl hG hG3 dL_law_20 (by decide +kernel) ?_
    refine r_bipush (v := 6) X dL_law_21 (by decide +kernel) ?_
    refine r_isubE (v := (-1)) X dL_law_23 (by decide +kernel) ?_
    refine r_icmp_gt_t (tgt := 1363) X dL_law_24 rfl (by decide +kernel) ?_
    refine r_iconst (v := 1) X dL_law_1363 (by decide +kernel) ?_
    exact r_lret X hr hlk hG dL_law_1364 rfl rfl
  · refine a_new (k := 0) X hn nk_L_7 dL_law_0 rfl rfl rfl ?_
    refine r_dup X dL_law_3 ?_
    refine r_eq (List.append_assoc _ _ _).symm rfl rfl ?_
    refine r_I0v X ki_L_9 dL_law_4 (c_X11_init l G _ (n + 0) (apL hn rfl)) rfl (fun h' hΨ => ?_)
    obtain rfl := hΨ
    refine r_eq (h' := h0 ++ (frC n)) ((List.append_assoc _ _ _).trans rfl) rfl rfl ?_
    refine r_astore_n X dL_law_7 (by decide) ?_
    refine a_new (k := 103) X hn nk_L_10 dL_law_8 rfl rfl rfl ?_
    refine r_dup X dL_law_11 ?_
    refine r_eq (List.append_assoc _ _ _).symm rfl rfl ?_
    refine r_I0v X ki_L_12 dL_law_12 (c_X12_init l G _ (n + 103) (apL hn rfl)) rfl (fun h' hΨ => ?_)
    obtain ⟨wf, rfl⟩ := hΨ
    refine r_eq (h' := h0 ++ (frC n ++ frM (n + 103) wf)) ((List.append_assoc _ _ _).trans (congrArg (fun z => h0 ++ (frC n ++ z)) (frM_lit (n + 103) wf))) rfl rfl ?_
    refine r_astore_n X dL_law_15 (by decide) ?_
    refine r_iconst (v := 0) X dL_law_16 (by decide +kernel) ?_
    refine r_istore_n X dL_law_17 (by decide) ?_
    refine r_iload_n X dL_law_18 rfl ?_
    refine r_aload_nS X dL_law_19 rfl ?_
    refine r_scl (v := 6) X hX hbl hG hG3 dL_law_20 (by decide +kernel) ?_
    refine r_bipush (v := 6) X dL_law_21 (by decide +kernel) ?_
    refine r_isubE (v := 0) X dL_law_23 (by decide +kernel) ?_
    refine r_icmp_gt_f (tgt := 1363) X dL_law_24 rfl (by decide +kernel) ?_
    refine r_aload_nS X dL_law_27 rfl ?_
    refine r_iload_n X dL_law_28 rfl ?_
    refine r_scr (v := xs 0) X hX hbl hG hG3 dL_law_29 (inK (by decide +kernel)) rfl ?_
    refine r_bipush (v := 63) X dL_law_30 (by decide +kernel) ?_
    refine r_iand X dL_law_32 ?_
    refine r_top (fun sel hsel => ?_)
    rcases tabc sel 0 38 (by decide) with q1 | ⟨q1j, q1l, q1e⟩
    · refine r_tabOut (tgt := 1357) X dL_law_33 q1 rfl ?_
      have q1_0 : ¬ sel = 0 := by rintro rfl; revert q1; decide
      have q1_1 : ¬ sel = 1 := by rintro rfl; revert q1; decide
      have q1_2 : ¬ sel = 2 := by rintro rfl; revert q1; decide
      have q1_3 : ¬ sel = 3 := by rintro rfl; revert q1; decide
      have q1_4 : ¬ sel = 4 := by rintro rfl; revert q1; decide
      have q1_5 : ¬ sel = 5 := by rintro rfl; revert q1; decide
      have q1_6 : ¬ sel = 6 := by rintro rfl; revert q1; decide
      have q1_7 : ¬ sel = 7 := by rintro rfl; revert q1; decide
      have q1_8 : ¬ sel = 8 := by rintro rfl; revert q1; decide
      have q1_9 : ¬ sel = 9 := by rintro rfl; revert q1; decide
      have q1_10 : ¬ sel = 10 := by rintro rfl; revert q1; decide
      have q1_11 : ¬ sel = 11 := by rintro rfl; revert q1; decide
      have q1_12 : ¬ sel = 12 := by rintro rfl; revert q1; decide
      have q1_13 : ¬ sel = 13 := by rintro rfl; revert q1; decide
      have q1_14 : ¬ sel = 14 := by rintro rfl; revert q1; decide
      have q1_15 : ¬ sel = 15 := by rintro rfl; revert q1; decide
      have q1_16 : ¬ sel = 16 := by rintro rfl; revert q1; decide
      have q1_17 : ¬ sel = 17 := by rintro rfl; revert q1; decide
      have q1_18 : ¬ sel = 18 := by rintro rfl; revert q1; decide
      have q1_19 : ¬ sel = 19 := by rintro rfl; revert q1; decide
      have q1_20 : ¬ sel = 20 := by rintro rfl; revert q1; decide
      have q1_21 : ¬ sel = 21 := by rintro rfl; revert q1; decide
      have q1_22 : ¬ sel = 22 := by rintro rfl; revert q1; decide
      have q1_23 : ¬ sel = 23 := by rintro rfl; revert q1; decide
      have q1_24 : ¬ sel = 24 := by rintro rfl; revert q1; decide
      have q1_25 : ¬ sel = 25 := by rintro rfl; revert q1; decide
      have q1_26 : ¬ sel = 26 := by rintro rfl; revert q1; decide
      have q1_27 : ¬ sel = 27 := by rintro rfl; revert q1; decide
      have q1_28 : ¬ sel = 28 := by rintro rfl; revert q1; decide
      have q1_29 : ¬ sel = 29 := by rintro rfl; revert q1; decide
      have q1_30 : ¬ sel = 30 := by rintro rfl; revert q1; decide
      have q1_31 : ¬ sel = 31 := by rintro rfl; revert q1; decide
      have q1_32 : ¬ sel = 32 := by rintro rfl; revert q1; decide
      have q1_33 : ¬ sel = 33 := by rintro rfl; revert q1; decide
      have q1_34 : ¬ sel = 34 := by rintro rfl; revert q1; decide
      have q1_35 : ¬ sel = 35 := by rintro rfl; revert q1; decide
      have q1_36 : ¬ sel = 36 := by rintro rfl; revert q1; decide
      have q1_37 : ¬ sel = 37 := by rintro rfl; revert q1; decide
      have q1_38 : ¬ sel = 38 := by rintro rfl; revert q1; decide
      refine r_iinc (v := 6) X dL_law_1357 rfl (by decide +kernel) (by decide) ?_
      refine r_goto (tgt := 18) X dL_law_1360 rfl ?_
      refine r_iload_n X dL_law_18 rfl ?_
      refine r_aload_nS X dL_law_19 rfl ?_
      refine r_scl (v := 6) X hX hbl hG hG3 dL_law_20 (by decide +kernel) ?_
      refine r_bipush (v := 6) X dL_law_21 (by decide +kernel) ?_
      refine r_isubE (v := 0) X dL_law_23 (by decide +kernel) ?_
      refine r_icmp_gt_t (tgt := 1363) X dL_law_24 rfl (by decide +kernel) ?_
      refine r_iconst (v := 1) X dL_law_1363 (by decide +kernel) ?_
      exact r_lret X hr hlk hG dL_law_1364 rfl rfl
    · rcases (show q1j = 0 ∨ q1j = 1 ∨ q1j = 2 ∨ q1j = 3 ∨ q1j = 4 ∨ q1j = 5 ∨ q1j = 6 ∨ q1j = 7 ∨ q1j = 8 ∨ q1j = 9 ∨ q1j = 10 ∨ q1j = 11 ∨ q1j = 12 ∨ q1j = 13 ∨ q1j = 14 ∨ q1j = 15 ∨ q1j = 16 ∨ q1j = 17 ∨ q1j = 18 ∨ q1j = 19 ∨ q1j = 20 ∨ q1j = 21 ∨ q1j = 22 ∨ q1j = 23 ∨ q1j = 24 ∨ q1j = 25 ∨ q1j = 26 ∨ q1j = 27 ∨ q1j = 28 ∨ q1j = 29 ∨ q1j = 30 ∨ q1j = 31 ∨ q1j = 32 ∨ q1j = 33 ∨ q1j = 34 ∨ q1j = 35 ∨ q1j = 36 ∨ q1j = 37 ∨ q1j = 38 by omega) with rfl | rfl | rfl | rfl | rfl | rfl | rfl | rfl | rfl | rfl | rfl | rfl | rfl | rfl | rfl | rfl | rfl | rfl | rfl | rfl | rfl | rfl | rfl | rfl | rfl | rfl | rfl | rfl | rfl | rfl | rfl | rfl | rfl | rfl | rfl | rfl | rfl | rfl | rfl
      · obtain rfl : sel = 0 := q1e.trans (by decide +kernel)
        refine r_tabIn (off := 171) (tgt := 204) X dL_law_33 (by decide +kernel) (by decide +kernel) (by decide +kernel) rfl ?_
        refine r_aload_n X dL_law_204 rfl ?_
        refine r_aload_nS X dL_law_205 rfl ?_
        refine r_iload_n X dL_law_206 rfl ?_
        refine r_iconst (v := 1) X dL_law_207 (by decide +kernel) ?_
        refine r_iaddE (v := 1) X dL_law_208 (by decide +kernel) ?_
        refine r_scr (v := xs 1) X hX hbl hG hG3 dL_law_209 (inK (by decide +kernel)) rfl ?_
        refine r_V1i X kv_L_13 dL_law_210 (apG (k := 0) hn rfl) rfl (x_state l G _ _ hn _ _) rfl (fun x h' hΨ => ?_)
        obtain ⟨rfl, L0, rfl, hL0⟩ := hΨ
        refine r_aload_n X dL_law_213 rfl ?_
        refine r_aload_nS X dL_law_214 rfl ?_
        refine r_iload_n X dL_law_215 rfl ?_
        refine r_iconst (v := 1) X dL_law_216 (by decide +kernel) ?_
        refine r_iaddE (v := 1) X dL_law_217 (by decide +kernel) ?_
        refine r_scr (v := xs 1) X hX hbl hG hG3 dL_law_218 (inK (by decide +kernel)) rfl ?_
        refine r_V1i X kv_L_17 dL_law_219 (apG (k := 0) hL0 rfl) rfl (m_state l G _ _ hL0 _ _) rfl (fun x h' hΨ => ?_)
        obtain rfl := hΨ
        refine r_icmp_eq_t (tgt := 1357) X dL_law_222 rfl (rfl) ?_
        refine r_iinc (v := 6) X dL_law_1357 rfl (by decide +kernel) (by decide) ?_
        refine r_goto (tgt := 18) X dL_law_1360 rfl ?_
        refine r_iload_n X dL_law_18 rfl ?_
        refine r_aload_nS X dL_law_19 rfl ?_
        refine r_scl (v := 6) X hX hbl hG hG3 dL_law_20 (by decide +kernel) ?_
        refine r_bipush (v := 6) X dL_law_21 (by decide +kernel) ?_
        refine r_isubE (v := 0) X dL_law_23 (by decide +kernel) ?_
        refine r_icmp_gt_t (tgt := 1363) X dL_law_24 rfl (by decide +kernel) ?_
        refine r_iconst (v := 1) X dL_law_1363 (by decide +kernel) ?_
        exact r_lret X hr hlk hG dL_law_1364 rfl rfl
      · obtain rfl : sel = 1 := q1e.trans (by decide +kernel)
        refine r_tabIn (off := 194) (tgt := 227) X dL_law_33 (by decide +kernel) (by decide +kernel) (by decide +kernel) rfl ?_
        refine r_aload_n X dL_law_227 rfl ?_
        refine r_aload_nS X dL_law_228 rfl ?_
        refine r_iload_n X dL_law_229 rfl ?_
        refine r_iconst (v := 1) X dL_law_230 (by decide +kernel) ?_
        refine r_iaddE (v := 1) X dL_law_231 (by decide +kernel) ?_
        refine r_scr (v := xs 1) X hX hbl hG hG3 dL_law_232 (inK (by decide +kernel)) rfl ?_
        refine r_aload_nS X dL_law_233 rfl ?_
        refine r_iload_n X dL_law_234 rfl ?_
        refine r_iconst (v := 2) X dL_law_235 (by decide +kernel) ?_
        refine r_iaddE (v := 2) X dL_law_236 (by decide +kernel) ?_
        refine r_scr (v := xs 2) X hX hbl hG hG3 dL_law_237 (inK (by decide +kernel)) rfl ?_
        refine r_aload_nS X dL_law_238 rfl ?_
        refine r_iload_n X dL_law_239 rfl ?_
        refine r_iconst (v := 3) X dL_law_240 (by decide +kernel) ?_
        refine r_iaddE (v := 3) X dL_law_241 (by decide +kernel) ?_
        refine r_scr (v := xs 3) X hX hbl hG hG3 dL_law_242 (inK (by decide +kernel)) rfl ?_
        refine r_aload_nS X dL_law_243 rfl ?_
        refine r_iload_n X dL_law_244 rfl ?_
        refine r_iconst (v := 4) X dL_law_245 (by decide +kernel) ?_
        refine r_iaddE (v := 4) X dL_law_246 (by decide +kernel) ?_
        refine r_scr (v := xs 4) X hX hbl hG hG3 dL_law_247 (inK (by decide +kernel)) rfl ?_
        refine r_V4i X kv_L_18 dL_law_248 (apG (k := 0) hn rfl) rfl (x_voter l G _ _ hn _ _ _ _ _) rfl (fun x h' hΨ => ?_)
        obtain ⟨rfl, L0, rfl, hL0⟩ := hΨ
        refine r_aload_n X dL_law_251 rfl ?_
        refine r_aload_nS X dL_law_252 rfl ?_
        refine r_iload_n X dL_law_253 rfl ?_
        refine r_iconst (v := 1) X dL_law_254 (by decide +kernel) ?_
        refine r_iaddE (v := 1) X dL_law_255 (by decide +kernel) ?_
        refine r_scr (v := xs 1) X hX hbl hG hG3 dL_law_256 (inK (by decide +kernel)) rfl ?_
        refine r_aload_nS X dL_law_257 rfl ?_
        refine r_iload_n X dL_law_258 rfl ?_
        refine r_iconst (v := 2) X dL_law_259 (by decide +kernel) ?_
        refine r_iaddE (v := 2) X dL_law_260 (by decide +kernel) ?_
        refine r_scr (v := xs 2) X hX hbl hG hG3 dL_law_261 (inK (by decide +kernel)) rfl ?_
        refine r_aload_nS X dL_law_262 rfl ?_
        refine r_iload_n X dL_law_263 rfl ?_
        refine r_iconst (v := 3) X dL_law_264 (by decide +kernel) ?_
        refine r_iaddE (v := 3) X dL_law_265 (by decide +kernel) ?_
        refine r_scr (v := xs 3) X hX hbl hG hG3 dL_law_266 (inK (by decide +kernel)) rfl ?_
        refine r_aload_nS X dL_law_267 rfl ?_
        refine r_iload_n X dL_law_268 rfl ?_
        refine r_iconst (v := 4) X dL_law_269 (by decide +kernel) ?_
        refine r_iaddE (v := 4) X dL_law_270 (by decide +kernel) ?_
        refine r_scr (v := xs 4) X hX hbl hG hG3 dL_law_271 (inK (by decide +kernel)) rfl ?_
        refine r_V4i X kv_L_22 dL_law_272 (apG (k := 0) hL0 rfl) rfl (m_voter l G _ _ hL0 _ _ _ _ _) rfl (fun x h' hΨ => ?_)
        obtain rfl := hΨ
        refine r_icmp_eq_t (tgt := 1357) X dL_law_275 rfl (rfl) ?_
        refine r_iinc (v := 6) X dL_law_1357 rfl (by decide +kernel) (by decide) ?_
        refine r_goto (tgt := 18) X dL_law_1360 rfl ?_
        refine r_iload_n X dL_law_18 rfl ?_
        refine r_aload_nS X dL_law_19 rfl ?_
        refine r_scl (v := 6) X hX hbl hG hG3 dL_law_20 (by decide +kernel) ?_
        refine r_bipush (v := 6) X dL_law_21 (by decide +kernel) ?_
        refine r_isubE (v := 0) X dL_law_23 (by decide +kernel) ?_
        refine r_icmp_gt_t (tgt := 1363) X dL_law_24 rfl (by decide +kernel) ?_
        refine r_iconst (v := 1) X dL_law_1363 (by decide +kernel) ?_
        exact r_lret X hr hlk hG dL_law_1364 rfl rfl
      · obtain rfl : sel = 2 := q1e.trans (by decide +kernel)
        refine r_tabIn (off := 247) (tgt := 280) X dL_law_33 (by decide +kernel) (by decide +kernel) (by decide +kernel) rfl ?_
        refine r_aload_n X dL_law_280 rfl ?_
        refine r_aload_nS X dL_law_281 rfl ?_
        refine r_iload_n X dL_law_282 rfl ?_
        refine r_iconst (v := 1) X dL_law_283 (by decide +kernel) ?_
        refine r_iaddE (v := 1) X dL_law_284 (by decide +kernel) ?_
        refine r_scr (v := xs 1) X hX hbl hG hG3 dL_law_285 (inK (by decide +kernel)) rfl ?_
        refine r_aload_nS X dL_law_286 rfl ?_
        refine r_iload_n X dL_law_287 rfl ?_
        refine r_iconst (v := 2) X dL_law_288 (by decide +kernel) ?_
        refine r_iaddE (v := 2) X dL_law_289 (by decide +kernel) ?_
        refine r_scr (v := xs 2) X hX hbl hG hG3 dL_law_290 (inK (by decide +kernel)) rfl ?_
        refine r_aload_nS X dL_law_291 rfl ?_
        refine r_iload_n X dL_law_292 rfl ?_
        refine r_iconst (v := 3) X dL_law_293 (by decide +kernel) ?_
        refine r_iaddE (v := 3) X dL_law_294 (by decide +kernel) ?_
        refine r_scr (v := xs 3) X hX hbl hG hG3 dL_law_295 (inK (by decide +kernel)) rfl ?_
        refine r_V3i X kv_L_23 dL_law_296 (apG (k := 0) hn rfl) rfl (x_set l G _ _ hn _ _ _ _) rfl (fun x h' hΨ => ?_)
        obtain ⟨rfl, L0, rfl, hL0⟩ := hΨ
        refine r_aload_n X dL_law_299 rfl ?_
        refine r_aload_nS X dL_law_300 rfl ?_
        refine r_iload_n X dL_law_301 rfl ?_
        refine r_iconst (v := 1) X dL_law_302 (by decide +kernel) ?_
        refine r_iaddE (v := 1) X dL_law_303 (by decide +kernel) ?_
        refine r_scr (v := xs 1) X hX hbl hG hG3 dL_law_304 (inK (by decide +kernel)) rfl ?_
        refine r_aload_nS X dL_law_305 rfl ?_
        refine r_iload_n X dL_law_306 rfl ?_
        refine r_iconst (v := 2) X dL_law_307 (by decide +kernel) ?_
        refine r_iaddE (v := 2) X dL_law_308 (by decide +kernel) ?_
        refine r_scr (v := xs 2) X hX hbl hG hG3 dL_law_309 (inK (by decide +kernel)) rfl ?_
        refine r_aload_nS X dL_law_310 rfl ?_
        refine r_iload_n X dL_law_311 rfl ?_
        refine r_iconst (v := 3) X dL_law_312 (by decide +kernel) ?_
        refine r_iaddE (v := 3) X dL_law_313 (by decide +kernel) ?_
        refine r_scr (v := xs 3) X hX hbl hG hG3 dL_law_314 (inK (by decide +kernel)) rfl ?_
        refine r_V3i X kv_L_27 dL_law_315 (apG (k := 0) hL0 rfl) rfl (m_set l G _ _ hL0 _ _ _ _) rfl (fun x h' hΨ => ?_)
        obtain rfl := hΨ
        refine r_icmp_eq_t (tgt := 1357) X dL_law_318 rfl (rfl) ?_
        refine r_iinc (v := 6) X dL_law_1357 rfl (by decide +kernel) (by decide) ?_
        refine r_goto (tgt := 18) X dL_law_1360 rfl ?_
        refine r_iload_n X dL_law_18 rfl ?_
        refine r_aload_nS X dL_law_19 rfl ?_
        refine r_scl (v := 6) X hX hbl hG hG3 dL_law_20 (by decide +kernel) ?_
        refine r_bipush (v := 6) X dL_law_21 (by decide +kernel) ?_
        refine r_isubE (v := 0) X dL_law_23 (by decide +kernel) ?_
        refine r_icmp_gt_t (tgt := 1363) X dL_law_24 rfl (by decide +kernel) ?_
        refine r_iconst (v := 1) X dL_law_1363 (by decide +kernel) ?_
        exact r_lret X hr hlk hG dL_law_1364 rfl rfl
      · obtain rfl : sel = 3 := q1e.trans (by decide +kernel)
        refine r_tabIn (off := 290) (tgt := 323) X dL_law_33 (by decide +kernel) (by decide +kernel) (by decide +kernel) rfl ?_
        refine r_aload_n X dL_law_323 rfl ?_
        refine r_aload_nS X dL_law_324 rfl ?_
        refine r_iload_n X dL_law_325 rfl ?_
        refine r_iconst (v := 1) X dL_law_326 (by decide +kernel) ?_
        refine r_iaddE (v := 1) X dL_law_327 (by decide +kernel) ?_
        refine r_scr (v := xs 1) X hX hbl hG hG3 dL_law_328 (inK (by decide +kernel)) rfl ?_
        refine r_aload_nS X dL_law_329 rfl ?_
        refine r_iload_n X dL_law_330 rfl ?_
        refine r_iconst (v := 2) X dL_law_331 (by decide +kernel) ?_
        refine r_iaddE (v := 2) X dL_law_332 (by decide +kernel) ?_
        refine r_scr (v := xs 2) X hX hbl hG hG3 dL_law_333 (inK (by decide +kernel)) rfl ?_
        refine r_V2i X kv_L_28 dL_law_334 (apG (k := 0) hn rfl) rfl (x_press l G _ _ hn _ _ _) rfl (fun x h' hΨ => ?_)
        obtain ⟨rfl, L0, rfl, hL0⟩ := hΨ
        refine r_aload_n X dL_law_337 rfl ?_
        refine r_aload_nS X dL_law_338 rfl ?_
        refine r_iload_n X dL_law_339 rfl ?_
        refine r_iconst (v := 1) X dL_law_340 (by decide +kernel) ?_
        refine r_iaddE (v := 1) X dL_law_341 (by decide +kernel) ?_
        refine r_scr (v := xs 1) X hX hbl hG hG3 dL_law_342 (inK (by decide +kernel)) rfl ?_
        refine r_aload_nS X dL_law_343 rfl ?_
        refine r_iload_n X dL_law_344 rfl ?_
        refine r_iconst (v := 2) X dL_law_345 (by decide +kernel) ?_
        refine r_iaddE (v := 2) X dL_law_346 (by decide +kernel) ?_
        refine r_scr (v := xs 2) X hX hbl hG hG3 dL_law_347 (inK (by decide +kernel)) rfl ?_
        refine r_V2i X kv_L_32 dL_law_348 (apG (k := 0) hL0 rfl) rfl (m_press l G _ _ hL0 _ _ _) rfl (fun x h' hΨ => ?_)
        obtain rfl := hΨ
        refine r_icmp_eq_t (tgt := 1357) X dL_law_351 rfl (rfl) ?_
        refine r_iinc (v := 6) X dL_law_1357 rfl (by decide +kernel) (by decide) ?_
        refine r_goto (tgt := 18) X dL_law_1360 rfl ?_
        refine r_iload_n X dL_law_18 rfl ?_
        refine r_aload_nS X dL_law_19 rfl ?_
        refine r_scl (v := 6) X hX hbl hG hG3 dL_law_20 (by decide +kernel) ?_
        refine r_bipush (v := 6) X dL_law_21 (by decide +kernel) ?_
        refine r_isubE (v := 0) X dL_law_23 (by decide +kernel) ?_
        refine r_icmp_gt_t (tgt := 1363) X dL_law_24 rfl (by decide +kernel) ?_
        refine r_iconst (v := 1) X dL_law_1363 (by decide +kernel) ?_
        exact r_lret X hr hlk hG dL_law_1364 rfl rfl
      · obtain rfl : sel = 4 := q1e.trans (by decide +kernel)
        refine r_tabIn (off := 323) (tgt := 356) X dL_law_33 (by decide +kernel) (by decide +kernel) (by decide +kernel) rfl ?_
        refine r_aload_n X dL_law_356 rfl ?_
        refine r_aload_nS X dL_law_357 rfl ?_
        refine r_iload_n X dL_law_358 rfl ?_
        refine r_iconst (v := 1) X dL_law_359 (by decide +kernel) ?_
        refine r_iaddE (v := 1) X dL_law_360 (by decide +kernel) ?_
        refine r_scr (v := xs 1) X hX hbl hG hG3 dL_law_361 (inK (by decide +kernel)) rfl ?_
        refine r_aload_nS X dL_law_362 rfl ?_
        refine r_iload_n X dL_law_363 rfl ?_
        refine r_iconst (v := 2) X dL_law_364 (by decide +kernel) ?_
        refine r_iaddE (v := 2) X dL_law_365 (by decide +kernel) ?_
        refine r_scr (v := xs 2) X hX hbl hG hG3 dL_law_366 (inK (by decide +kernel)) rfl ?_
        refine r_V2i X kv_L_33 dL_law_367 (apG (k := 0) hn rfl) rfl (x_lift l G _ _ hn _ _ _) rfl (fun x h' hΨ => ?_)
        obtain ⟨rfl, L0, rfl, hL0⟩ := hΨ
        refine r_aload_n X dL_law_370 rfl ?_
        refine r_aload_nS X dL_law_371 rfl ?_
        refine r_iload_n X dL_law_372 rfl ?_
        refine r_iconst (v := 1) X dL_law_373 (by decide +kernel) ?_
        refine r_iaddE (v := 1) X dL_law_374 (by decide +kernel) ?_
        refine r_scr (v := xs 1) X hX hbl hG hG3 dL_law_375 (inK (by decide +kernel)) rfl ?_
        refine r_aload_nS X dL_law_376 rfl ?_
        refine r_iload_n X dL_law_377 rfl ?_
        refine r_iconst (v := 2) X dL_law_378 (by decide +kernel) ?_
        refine r_iaddE (v := 2) X dL_law_379 (by decide +kernel) ?_
        refine r_scr (v := xs 2) X hX hbl hG hG3 dL_law_380 (inK (by decide +kernel)) rfl ?_
        refine r_V2i X kv_L_37 dL_law_381 (apG (k := 0) hL0 rfl) rfl (m_lift l G _ _ hL0 _ _ _) rfl (fun x h' hΨ => ?_)
        obtain rfl := hΨ
        refine r_icmp_eq_t (tgt := 1357) X dL_law_384 rfl (rfl) ?_
        refine r_iinc (v := 6) X dL_law_1357 rfl (by decide +kernel) (by decide) ?_
        refine r_goto (tgt := 18) X dL_law_1360 rfl ?_
        refine r_iload_n X dL_law_18 rfl ?_
        refine r_aload_nS X dL_law_19 rfl ?_
        refine r_scl (v := 6) X hX hbl hG hG3 dL_law_20 (by decide +kernel) ?_
        refine r_bipush (v := 6) X dL_law_21 (by decide +kernel) ?_
        refine r_isubE (v := 0) X dL_law_23 (by decide +kernel) ?_
        refine r_icmp_gt_t (tgt := 1363) X dL_law_24 rfl (by decide +kernel) ?_
        refine r_iconst (v := 1) X dL_law_1363 (by decide +kernel) ?_
        exact r_lret X hr hlk hG dL_law_1364 rfl rfl
      · obtain rfl : sel = 5 := q1e.trans (by decide +kernel)
        refine r_tabIn (off := 356) (tgt := 389) X dL_law_33 (by decide +kernel) (by decide +kernel) (by decide +kernel) rfl ?_
        refine r_aload_n X dL_law_389 rfl ?_
        refine r_aload_nS X dL_law_390 rfl ?_
        refine r_iload_n X dL_law_391 rfl ?_
        refine r_iconst (v := 1) X dL_law_392 (by decide +kernel) ?_
        refine r_iaddE (v := 1) X dL_law_393 (by decide +kernel) ?_
        refine r_scr (v := xs 1) X hX hbl hG hG3 dL_law_394 (inK (by decide +kernel)) rfl ?_
        refine r_aload_nS X dL_law_395 rfl ?_
        refine r_iload_n X dL_law_396 rfl ?_
        refine r_iconst (v := 2) X dL_law_397 (by decide +kernel) ?_
        refine r_iaddE (v := 2) X dL_law_398 (by decide +kernel) ?_
        refine r_scr (v := xs 2) X hX hbl hG hG3 dL_law_399 (inK (by decide +kernel)) rfl ?_
        refine r_V2i X kv_L_38 dL_law_400 (apG (k := 0) hn rfl) rfl (x_hand l G _ _ hn _ _ _) rfl (fun x h' hΨ => ?_)
        obtain ⟨rfl, L0, rfl, hL0⟩ := hΨ
        refine r_aload_n X dL_law_403 rfl ?_
        refine r_aload_nS X dL_law_404 rfl ?_
        refine r_iload_n X dL_law_405 rfl ?_
        refine r_iconst (v := 1) X dL_law_406 (by decide +kernel) ?_
        refine r_iaddE (v := 1) X dL_law_407 (by decide +kernel) ?_
        refine r_scr (v := xs 1) X hX hbl hG hG3 dL_law_408 (inK (by decide +kernel)) rfl ?_
        refine r_aload_nS X dL_law_409 rfl ?_
        refine r_iload_n X dL_law_410 rfl ?_
        refine r_iconst (v := 2) X dL_law_411 (by decide +kernel) ?_
        refine r_iaddE (v := 2) X dL_law_412 (by decide +kernel) ?_
        refine r_scr (v := xs 2) X hX hbl hG hG3 dL_law_413 (inK (by decide +kernel)) rfl ?_
        refine r_V2i X kv_L_41 dL_law_414 (apG (k := 0) hL0 rfl) rfl (m_hand l G _ _ hL0 _ _ _) rfl (fun x h' hΨ => ?_)
        obtain rfl := hΨ
        refine r_icmp_eq_t (tgt := 1357) X dL_law_417 rfl (rfl) ?_
        refine r_iinc (v := 6) X dL_law_1357 rfl (by decide +kernel) (by decide) ?_
        refine r_goto (tgt := 18) X dL_law_1360 rfl ?_
        refine r_iload_n X dL_law_18 rfl ?_
        refine r_aload_nS X dL_law_19 rfl ?_
        refine r_scl (v := 6) X hX hbl hG hG3 dL_law_20 (by decide +kernel) ?_
        refine r_bipush (v := 6) X dL_law_21 (by decide +kernel) ?_
        refine r_isubE (v := 0) X dL_law_23 (by decide +kernel) ?_
        refine r_icmp_gt_t (tgt := 1363) X dL_law_24 rfl (by decide +kernel) ?_
        refine r_iconst (v := 1) X dL_law_1363 (by decide +kernel) ?_
        exact r_lret X hr hlk hG dL_law_1364 rfl rfl
      · obtain rfl : sel = 6 := q1e.trans (by decide +kernel)
        refine r_tabIn (off := 389) (tgt := 422) X dL_law_33 (by decide +kernel) (by decide +kernel) (by decide +kernel) rfl ?_
        refine r_aload_n X dL_law_422 rfl ?_
        refine r_aload_nS X dL_law_423 rfl ?_
        refine r_iload_n X dL_law_424 rfl ?_
        refine r_iconst (v := 1) X dL_law_425 (by decide +kernel) ?_
        refine r_iaddE (v := 1) X dL_law_426 (by decide +kernel) ?_
        refine r_scr (v := xs 1) X hX hbl hG hG3 dL_law_427 (inK (by decide +kernel)) rfl ?_
        refine r_V1i X kv_L_42 dL_law_428 (apG (k := 0) hn rfl) rfl (x_hours l G _ _ hn _ _) rfl (fun x h' hΨ => ?_)
        obtain ⟨rfl, L0, rfl, hL0⟩ := hΨ
        refine r_aload_n X dL_law_431 rfl ?_
        refine r_aload_nS X dL_law_432 rfl ?_
        refine r_iload_n X dL_law_433 rfl ?_
        refine r_iconst (v := 1) X dL_law_434 (by decide +kernel) ?_
        refine r_iaddE (v := 1) X dL_law_435 (by decide +kernel) ?_
        refine r_scr (v := xs 1) X hX hbl hG hG3 dL_law_436 (inK (by decide +kernel)) rfl ?_
        refine r_V1i X kv_L_45 dL_law_437 (apG (k := 0) hL0 rfl) rfl (m_hours l G _ _ hL0 _ _) rfl (fun x h' hΨ => ?_)
        obtain rfl := hΨ
        refine r_icmp_eq_t (tgt := 1357) X dL_law_440 rfl (rfl) ?_
        refine r_iinc (v := 6) X dL_law_1357 rfl (by decide +kernel) (by decide) ?_
        refine r_goto (tgt := 18) X dL_law_1360 rfl ?_
        refine r_iload_n X dL_law_18 rfl ?_
        refine r_aload_nS X dL_law_19 rfl ?_
        refine r_scl (v := 6) X hX hbl hG hG3 dL_law_20 (by decide +kernel) ?_
        refine r_bipush (v := 6) X dL_law_21 (by decide +kernel) ?_
        refine r_isubE (v := 0) X dL_law_23 (by decide +kernel) ?_
        refine r_icmp_gt_t (tgt := 1363) X dL_law_24 rfl (by decide +kernel) ?_
        refine r_iconst (v := 1) X dL_law_1363 (by decide +kernel) ?_
        exact r_lret X hr hlk hG dL_law_1364 rfl rfl
      · obtain rfl : sel = 7 := q1e.trans (by decide +kernel)
        refine r_tabIn (off := 412) (tgt := 445) X dL_law_33 (by decide +kernel) (by decide +kernel) (by decide +kernel) rfl ?_
        refine r_aload_n X dL_law_445 rfl ?_
        refine r_aload_nS X dL_law_446 rfl ?_
        refine r_iload_n X dL_law_447 rfl ?_
        refine r_iconst (v := 1) X dL_law_448 (by decide +kernel) ?_
        refine r_iaddE (v := 1) X dL_law_449 (by decide +kernel) ?_
        refine r_scr (v := xs 1) X hX hbl hG hG3 dL_law_450 (inK (by decide +kernel)) rfl ?_
        refine r_aload_nS X dL_law_451 rfl ?_
        refine r_iload_n X dL_law_452 rfl ?_
        refine r_iconst (v := 2) X dL_law_453 (by decide +kernel) ?_
        refine r_iaddE (v := 2) X dL_law_454 (by decide +kernel) ?_
        refine r_scr (v := xs 2) X hX hbl hG hG3 dL_law_455 (inK (by decide +kernel)) rfl ?_
        refine r_aload_nS X dL_law_456 rfl ?_
        refine r_iload_n X dL_law_457 rfl ?_
        refine r_iconst (v := 3) X dL_law_458 (by decide +kernel) ?_
        refine r_iaddE (v := 3) X dL_law_459 (by decide +kernel) ?_
        refine r_scr (v := xs 3) X hX hbl hG hG3 dL_law_460 (inK (by decide +kernel)) rfl ?_
        refine r_aload_nS X dL_law_461 rfl ?_
        refine r_iload_n X dL_law_462 rfl ?_
        refine r_iconst (v := 4) X dL_law_463 (by decide +kernel) ?_
        refine r_iaddE (v := 4) X dL_law_464 (by decide +kernel) ?_
        refine r_scr (v := xs 4) X hX hbl hG hG3 dL_law_465 (inK (by decide +kernel)) rfl ?_
        refine r_aload_nS X dL_law_466 rfl ?_
        refine r_iload_n X dL_law_467 rfl ?_
        refine r_iconst (v := 5) X dL_law_468 (by decide +kernel) ?_
        refine r_iaddE (v := 5) X dL_law_469 (by decide +kernel) ?_
        refine r_scr (v := xs 5) X hX hbl hG hG3 dL_law_470 (inK (by decide +kernel)) rfl ?_
        refine r_V5i X kv_L_46 dL_law_471 (apG (k := 0) hn rfl) rfl (x_feed l G _ _ hn _ _ _ _ _ _) rfl (fun x h' hΨ => ?_)
        obtain ⟨rfl, L0, rfl, hL0⟩ := hΨ
        refine r_aload_n X dL_law_474 rfl ?_
        refine r_aload_nS X dL_law_475 rfl ?_
        refine r_iload_n X dL_law_476 rfl ?_
        refine r_iconst (v := 1) X dL_law_477 (by decide +kernel) ?_
        refine r_iaddE (v := 1) X dL_law_478 (by decide +kernel) ?_
        refine r_scr (v := xs 1) X hX hbl hG hG3 dL_law_479 (inK (by decide +kernel)) rfl ?_
        refine r_aload_nS X dL_law_480 rfl ?_
        refine r_iload_n X dL_law_481 rfl ?_
        refine r_iconst (v := 2) X dL_law_482 (by decide +kernel) ?_
        refine r_iaddE (v := 2) X dL_law_483 (by decide +kernel) ?_
        refine r_scr (v := xs 2) X hX hbl hG hG3 dL_law_484 (inK (by decide +kernel)) rfl ?_
        refine r_aload_nS X dL_law_485 rfl ?_
        refine r_iload_n X dL_law_486 rfl ?_
        refine r_iconst (v := 3) X dL_law_487 (by decide +kernel) ?_
        refine r_iaddE (v := 3) X dL_law_488 (by decide +kernel) ?_
        refine r_scr (v := xs 3) X hX hbl hG hG3 dL_law_489 (inK (by decide +kernel)) rfl ?_
        refine r_aload_nS X dL_law_490 rfl ?_
        refine r_iload_n X dL_law_491 rfl ?_
        refine r_iconst (v := 4) X dL_law_492 (by decide +kernel) ?_
        refine r_iaddE (v := 4) X dL_law_493 (by decide +kernel) ?_
        refine r_scr (v := xs 4) X hX hbl hG hG3 dL_law_494 (inK (by decide +kernel)) rfl ?_
        refine r_aload_nS X dL_law_495 rfl ?_
        refine r_iload_n X dL_law_496 rfl ?_
        refine r_iconst (v := 5) X dL_law_497 (by decide +kernel) ?_
        refine r_iaddE (v := 5) X dL_law_498 (by decide +kernel) ?_
        refine r_scr (v := xs 5) X hX hbl hG hG3 dL_law_499 (inK (by decide +kernel)) rfl ?_
        refine r_V5i X kv_L_50 dL_law_500 (apG (k := 0) hL0 rfl) rfl (m_feed l G _ _ hL0 _ _ _ _ _ _) rfl (fun x h' hΨ => ?_)
        obtain rfl := hΨ
        refine r_icmp_eq_t (tgt := 1357) X dL_law_503 rfl (rfl) ?_
        refine r_iinc (v := 6) X dL_law_1357 rfl (by decide +kernel) (by decide) ?_
        refine r_goto (tgt := 18) X dL_law_1360 rfl ?_
        refine r_iload_n X dL_law_18 rfl ?_
        refine r_aload_nS X dL_law_19 rfl ?_
        refine r_scl (v := 6) X hX hbl hG hG3 dL_law_20 (by decide +kernel) ?_
        refine r_bipush (v := 6) X dL_law_21 (by decide +kernel) ?_
        refine r_isubE (v := 0) X dL_law_23 (by decide +kernel) ?_
        refine r_icmp_gt_t (tgt := 1363) X dL_law_24 rfl (by decide +kernel) ?_
        refine r_iconst (v := 1) X dL_law_1363 (by decide +kernel) ?_
        exact r_lret X hr hlk hG dL_law_1364 rfl rfl
      · obtain rfl : sel = 8 := q1e.trans (by decide +kernel)
        refine r_tabIn (off := 475) (tgt := 508) X dL_law_33 (by decide +kernel) (by decide +kernel) (by decide +kernel) rfl ?_
        refine r_aload_n X dL_law_508 rfl ?_
        refine r_aload_nS X dL_law_509 rfl ?_
        refine r_iload_n X dL_law_510 rfl ?_
        refine r_iconst (v := 1) X dL_law_511 (by decide +kernel) ?_
        refine r_iaddE (v := 1) X dL_law_512 (by decide +kernel) ?_
        refine r_scr (v := xs 1) X hX hbl hG hG3 dL_law_513 (inK (by decide +kernel)) rfl ?_
        refine r_V1i X kv_L_51 dL_law_514 (apG (k := 0) hn rfl) rfl (x_end l G _ _ hn _ _) rfl (fun x h' hΨ => ?_)
        obtain ⟨rfl, L0, rfl, hL0⟩ := hΨ
        refine r_aload_n X dL_law_517 rfl ?_
        refine r_aload_nS X dL_law_518 rfl ?_
        refine r_iload_n X dL_law_519 rfl ?_
        refine r_iconst (v := 1) X dL_law_520 (by decide +kernel) ?_
        refine r_iaddE (v := 1) X dL_law_521 (by decide +kernel) ?_
        refine r_scr (v := xs 1) X hX hbl hG hG3 dL_law_522 (inK (by decide +kernel)) rfl ?_
        refine r_V1i X kv_L_55 dL_law_523 (apG (k := 0) hL0 rfl) rfl (m_end l G _ _ hL0 _ _) rfl (fun x h' hΨ => ?_)
        obtain rfl := hΨ
        refine r_icmp_eq_t (tgt := 1357) X dL_law_526 rfl (rfl) ?_
        refine r_iinc (v := 6) X dL_law_1357 rfl (by decide +kernel) (by decide) ?_
        refine r_goto (tgt := 18) X dL_law_1360 rfl ?_
        refine r_iload_n X dL_law_18 rfl ?_
        refine r_aload_nS X dL_law_19 rfl ?_
        refine r_scl (v := 6) X hX hbl hG hG3 dL_law_20 (by decide +kernel) ?_
        refine r_bipush (v := 6) X dL_law_21 (by decide +kernel) ?_
        refine r_isubE (v := 0) X dL_law_23 (by decide +kernel) ?_
        refine r_icmp_gt_t (tgt := 1363) X dL_law_24 rfl (by decide +kernel) ?_
        refine r_iconst (v := 1) X dL_law_1363 (by decide +kernel) ?_
        exact r_lret X hr hlk hG dL_law_1364 rfl rfl
      · obtain rfl : sel = 9 := q1e.trans (by decide +kernel)
        refine r_tabIn (off := 498) (tgt := 531) X dL_law_33 (by decide +kernel) (by decide +kernel) (by decide +kernel) rfl ?_
        refine r_aload_n X dL_law_531 rfl ?_
        refine r_aload_nS X dL_law_532 rfl ?_
        refine r_iload_n X dL_law_533 rfl ?_
        refine r_iconst (v := 1) X dL_law_534 (by decide +kernel) ?_
        refine r_iaddE (v := 1) X dL_law_535 (by decide +kernel) ?_
        refine r_scr (v := xs 1) X hX hbl hG hG3 dL_law_536 (inK (by decide +kernel)) rfl ?_
        refine r_V1i X kv_L_56 dL_law_537 (apG (k := 0) hn rfl) rfl (x_text l G _ _ hn wf _) rfl (fun x h' hΨ => ?_)
        obtain ⟨rfl, L0, L1, rfl, hL0⟩ := hΨ
        refine r_aload_n X dL_law_540 rfl ?_
        refine r_aload_nS X dL_law_541 rfl ?_
        refine r_iload_n X dL_law_542 rfl ?_
        refine r_iconst (v := 1) X dL_law_543 (by decide +kernel) ?_
        refine r_iaddE (v := 1) X dL_law_544 (by decide +kernel) ?_
        refine r_scr (v := xs 1) X hX hbl hG hG3 dL_law_545 (inK (by decide +kernel)) rfl ?_
        refine r_V1i X kv_L_59 dL_law_546 (apG (k := 0) hL0 rfl) rfl (m_text l G _ _ hL0 _ _ _) rfl (fun x h' hΨ => ?_)
        obtain rfl := hΨ
        refine r_icmp_eq_t (tgt := 1357) X dL_law_549 rfl (rfl) ?_
        refine r_iinc (v := 6) X dL_law_1357 rfl (by decide +kernel) (by decide) ?_
        refine r_goto (tgt := 18) X dL_law_1360 rfl ?_
        refine r_iload_n X dL_law_18 rfl ?_
        refine r_aload_nS X dL_law_19 rfl ?_
        refine r_scl (v := 6) X hX hbl hG hG3 dL_law_20 (by decide +kernel) ?_
        refine r_bipush (v := 6) X dL_law_21 (by decide +kernel) ?_
        refine r_isubE (v := 0) X dL_law_23 (by decide +kernel) ?_
        refine r_icmp_gt_t (tgt := 1363) X dL_law_24 rfl (by decide +kernel) ?_
        refine r_iconst (v := 1) X dL_law_1363 (by decide +kernel) ?_
        exact r_lret X hr hlk hG dL_law_1364 rfl rfl
      · obtain rfl : sel = 10 := q1e.trans (by decide +kernel)
        refine r_tabIn (off := 521) (tgt := 554) X dL_law_33 (by decide +kernel) (by decide +kernel) (by decide +kernel) rfl ?_
        refine r_aload_n X dL_law_554 rfl ?_
        refine r_aload_nS X dL_law_555 rfl ?_
        refine r_iload_n X dL_law_556 rfl ?_
        refine r_iconst (v := 1) X dL_law_557 (by decide +kernel) ?_
        refine r_iaddE (v := 1) X dL_law_558 (by decide +kernel) ?_
        refine r_scr (v := xs 1) X hX hbl hG hG3 dL_law_559 (inK (by decide +kernel)) rfl ?_
        refine r_V1i X kv_L_60 dL_law_560 (apG (k := 0) hn rfl) rfl (x_fault l G _ _ hn _ _) rfl (fun x h' hΨ => ?_)
        obtain ⟨rfl, L0, rfl, hL0⟩ := hΨ
        refine r_aload_n X dL_law_563 rfl ?_
        refine r_aload_nS X dL_law_564 rfl ?_
        refine r_iload_n X dL_law_565 rfl ?_
        refine r_iconst (v := 1) X dL_law_566 (by decide +kernel) ?_
        refine r_iaddE (v := 1) X dL_law_567 (by decide +kernel) ?_
        refine r_scr (v := xs 1) X hX hbl hG hG3 dL_law_568 (inK (by decide +kernel)) rfl ?_
        refine r_V1i X kv_L_63 dL_law_569 (apG (k := 0) hL0 rfl) rfl (m_fault l G _ _ hL0 _ _) rfl (fun x h' hΨ => ?_)
        obtain rfl := hΨ
        refine r_icmp_eq_t (tgt := 1357) X dL_law_572 rfl (rfl) ?_
        refine r_iinc (v := 6) X dL_law_1357 rfl (by decide +kernel) (by decide) ?_
        refine r_goto (tgt := 18) X dL_law_1360 rfl ?_
        refine r_iload_n X dL_law_18 rfl ?_
        refine r_aload_nS X dL_law_19 rfl ?_
        refine r_scl (v := 6) X hX hbl hG hG3 dL_law_20 (by decide +kernel) ?_
        refine r_bipush (v := 6) X dL_law_21 (by decide +kernel) ?_
        refine r_isubE (v := 0) X dL_law_23 (by decide +kernel) ?_
        refine r_icmp_gt_t (tgt := 1363) X dL_law_24 rfl (by decide +kernel) ?_
        refine r_iconst (v := 1) X dL_law_1363 (by decide +kernel) ?_
        exact r_lret X hr hlk hG dL_law_1364 rfl rfl
      · obtain rfl : sel = 11 := q1e.trans (by decide +kernel)
        refine r_tabIn (off := 544) (tgt := 577) X dL_law_33 (by decide +kernel) (by decide +kernel) (by decide +kernel) rfl ?_
        refine r_aload_n X dL_law_577 rfl ?_
        refine r_aload_nS X dL_law_578 rfl ?_
        refine r_iload_n X dL_law_579 rfl ?_
        refine r_iconst (v := 1) X dL_law_580 (by decide +kernel) ?_
        refine r_iaddE (v := 1) X dL_law_581 (by decide +kernel) ?_
        refine r_scr (v := xs 1) X hX hbl hG hG3 dL_law_582 (inK (by decide +kernel)) rfl ?_
        refine r_aload_nS X dL_law_583 rfl ?_
        refine r_iload_n X dL_law_584 rfl ?_
        refine r_iconst (v := 2) X dL_law_585 (by decide +kernel) ?_
        refine r_iaddE (v := 2) X dL_law_586 (by decide +kernel) ?_
        refine r_scr (v := xs 2) X hX hbl hG hG3 dL_law_587 (inK (by decide +kernel)) rfl ?_
        refine r_V2i X kv_L_64 dL_law_588 (apG (k := 0) hn rfl) rfl (x_of l G _ _ hn _ _ _) rfl (fun x h' hΨ => ?_)
        obtain ⟨rfl, L0, rfl, hL0⟩ := hΨ
        refine r_aload_n X dL_law_591 rfl ?_
        refine r_aload_nS X dL_law_592 rfl ?_
        refine r_iload_n X dL_law_593 rfl ?_
        refine r_iconst (v := 1) X dL_law_594 (by decide +kernel) ?_
        refine r_iaddE (v := 1) X dL_law_595 (by decide +kernel) ?_
        refine r_scr (v := xs 1) X hX hbl hG hG3 dL_law_596 (inK (by decide +kernel)) rfl ?_
        refine r_aload_nS X dL_law_597 rfl ?_
        refine r_iload_n X dL_law_598 rfl ?_
        refine r_iconst (v := 2) X dL_law_599 (by decide +kernel) ?_
        refine r_iaddE (v := 2) X dL_law_600 (by decide +kernel) ?_
        refine r_scr (v := xs 2) X hX hbl hG hG3 dL_law_601 (inK (by decide +kernel)) rfl ?_
        refine r_V2i X kv_L_67 dL_law_602 (apG (k := 0) hL0 rfl) rfl (m_of l G _ _ hL0 _ _ _) rfl (fun x h' hΨ => ?_)
        obtain rfl := hΨ
        refine r_icmp_eq_t (tgt := 1357) X dL_law_605 rfl (rfl) ?_
        refine r_iinc (v := 6) X dL_law_1357 rfl (by decide +kernel) (by decide) ?_
        refine r_goto (tgt := 18) X dL_law_1360 rfl ?_
        refine r_iload_n X dL_law_18 rfl ?_
        refine r_aload_nS X dL_law_19 rfl ?_
        refine r_scl (v := 6) X hX hbl hG hG3 dL_law_20 (by decide +kernel) ?_
        refine r_bipush (v := 6) X dL_law_21 (by decide +kernel) ?_
        refine r_isubE (v := 0) X dL_law_23 (by decide +kernel) ?_
        refine r_icmp_gt_t (tgt := 1363) X dL_law_24 rfl (by decide +kernel) ?_
        refine r_iconst (v := 1) X dL_law_1363 (by decide +kernel) ?_
        exact r_lret X hr hlk hG dL_law_1364 rfl rfl
      · obtain rfl : sel = 12 := q1e.trans (by decide +kernel)
        refine r_tabIn (off := 577) (tgt := 610) X dL_law_33 (by decide +kernel) (by decide +kernel) (by decide +kernel) rfl ?_
        refine r_aload_n X dL_law_610 rfl ?_
        refine r_aload_nS X dL_law_611 rfl ?_
        refine r_iload_n X dL_law_612 rfl ?_
        refine r_iconst (v := 1) X dL_law_613 (by decide +kernel) ?_
        refine r_iaddE (v := 1) X dL_law_614 (by decide +kernel) ?_
        refine r_scr (v := xs 1) X hX hbl hG hG3 dL_law_615 (inK (by decide +kernel)) rfl ?_
        refine r_aload_nS X dL_law_616 rfl ?_
        refine r_iload_n X dL_law_617 rfl ?_
        refine r_iconst (v := 2) X dL_law_618 (by decide +kernel) ?_
        refine r_iaddE (v := 2) X dL_law_619 (by decide +kernel) ?_
        refine r_scr (v := xs 2) X hX hbl hG hG3 dL_law_620 (inK (by decide +kernel)) rfl ?_
        refine r_aload_nS X dL_law_621 rfl ?_
        refine r_iload_n X dL_law_622 rfl ?_
        refine r_iconst (v := 3) X dL_law_623 (by decide +kernel) ?_
        refine r_iaddE (v := 3) X dL_law_624 (by decide +kernel) ?_
        refine r_scr (v := xs 3) X hX hbl hG hG3 dL_law_625 (inK (by decide +kernel)) rfl ?_
        refine r_V3i X kv_L_68 dL_law_626 (apG (k := 0) hn rfl) rfl (x_cell l G _ _ hn _ _ _ _) rfl (fun x h' hΨ => ?_)
        obtain ⟨rfl, L0, rfl, hL0⟩ := hΨ
        refine r_aload_n X dL_law_629 rfl ?_
        refine r_aload_nS X dL_law_630 rfl ?_
        refine r_iload_n X dL_law_631 rfl ?_
        refine r_iconst (v := 1) X dL_law_632 (by decide +kernel) ?_
        refine r_iaddE (v := 1) X dL_law_633 (by decide +kernel) ?_
        refine r_scr (v := xs 1) X hX hbl hG hG3 dL_law_634 (inK (by decide +kernel)) rfl ?_
        refine r_aload_nS X dL_law_635 rfl ?_
        refine r_iload_n X dL_law_636 rfl ?_
        refine r_iconst (v := 2) X dL_law_637 (by decide +kernel) ?_
        refine r_iaddE (v := 2) X dL_law_638 (by decide +kernel) ?_
        refine r_scr (v := xs 2) X hX hbl hG hG3 dL_law_639 (inK (by decide +kernel)) rfl ?_
        refine r_aload_nS X dL_law_640 rfl ?_
        refine r_iload_n X dL_law_641 rfl ?_
        refine r_iconst (v := 3) X dL_law_642 (by decide +kernel) ?_
        refine r_iaddE (v := 3) X dL_law_643 (by decide +kernel) ?_
        refine r_scr (v := xs 3) X hX hbl hG hG3 dL_law_644 (inK (by decide +kernel)) rfl ?_
        refine r_V3i X kv_L_72 dL_law_645 (apG (k := 0) hL0 rfl) rfl (m_cell l G _ _ hL0 _ _ _ _) rfl (fun x h' hΨ => ?_)
        obtain rfl := hΨ
        refine r_icmp_eq_t (tgt := 1357) X dL_law_648 rfl (rfl) ?_
        refine r_iinc (v := 6) X dL_law_1357 rfl (by decide +kernel) (by decide) ?_
        refine r_goto (tgt := 18) X dL_law_1360 rfl ?_
        refine r_iload_n X dL_law_18 rfl ?_
        refine r_aload_nS X dL_law_19 rfl ?_
        refine r_scl (v := 6) X hX hbl hG hG3 dL_law_20 (by decide +kernel) ?_
        refine r_bipush (v := 6) X dL_law_21 (by decide +kernel) ?_
        refine r_isubE (v := 0) X dL_law_23 (by decide +kernel) ?_
        refine r_icmp_gt_t (tgt := 1363) X dL_law_24 rfl (by decide +kernel) ?_
        refine r_iconst (v := 1) X dL_law_1363 (by decide +kernel) ?_
        exact r_lret X hr hlk hG dL_law_1364 rfl rfl
      · obtain rfl : sel = 13 := q1e.trans (by decide +kernel)
        refine r_tabIn (off := 620) (tgt := 653) X dL_law_33 (by decide +kernel) (by decide +kernel) (by decide +kernel) rfl ?_
        refine r_aload_n X dL_law_653 rfl ?_
        refine r_aload_nS X dL_law_654 rfl ?_
        refine r_iload_n X dL_law_655 rfl ?_
        refine r_iconst (v := 1) X dL_law_656 (by decide +kernel) ?_
        refine r_iaddE (v := 1) X dL_law_657 (by decide +kernel) ?_
        refine r_scr (v := xs 1) X hX hbl hG hG3 dL_law_658 (inK (by decide +kernel)) rfl ?_
        refine r_aload_nS X dL_law_659 rfl ?_
        refine r_iload_n X dL_law_660 rfl ?_
        refine r_iconst (v := 2) X dL_law_661 (by decide +kernel) ?_
        refine r_iaddE (v := 2) X dL_law_662 (by decide +kernel) ?_
        refine r_scr (v := xs 2) X hX hbl hG hG3 dL_law_663 (inK (by decide +kernel)) rfl ?_
        refine r_V2i X kv_L_73 dL_law_664 (apG (k := 0) hn rfl) rfl (x_book l G _ _ hn _ _ _) rfl (fun x h' hΨ => ?_)
        obtain ⟨rfl, L0, rfl, hL0⟩ := hΨ
        refine r_aload_n X dL_law_667 rfl ?_
        refine r_aload_nS X dL_law_668 rfl ?_
        refine r_iload_n X dL_law_669 rfl ?_
        refine r_iconst (v := 1) X dL_law_670 (by decide +kernel) ?_
        refine r_iaddE (v := 1) X dL_law_671 (by decide +kernel) ?_
        refine r_scr (v := xs 1) X hX hbl hG hG3 dL_law_672 (inK (by decide +kernel)) rfl ?_
        refine r_aload_nS X dL_law_673 rfl ?_
        refine r_iload_n X dL_law_674 rfl ?_
        refine r_iconst (v := 2) X dL_law_675 (by decide +kernel) ?_
        refine r_iaddE (v := 2) X dL_law_676 (by decide +kernel) ?_
        refine r_scr (v := xs 2) X hX hbl hG hG3 dL_law_677 (inK (by decide +kernel)) rfl ?_
        refine r_V2i X kv_L_76 dL_law_678 (apG (k := 0) hL0 rfl) rfl (m_book l G _ _ hL0 _ _ _) rfl (fun x h' hΨ => ?_)
        obtain rfl := hΨ
        refine r_icmp_eq_t (tgt := 1357) X dL_law_681 rfl (rfl) ?_
        refine r_iinc (v := 6) X dL_law_1357 rfl (by decide +kernel) (by decide) ?_
        refine r_goto (tgt := 18) X dL_law_1360 rfl ?_
        refine r_iload_n X dL_law_18 rfl ?_
        refine r_aload_nS X dL_law_19 rfl ?_
        refine r_scl (v := 6) X hX hbl hG hG3 dL_law_20 (by decide +kernel) ?_
        refine r_bipush (v := 6) X dL_law_21 (by decide +kernel) ?_
        refine r_isubE (v := 0) X dL_law_23 (by decide +kernel) ?_
        refine r_icmp_gt_t (tgt := 1363) X dL_law_24 rfl (by decide +kernel) ?_
        refine r_iconst (v := 1) X dL_law_1363 (by decide +kernel) ?_
        exact r_lret X hr hlk hG dL_law_1364 rfl rfl
      · obtain rfl : sel = 14 := q1e.trans (by decide +kernel)
        refine r_tabIn (off := 653) (tgt := 686) X dL_law_33 (by decide +kernel) (by decide +kernel) (by decide +kernel) rfl ?_
        refine r_aload_n X dL_law_686 rfl ?_
        refine r_aload_nS X dL_law_687 rfl ?_
        refine r_iload_n X dL_law_688 rfl ?_
        refine r_iconst (v := 1) X dL_law_689 (by decide +kernel) ?_
        refine r_iaddE (v := 1) X dL_law_690 (by decide +kernel) ?_
        refine r_scr (v := xs 1) X hX hbl hG hG3 dL_law_691 (inK (by decide +kernel)) rfl ?_
        refine r_aload_nS X dL_law_692 rfl ?_
        refine r_iload_n X dL_law_693 rfl ?_
        refine r_iconst (v := 2) X dL_law_694 (by decide +kernel) ?_
        refine r_iaddE (v := 2) X dL_law_695 (by decide +kernel) ?_
        refine r_scr (v := xs 2) X hX hbl hG hG3 dL_law_696 (inK (by decide +kernel)) rfl ?_
        refine r_V2i X kv_L_77 dL_law_697 (apG (k := 0) hn rfl) rfl (x_goes l G _ _ hn _ _ _) rfl (fun x h' hΨ => ?_)
        obtain ⟨rfl, L0, rfl, hL0⟩ := hΨ
        refine r_aload_n X dL_law_700 rfl ?_
        refine r_aload_nS X dL_law_701 rfl ?_
        refine r_iload_n X dL_law_702 rfl ?_
        refine r_iconst (v := 1) X dL_law_703 (by decide +kernel) ?_
        refine r_iaddE (v := 1) X dL_law_704 (by decide +kernel) ?_
        refine r_scr (v := xs 1) X hX hbl hG hG3 dL_law_705 (inK (by decide +kernel)) rfl ?_
        refine r_aload_nS X dL_law_706 rfl ?_
        refine r_iload_n X dL_law_707 rfl ?_
        refine r_iconst (v := 2) X dL_law_708 (by decide +kernel) ?_
        refine r_iaddE (v := 2) X dL_law_709 (by decide +kernel) ?_
        refine r_scr (v := xs 2) X hX hbl hG hG3 dL_law_710 (inK (by decide +kernel)) rfl ?_
        refine r_V2i X kv_L_80 dL_law_711 (apG (k := 0) hL0 rfl) rfl (m_goes l G _ _ hL0 _ _ _) rfl (fun x h' hΨ => ?_)
        obtain rfl := hΨ
        refine r_icmp_eq_t (tgt := 1357) X dL_law_714 rfl (rfl) ?_
        refine r_iinc (v := 6) X dL_law_1357 rfl (by decide +kernel) (by decide) ?_
        refine r_goto (tgt := 18) X dL_law_1360 rfl ?_
        refine r_iload_n X dL_law_18 rfl ?_
        refine r_aload_nS X dL_law_19 rfl ?_
        refine r_scl (v := 6) X hX hbl hG hG3 dL_law_20 (by decide +kernel) ?_
        refine r_bipush (v := 6) X dL_law_21 (by decide +kernel) ?_
        refine r_isubE (v := 0) X dL_law_23 (by decide +kernel) ?_
        refine r_icmp_gt_t (tgt := 1363) X dL_law_24 rfl (by decide +kernel) ?_
        refine r_iconst (v := 1) X dL_law_1363 (by decide +kernel) ?_
        exact r_lret X hr hlk hG dL_law_1364 rfl rfl
      · obtain rfl : sel = 15 := q1e.trans (by decide +kernel)
        refine r_tabIn (off := 686) (tgt := 719) X dL_law_33 (by decide +kernel) (by decide +kernel) (by decide +kernel) rfl ?_
        refine r_aload_n X dL_law_719 rfl ?_
        refine r_aload_nS X dL_law_720 rfl ?_
        refine r_iload_n X dL_law_721 rfl ?_
        refine r_iconst (v := 1) X dL_law_722 (by decide +kernel) ?_
        refine r_iaddE (v := 1) X dL_law_723 (by decide +kernel) ?_
        refine r_scr (v := xs 1) X hX hbl hG hG3 dL_law_724 (inK (by decide +kernel)) rfl ?_
        refine r_V1i X kv_L_81 dL_law_725 (apG (k := 0) hn rfl) rfl (x_wax l G _ _ hn _ _) rfl (fun x h' hΨ => ?_)
        obtain ⟨rfl, L0, rfl, hL0⟩ := hΨ
        refine r_aload_n X dL_law_728 rfl ?_
        refine r_aload_nS X dL_law_729 rfl ?_
        refine r_iload_n X dL_law_730 rfl ?_
        refine r_iconst (v := 1) X dL_law_731 (by decide +kernel) ?_
        refine r_iaddE (v := 1) X dL_law_732 (by decide +kernel) ?_
        refine r_scr (v := xs 1) X hX hbl hG hG3 dL_law_733 (inK (by decide +kernel)) rfl ?_
        refine r_V1i X kv_L_84 dL_law_734 (apG (k := 0) hL0 rfl) rfl (m_wax l G _ _ hL0 _ _) rfl (fun x h' hΨ => ?_)
        obtain rfl := hΨ
        refine r_icmp_eq_t (tgt := 1357) X dL_law_737 rfl (rfl) ?_
        refine r_iinc (v := 6) X dL_law_1357 rfl (by decide +kernel) (by decide) ?_
        refine r_goto (tgt := 18) X dL_law_1360 rfl ?_
        refine r_iload_n X dL_law_18 rfl ?_
        refine r_aload_nS X dL_law_19 rfl ?_
        refine r_scl (v := 6) X hX hbl hG hG3 dL_law_20 (by decide +kernel) ?_
        refine r_bipush (v := 6) X dL_law_21 (by decide +kernel) ?_
        refine r_isubE (v := 0) X dL_law_23 (by decide +kernel) ?_
        refine r_icmp_gt_t (tgt := 1363) X dL_law_24 rfl (by decide +kernel) ?_
        refine r_iconst (v := 1) X dL_law_1363 (by decide +kernel) ?_
        exact r_lret X hr hlk hG dL_law_1364 rfl rfl
      · obtain rfl : sel = 16 := q1e.trans (by decide +kernel)
        refine r_tabIn (off := 709) (tgt := 742) X dL_law_33 (by decide +kernel) (by decide +kernel) (by decide +kernel) rfl ?_
        refine r_aload_n X dL_law_742 rfl ?_
        refine r_aload_nS X dL_law_743 rfl ?_
        refine r_iload_n X dL_law_744 rfl ?_
        refine r_iconst (v := 1) X dL_law_745 (by decide +kernel) ?_
        refine r_iaddE (v := 1) X dL_law_746 (by decide +kernel) ?_
        refine r_scr (v := xs 1) X hX hbl hG hG3 dL_law_747 (inK (by decide +kernel)) rfl ?_
        refine r_aload_nS X dL_law_748 rfl ?_
        refine r_iload_n X dL_law_749 rfl ?_
        refine r_iconst (v := 2) X dL_law_750 (by decide +kernel) ?_
        refine r_iaddE (v := 2) X dL_law_751 (by decide +kernel) ?_
        refine r_scr (v := xs 2) X hX hbl hG hG3 dL_law_752 (inK (by decide +kernel)) rfl ?_
        refine r_V2i X kv_L_85 dL_law_753 (apG (k := 0) hn rfl) rfl (x_whose l G _ _ hn _ _ _) rfl (fun x h' hΨ => ?_)
        obtain ⟨rfl, L0, rfl, hL0⟩ := hΨ
        refine r_aload_n X dL_law_756 rfl ?_
        refine r_aload_nS X dL_law_757 rfl ?_
        refine r_iload_n X dL_law_758 rfl ?_
        refine r_iconst (v := 1) X dL_law_759 (by decide +kernel) ?_
        refine r_iaddE (v := 1) X dL_law_760 (by decide +kernel) ?_
        refine r_scr (v := xs 1) X hX hbl hG hG3 dL_law_761 (inK (by decide +kernel)) rfl ?_
        refine r_aload_nS X dL_law_762 rfl ?_
        refine r_iload_n X dL_law_763 rfl ?_
        refine r_iconst (v := 2) X dL_law_764 (by decide +kernel) ?_
        refine r_iaddE (v := 2) X dL_law_765 (by decide +kernel) ?_
        refine r_scr (v := xs 2) X hX hbl hG hG3 dL_law_766 (inK (by decide +kernel)) rfl ?_
        refine r_V2i X kv_L_88 dL_law_767 (apG (k := 0) hL0 rfl) rfl (m_whose l G _ _ hL0 _ _ _) rfl (fun x h' hΨ => ?_)
        obtain rfl := hΨ
        refine r_icmp_eq_t (tgt := 1357) X dL_law_770 rfl (rfl) ?_
        refine r_iinc (v := 6) X dL_law_1357 rfl (by decide +kernel) (by decide) ?_
        refine r_goto (tgt := 18) X dL_law_1360 rfl ?_
        refine r_iload_n X dL_law_18 rfl ?_
        refine r_aload_nS X dL_law_19 rfl ?_
        refine r_scl (v := 6) X hX hbl hG hG3 dL_law_20 (by decide +kernel) ?_
        refine r_bipush (v := 6) X dL_law_21 (by decide +kernel) ?_
        refine r_isubE (v := 0) X dL_law_23 (by decide +kernel) ?_
        refine r_icmp_gt_t (tgt := 1363) X dL_law_24 rfl (by decide +kernel) ?_
        refine r_iconst (v := 1) X dL_law_1363 (by decide +kernel) ?_
        exact r_lret X hr hlk hG dL_law_1364 rfl rfl
      · obtain rfl : sel = 17 := q1e.trans (by decide +kernel)
        refine r_tabIn (off := 742) (tgt := 775) X dL_law_33 (by decide +kernel) (by decide +kernel) (by decide +kernel) rfl ?_
        refine r_aload_n X dL_law_775 rfl ?_
        refine r_aload_nS X dL_law_776 rfl ?_
        refine r_iload_n X dL_law_777 rfl ?_
        refine r_iconst (v := 1) X dL_law_778 (by decide +kernel) ?_
        refine r_iaddE (v := 1) X dL_law_779 (by decide +kernel) ?_
        refine r_scr (v := xs 1) X hX hbl hG hG3 dL_law_780 (inK (by decide +kernel)) rfl ?_
        refine r_V1i X kv_L_89 dL_law_781 (apG (k := 0) hn rfl) rfl (x_could l G _ _ hn _ _) rfl (fun x h' hΨ => ?_)
        obtain ⟨rfl, L0, rfl, hL0⟩ := hΨ
        refine r_aload_n X dL_law_784 rfl ?_
        refine r_aload_nS X dL_law_785 rfl ?_
        refine r_iload_n X dL_law_786 rfl ?_
        refine r_iconst (v := 1) X dL_law_787 (by decide +kernel) ?_
        refine r_iaddE (v := 1) X dL_law_788 (by decide +kernel) ?_
        refine r_scr (v := xs 1) X hX hbl hG hG3 dL_law_789 (inK (by decide +kernel)) rfl ?_
        refine r_V1i X kv_L_92 dL_law_790 (apG (k := 0) hL0 rfl) rfl (m_could l G _ _ hL0 _ _) rfl (fun x h' hΨ => ?_)
        obtain rfl := hΨ
        refine r_icmp_eq_t (tgt := 1357) X dL_law_793 rfl (rfl) ?_
        refine r_iinc (v := 6) X dL_law_1357 rfl (by decide +kernel) (by decide) ?_
        refine r_goto (tgt := 18) X dL_law_1360 rfl ?_
        refine r_iload_n X dL_law_18 rfl ?_
        refine r_aload_nS X dL_law_19 rfl ?_
        refine r_scl (v := 6) X hX hbl hG hG3 dL_law_20 (by decide +kernel) ?_
        refine r_bipush (v := 6) X dL_law_21 (by decide +kernel) ?_
        refine r_isubE (v := 0) X dL_law_23 (by decide +kernel) ?_
        refine r_icmp_gt_t (tgt := 1363) X dL_law_24 rfl (by decide +kernel) ?_
        refine r_iconst (v := 1) X dL_law_1363 (by decide +kernel) ?_
        exact r_lret X hr hlk hG dL_law_1364 rfl rfl
      · obtain rfl : sel = 18 := q1e.trans (by decide +kernel)
        refine r_tabIn (off := 765) (tgt := 798) X dL_law_33 (by decide +kernel) (by decide +kernel) (by decide +kernel) rfl ?_
        refine r_aload_n X dL_law_798 rfl ?_
        refine r_aload_nS X dL_law_799 rfl ?_
        refine r_iload_n X dL_law_800 rfl ?_
        refine r_iconst (v := 1) X dL_law_801 (by decide +kernel) ?_
        refine r_iaddE (v := 1) X dL_law_802 (by decide +kernel) ?_
        refine r_scr (v := xs 1) X hX hbl hG hG3 dL_law_803 (inK (by decide +kernel)) rfl ?_
        refine r_V1i X kv_L_93 dL_law_804 (apG (k := 0) hn rfl) rfl (x_party l G _ _ hn _ _) rfl (fun x h' hΨ => ?_)
        obtain ⟨rfl, L0, rfl, hL0⟩ := hΨ
        refine r_aload_n X dL_law_807 rfl ?_
        refine r_aload_nS X dL_law_808 rfl ?_
        refine r_iload_n X dL_law_809 rfl ?_
        refine r_iconst (v := 1) X dL_law_810 (by decide +kernel) ?_
        refine r_iaddE (v := 1) X dL_law_811 (by decide +kernel) ?_
        refine r_scr (v := xs 1) X hX hbl hG hG3 dL_law_812 (inK (by decide +kernel)) rfl ?_
        refine r_V1i X kv_L_96 dL_law_813 (apG (k := 0) hL0 rfl) rfl (m_party l G _ _ hL0 _ _) rfl (fun x h' hΨ => ?_)
        obtain rfl := hΨ
        refine r_icmp_eq_t (tgt := 1357) X dL_law_816 rfl (rfl) ?_
        refine r_iinc (v := 6) X dL_law_1357 rfl (by decide +kernel) (by decide) ?_
        refine r_goto (tgt := 18) X dL_law_1360 rfl ?_
        refine r_iload_n X dL_law_18 rfl ?_
        refine r_aload_nS X dL_law_19 rfl ?_
        refine r_scl (v := 6) X hX hbl hG hG3 dL_law_20 (by decide +kernel) ?_
        refine r_bipush (v := 6) X dL_law_21 (by decide +kernel) ?_
        refine r_isubE (v := 0) X dL_law_23 (by decide +kernel) ?_
        refine r_icmp_gt_t (tgt := 1363) X dL_law_24 rfl (by decide +kernel) ?_
        refine r_iconst (v := 1) X dL_law_1363 (by decide +kernel) ?_
        exact r_lret X hr hlk hG dL_law_1364 rfl rfl
      · obtain rfl : sel = 19 := q1e.trans (by decide +kernel)
        refine r_tabIn (off := 788) (tgt := 821) X dL_law_33 (by decide +kernel) (by decide +kernel) (by decide +kernel) rfl ?_
        refine r_aload_n X dL_law_821 rfl ?_
        refine r_aload_nS X dL_law_822 rfl ?_
        refine r_iload_n X dL_law_823 rfl ?_
        refine r_iconst (v := 1) X dL_law_824 (by decide +kernel) ?_
        refine r_iaddE (v := 1) X dL_law_825 (by decide +kernel) ?_
        refine r_scr (v := xs 1) X hX hbl hG hG3 dL_law_826 (inK (by decide +kernel)) rfl ?_
        refine r_aload_nS X dL_law_827 rfl ?_
        refine r_iload_n X dL_law_828 rfl ?_
        refine r_iconst (v := 2) X dL_law_829 (by decide +kernel) ?_
        refine r_iaddE (v := 2) X dL_law_830 (by decide +kernel) ?_
        refine r_scr (v := xs 2) X hX hbl hG hG3 dL_law_831 (inK (by decide +kernel)) rfl ?_
        refine r_aload_nS X dL_law_832 rfl ?_
        refine r_iload_n X dL_law_833 rfl ?_
        refine r_iconst (v := 3) X dL_law_834 (by decide +kernel) ?_
        refine r_iaddE (v := 3) X dL_law_835 (by decide +kernel) ?_
        refine r_scr (v := xs 3) X hX hbl hG hG3 dL_law_836 (inK (by decide +kernel)) rfl ?_
        refine r_V3i X kv_L_97 dL_law_837 (apG (k := 0) hn rfl) rfl (x_seats l G _ _ hn _ _ _ _) rfl (fun x h' hΨ => ?_)
        obtain ⟨rfl, L0, rfl, hL0⟩ := hΨ
        refine r_aload_n X dL_law_840 rfl ?_
        refine r_aload_nS X dL_law_841 rfl ?_
        refine r_iload_n X dL_law_842 rfl ?_
        refine r_iconst (v := 1) X dL_law_843 (by decide +kernel) ?_
        refine r_iaddE (v := 1) X dL_law_844 (by decide +kernel) ?_
        refine r_scr (v := xs 1) X hX hbl hG hG3 dL_law_845 (inK (by decide +kernel)) rfl ?_
        refine r_aload_nS X dL_law_846 rfl ?_
        refine r_iload_n X dL_law_847 rfl ?_
        refine r_iconst (v := 2) X dL_law_848 (by decide +kernel) ?_
        refine r_iaddE (v := 2) X dL_law_849 (by decide +kernel) ?_
        refine r_scr (v := xs 2) X hX hbl hG hG3 dL_law_850 (inK (by decide +kernel)) rfl ?_
        refine r_aload_nS X dL_law_851 rfl ?_
        refine r_iload_n X dL_law_852 rfl ?_
        refine r_iconst (v := 3) X dL_law_853 (by decide +kernel) ?_
        refine r_iaddE (v := 3) X dL_law_854 (by decide +kernel) ?_
        refine r_scr (v := xs 3) X hX hbl hG hG3 dL_law_855 (inK (by decide +kernel)) rfl ?_
        refine r_V3i X kv_L_100 dL_law_856 (apG (k := 0) hL0 rfl) rfl (m_seats l G _ _ hL0 _ _ _ _) rfl (fun x h' hΨ => ?_)
        obtain rfl := hΨ
        refine r_icmp_eq_t (tgt := 1357) X dL_law_859 rfl (rfl) ?_
        refine r_iinc (v := 6) X dL_law_1357 rfl (by decide +kernel) (by decide) ?_
        refine r_goto (tgt := 18) X dL_law_1360 rfl ?_
        refine r_iload_n X dL_law_18 rfl ?_
        refine r_aload_nS X dL_law_19 rfl ?_
        refine r_scl (v := 6) X hX hbl hG hG3 dL_law_20 (by decide +kernel) ?_
        refine r_bipush (v := 6) X dL_law_21 (by decide +kernel) ?_
        refine r_isubE (v := 0) X dL_law_23 (by decide +kernel) ?_
        refine r_icmp_gt_t (tgt := 1363) X dL_law_24 rfl (by decide +kernel) ?_
        refine r_iconst (v := 1) X dL_law_1363 (by decide +kernel) ?_
        exact r_lret X hr hlk hG dL_law_1364 rfl rfl
      · obtain rfl : sel = 20 := q1e.trans (by decide +kernel)
        refine r_tabIn (off := 831) (tgt := 864) X dL_law_33 (by decide +kernel) (by decide +kernel) (by decide +kernel) rfl ?_
        refine r_aload_n X dL_law_864 rfl ?_
        refine r_aload_nS X dL_law_865 rfl ?_
        refine r_iload_n X dL_law_866 rfl ?_
        refine r_iconst (v := 1) X dL_law_867 (by decide +kernel) ?_
        refine r_iaddE (v := 1) X dL_law_868 (by decide +kernel) ?_
        refine r_scr (v := xs 1) X hX hbl hG hG3 dL_law_869 (inK (by decide +kernel)) rfl ?_
        refine r_V1i X kv_L_101 dL_law_870 (apG (k := 0) hn rfl) rfl (x_house l G _ _ hn _ _) rfl (fun x h' hΨ => ?_)
        obtain ⟨rfl, L0, rfl, hL0⟩ := hΨ
        refine r_aload_n X dL_law_873 rfl ?_
        refine r_aload_nS X dL_law_874 rfl ?_
        refine r_iload_n X dL_law_875 rfl ?_
        refine r_iconst (v := 1) X dL_law_876 (by decide +kernel) ?_
        refine r_iaddE (v := 1) X dL_law_877 (by decide +kernel) ?_
        refine r_scr (v := xs 1) X hX hbl hG hG3 dL_law_878 (inK (by decide +kernel)) rfl ?_
        refine r_V1i X kv_L_104 dL_law_879 (apG (k := 0) hL0 rfl) rfl (m_house l G _ _ hL0 _ _) rfl (fun x h' hΨ => ?_)
        obtain rfl := hΨ
        refine r_icmp_eq_t (tgt := 1357) X dL_law_882 rfl (rfl) ?_
        refine r_iinc (v := 6) X dL_law_1357 rfl (by decide +kernel) (by decide) ?_
        refine r_goto (tgt := 18) X dL_law_1360 rfl ?_
        refine r_iload_n X dL_law_18 rfl ?_
        refine r_aload_nS X dL_law_19 rfl ?_
        refine r_scl (v := 6) X hX hbl hG hG3 dL_law_20 (by decide +kernel) ?_
        refine r_bipush (v := 6) X dL_law_21 (by decide +kernel) ?_
        refine r_isubE (v := 0) X dL_law_23 (by decide +kernel) ?_
        refine r_icmp_gt_t (tgt := 1363) X dL_law_24 rfl (by decide +kernel) ?_
        refine r_iconst (v := 1) X dL_law_1363 (by decide +kernel) ?_
        exact r_lret X hr hlk hG dL_law_1364 rfl rfl
      · obtain rfl : sel = 21 := q1e.trans (by decide +kernel)
        refine r_tabIn (off := 854) (tgt := 887) X dL_law_33 (by decide +kernel) (by decide +kernel) (by decide +kernel) rfl ?_
        refine r_aload_n X dL_law_887 rfl ?_
        refine r_aload_nS X dL_law_888 rfl ?_
        refine r_iload_n X dL_law_889 rfl ?_
        refine r_iconst (v := 1) X dL_law_890 (by decide +kernel) ?_
        refine r_iaddE (v := 1) X dL_law_891 (by decide +kernel) ?_
        refine r_scr (v := xs 1) X hX hbl hG hG3 dL_law_892 (inK (by decide +kernel)) rfl ?_
        refine r_aload_nS X dL_law_893 rfl ?_
        refine r_iload_n X dL_law_894 rfl ?_
        refine r_iconst (v := 2) X dL_law_895 (by decide +kernel) ?_
        refine r_iaddE (v := 2) X dL_law_896 (by decide +kernel) ?_
        refine r_scr (v := xs 2) X hX hbl hG hG3 dL_law_897 (inK (by decide +kernel)) rfl ?_
        refine r_V2i X kv_L_105 dL_law_898 (apG (k := 0) hn rfl) rfl (x_parishes l G _ _ hn _ _ _) rfl (fun x h' hΨ => ?_)
        obtain ⟨rfl, L0, rfl, hL0⟩ := hΨ
        refine r_aload_n X dL_law_901 rfl ?_
        refine r_aload_nS X dL_law_902 rfl ?_
        refine r_iload_n X dL_law_903 rfl ?_
        refine r_iconst (v := 1) X dL_law_904 (by decide +kernel) ?_
        refine r_iaddE (v := 1) X dL_law_905 (by decide +kernel) ?_
        refine r_scr (v := xs 1) X hX hbl hG hG3 dL_law_906 (inK (by decide +kernel)) rfl ?_
        refine r_aload_nS X dL_law_907 rfl ?_
        refine r_iload_n X dL_law_908 rfl ?_
        refine r_iconst (v := 2) X dL_law_909 (by decide +kernel) ?_
        refine r_iaddE (v := 2) X dL_law_910 (by decide +kernel) ?_
        refine r_scr (v := xs 2) X hX hbl hG hG3 dL_law_911 (inK (by decide +kernel)) rfl ?_
        refine r_V2i X kv_L_108 dL_law_912 (apG (k := 0) hL0 rfl) rfl (m_parishes l G _ _ hL0 _ _ _) rfl (fun x h' hΨ => ?_)
        obtain rfl := hΨ
        refine r_icmp_eq_t (tgt := 1357) X dL_law_915 rfl (rfl) ?_
        refine r_iinc (v := 6) X dL_law_1357 rfl (by decide +kernel) (by decide) ?_
        refine r_goto (tgt := 18) X dL_law_1360 rfl ?_
        refine r_iload_n X dL_law_18 rfl ?_
        refine r_aload_nS X dL_law_19 rfl ?_
        refine r_scl (v := 6) X hX hbl hG hG3 dL_law_20 (by decide +kernel) ?_
        refine r_bipush (v := 6) X dL_law_21 (by decide +kernel) ?_
        refine r_isubE (v := 0) X dL_law_23 (by decide +kernel) ?_
        refine r_icmp_gt_t (tgt := 1363) X dL_law_24 rfl (by decide +kernel) ?_
        refine r_iconst (v := 1) X dL_law_1363 (by decide +kernel) ?_
        exact r_lret X hr hlk hG dL_law_1364 rfl rfl
      · obtain rfl : sel = 22 := q1e.trans (by decide +kernel)
        refine r_tabIn (off := 887) (tgt := 920) X dL_law_33 (by decide +kernel) (by decide +kernel) (by decide +kernel) rfl ?_
        refine r_aload_n X dL_law_920 rfl ?_
        refine r_aload_nS X dL_law_921 rfl ?_
        refine r_iload_n X dL_law_922 rfl ?_
        refine r_iconst (v := 1) X dL_law_923 (by decide +kernel) ?_
        refine r_iaddE (v := 1) X dL_law_924 (by decide +kernel) ?_
        refine r_scr (v := xs 1) X hX hbl hG hG3 dL_law_925 (inK (by decide +kernel)) rfl ?_
        refine r_V1i X kv_L_109 dL_law_926 (apG (k := 0) hn rfl) rfl (x_wish l G _ _ hn _ _) rfl (fun x h' hΨ => ?_)
        obtain ⟨rfl, L0, rfl, hL0⟩ := hΨ
        refine r_aload_n X dL_law_929 rfl ?_
        refine r_aload_nS X dL_law_930 rfl ?_
        refine r_iload_n X dL_law_931 rfl ?_
        refine r_iconst (v := 1) X dL_law_932 (by decide +kernel) ?_
        refine r_iaddE (v := 1) X dL_law_933 (by decide +kernel) ?_
        refine r_scr (v := xs 1) X hX hbl hG hG3 dL_law_934 (inK (by decide +kernel)) rfl ?_
        refine r_V1i X kv_L_112 dL_law_935 (apG (k := 0) hL0 rfl) rfl (m_wish l G _ _ hL0 _ _) rfl (fun x h' hΨ => ?_)
        obtain rfl := hΨ
        refine r_icmp_eq_t (tgt := 1357) X dL_law_938 rfl (rfl) ?_
        refine r_iinc (v := 6) X dL_law_1357 rfl (by decide +kernel) (by decide) ?_
        refine r_goto (tgt := 18) X dL_law_1360 rfl ?_
        refine r_iload_n X dL_law_18 rfl ?_
        refine r_aload_nS X dL_law_19 rfl ?_
        refine r_scl (v := 6) X hX hbl hG hG3 dL_law_20 (by decide +kernel) ?_
        refine r_bipush (v := 6) X dL_law_21 (by decide +kernel) ?_
        refine r_isubE (v := 0) X dL_law_23 (by decide +kernel) ?_
        refine r_icmp_gt_t (tgt := 1363) X dL_law_24 rfl (by decide +kernel) ?_
        refine r_iconst (v := 1) X dL_law_1363 (by decide +kernel) ?_
        exact r_lret X hr hlk hG dL_law_1364 rfl rfl
      · obtain rfl : sel = 23 := q1e.trans (by decide +kernel)
        refine r_tabIn (off := 910) (tgt := 943) X dL_law_33 (by decide +kernel) (by decide +kernel) (by decide +kernel) rfl ?_
        refine r_aload_n X dL_law_943 rfl ?_
        refine r_aload_nS X dL_law_944 rfl ?_
        refine r_iload_n X dL_law_945 rfl ?_
        refine r_iconst (v := 1) X dL_law_946 (by decide +kernel) ?_
        refine r_iaddE (v := 1) X dL_law_947 (by decide +kernel) ?_
        refine r_scr (v := xs 1) X hX hbl hG hG3 dL_law_948 (inK (by decide +kernel)) rfl ?_
        refine r_V1i X kv_L_113 dL_law_949 (apG (k := 0) hn rfl) rfl (x_name l G _ _ hn _ _) rfl (fun x h' hΨ => ?_)
        obtain ⟨rfl, L0, rfl, hL0⟩ := hΨ
        refine r_aload_n X dL_law_952 rfl ?_
        refine r_aload_nS X dL_law_953 rfl ?_
        refine r_iload_n X dL_law_954 rfl ?_
        refine r_iconst (v := 1) X dL_law_955 (by decide +kernel) ?_
        refine r_iaddE (v := 1) X dL_law_956 (by decide +kernel) ?_
        refine r_scr (v := xs 1) X hX hbl hG hG3 dL_law_957 (inK (by decide +kernel)) rfl ?_
        refine r_V1i X kv_L_116 dL_law_958 (apG (k := 0) hL0 rfl) rfl (m_name l G _ _ hL0 _ _) rfl (fun x h' hΨ => ?_)
        obtain rfl := hΨ
        refine r_icmp_eq_t (tgt := 1357) X dL_law_961 rfl (rfl) ?_
        refine r_iinc (v := 6) X dL_law_1357 rfl (by decide +kernel) (by decide) ?_
        refine r_goto (tgt := 18) X dL_law_1360 rfl ?_
        refine r_iload_n X dL_law_18 rfl ?_
        refine r_aload_nS X dL_law_19 rfl ?_
        refine r_scl (v := 6) X hX hbl hG hG3 dL_law_20 (by decide +kernel) ?_
        refine r_bipush (v := 6) X dL_law_21 (by decide +kernel) ?_
        refine r_isubE (v := 0) X dL_law_23 (by decide +kernel) ?_
        refine r_icmp_gt_t (tgt := 1363) X dL_law_24 rfl (by decide +kernel) ?_
        refine r_iconst (v := 1) X dL_law_1363 (by decide +kernel) ?_
        exact r_lret X hr hlk hG dL_law_1364 rfl rfl
      · obtain rfl : sel = 24 := q1e.trans (by decide +kernel)
        refine r_tabIn (off := 933) (tgt := 966) X dL_law_33 (by decide +kernel) (by decide +kernel) (by decide +kernel) rfl ?_
        refine r_aload_n X dL_law_966 rfl ?_
        refine r_aload_nS X dL_law_967 rfl ?_
        refine r_iload_n X dL_law_968 rfl ?_
        refine r_iconst (v := 1) X dL_law_969 (by decide +kernel) ?_
        refine r_iaddE (v := 1) X dL_law_970 (by decide +kernel) ?_
        refine r_scr (v := xs 1) X hX hbl hG hG3 dL_law_971 (inK (by decide +kernel)) rfl ?_
        refine r_V1i X kv_L_117 dL_law_972 (apG (k := 0) hn rfl) rfl (x_middle l G _ _ hn _ _) rfl (fun x h' hΨ => ?_)
        obtain ⟨rfl, L0, rfl, hL0⟩ := hΨ
        refine r_aload_n X dL_law_975 rfl ?_
        refine r_aload_nS X dL_law_976 rfl ?_
        refine r_iload_n X dL_law_977 rfl ?_
        refine r_iconst (v := 1) X dL_law_978 (by decide +kernel) ?_
        refine r_iaddE (v := 1) X dL_law_979 (by decide +kernel) ?_
        refine r_scr (v := xs 1) X hX hbl hG hG3 dL_law_980 (inK (by decide +kernel)) rfl ?_
        refine r_V1i X kv_L_120 dL_law_981 (apG (k := 0) hL0 rfl) rfl (m_middle l G _ _ hL0 _ _) rfl (fun x h' hΨ => ?_)
        obtain rfl := hΨ
        refine r_icmp_eq_t (tgt := 1357) X dL_law_984 rfl (rfl) ?_
        refine r_iinc (v := 6) X dL_law_1357 rfl (by decide +kernel) (by decide) ?_
        refine r_goto (tgt := 18) X dL_law_1360 rfl ?_
        refine r_iload_n X dL_law_18 rfl ?_
        refine r_aload_nS X dL_law_19 rfl ?_
        refine r_scl (v := 6) X hX hbl hG hG3 dL_law_20 (by decide +kernel) ?_
        refine r_bipush (v := 6) X dL_law_21 (by decide +kernel) ?_
        refine r_isubE (v := 0) X dL_law_23 (by decide +kernel) ?_
        refine r_icmp_gt_t (tgt := 1363) X dL_law_24 rfl (by decide +kernel) ?_
        refine r_iconst (v := 1) X dL_law_1363 (by decide +kernel) ?_
        exact r_lret X hr hlk hG dL_law_1364 rfl rfl
      · obtain rfl : sel = 25 := q1e.trans (by decide +kernel)
        refine r_tabIn (off := 956) (tgt := 989) X dL_law_33 (by decide +kernel) (by decide +kernel) (by decide +kernel) rfl ?_
        refine r_aload_n X dL_law_989 rfl ?_
        refine r_aload_nS X dL_law_990 rfl ?_
        refine r_iload_n X dL_law_991 rfl ?_
        refine r_iconst (v := 1) X dL_law_992 (by decide +kernel) ?_
        refine r_iaddE (v := 1) X dL_law_993 (by decide +kernel) ?_
        refine r_scr (v := xs 1) X hX hbl hG hG3 dL_law_994 (inK (by decide +kernel)) rfl ?_
        refine r_V1i X kv_L_121 dL_law_995 (apG (k := 0) hn rfl) rfl (x_candle l G _ _ hn _ _) rfl (fun x h' hΨ => ?_)
        obtain ⟨rfl, L0, rfl, hL0⟩ := hΨ
        refine r_aload_n X dL_law_998 rfl ?_
        refine r_aload_nS X dL_law_999 rfl ?_
        refine r_iload_n X dL_law_1000 rfl ?_
        refine r_iconst (v := 1) X dL_law_1001 (by decide +kernel) ?_
        refine r_iaddE (v := 1) X dL_law_1002 (by decide +kernel) ?_
        refine r_scr (v := xs 1) X hX hbl hG hG3 dL_law_1003 (inK (by decide +kernel)) rfl ?_
        refine r_V1i X kv_L_124 dL_law_1004 (apG (k := 0) hL0 rfl) rfl (m_candle l G _ _ hL0 _ _) rfl (fun x h' hΨ => ?_)
        obtain rfl := hΨ
        refine r_icmp_eq_t (tgt := 1357) X dL_law_1007 rfl (rfl) ?_
        refine r_iinc (v := 6) X dL_law_1357 rfl (by decide +kernel) (by decide) ?_
        refine r_goto (tgt := 18) X dL_law_1360 rfl ?_
        refine r_iload_n X dL_law_18 rfl ?_
        refine r_aload_nS X dL_law_19 rfl ?_
        refine r_scl (v := 6) X hX hbl hG hG3 dL_law_20 (by decide +kernel) ?_
        refine r_bipush (v := 6) X dL_law_21 (by decide +kernel) ?_
        refine r_isubE (v := 0) X dL_law_23 (by decide +kernel) ?_
        refine r_icmp_gt_t (tgt := 1363) X dL_law_24 rfl (by decide +kernel) ?_
        refine r_iconst (v := 1) X dL_law_1363 (by decide +kernel) ?_
        exact r_lret X hr hlk hG dL_law_1364 rfl rfl
      · obtain rfl : sel = 26 := q1e.trans (by decide +kernel)
        refine r_tabIn (off := 979) (tgt := 1012) X dL_law_33 (by decide +kernel) (by decide +kernel) (by decide +kernel) rfl ?_
        refine r_aload_n X dL_law_1012 rfl ?_
        refine r_aload_nS X dL_law_1013 rfl ?_
        refine r_iload_n X dL_law_1014 rfl ?_
        refine r_iconst (v := 1) X dL_law_1015 (by decide +kernel) ?_
        refine r_iaddE (v := 1) X dL_law_1016 (by decide +kernel) ?_
        refine r_scr (v := xs 1) X hX hbl hG hG3 dL_law_1017 (inK (by decide +kernel)) rfl ?_
        refine r_aload_nS X dL_law_1018 rfl ?_
        refine r_iload_n X dL_law_1019 rfl ?_
        refine r_iconst (v := 2) X dL_law_1020 (by decide +kernel) ?_
        refine r_iaddE (v := 2) X dL_law_1021 (by decide +kernel) ?_
        refine r_scr (v := xs 2) X hX hbl hG hG3 dL_law_1022 (inK (by decide +kernel)) rfl ?_
        refine r_V2i X kv_L_125 dL_law_1023 (apG (k := 0) hn rfl) rfl (x_candles l G _ _ hn _ _ _) rfl (fun x h' hΨ => ?_)
        obtain ⟨rfl, L0, rfl, hL0⟩ := hΨ
        refine r_aload_n X dL_law_1026 rfl ?_
        refine r_aload_nS X dL_law_1027 rfl ?_
        refine r_iload_n X dL_law_1028 rfl ?_
        refine r_iconst (v := 1) X dL_law_1029 (by decide +kernel) ?_
        refine r_iaddE (v := 1) X dL_law_1030 (by decide +kernel) ?_
        refine r_scr (v := xs 1) X hX hbl hG hG3 dL_law_1031 (inK (by decide +kernel)) rfl ?_
        refine r_aload_nS X dL_law_1032 rfl ?_
        refine r_iload_n X dL_law_1033 rfl ?_
        refine r_iconst (v := 2) X dL_law_1034 (by decide +kernel) ?_
        refine r_iaddE (v := 2) X dL_law_1035 (by decide +kernel) ?_
        refine r_scr (v := xs 2) X hX hbl hG hG3 dL_law_1036 (inK (by decide +kernel)) rfl ?_
        refine r_V2i X kv_L_128 dL_law_1037 (apG (k := 0) hL0 rfl) rfl (m_candles l G _ _ hL0 _ _ _) rfl (fun x h' hΨ => ?_)
        obtain rfl := hΨ
        refine r_icmp_eq_t (tgt := 1357) X dL_law_1040 rfl (rfl) ?_
        refine r_iinc (v := 6) X dL_law_1357 rfl (by decide +kernel) (by decide) ?_
        refine r_goto (tgt := 18) X dL_law_1360 rfl ?_
        refine r_iload_n X dL_law_18 rfl ?_
        refine r_aload_nS X dL_law_19 rfl ?_
        refine r_scl (v := 6) X hX hbl hG hG3 dL_law_20 (by decide +kernel) ?_
        refine r_bipush (v := 6) X dL_law_21 (by decide +kernel) ?_
        refine r_isubE (v := 0) X dL_law_23 (by decide +kernel) ?_
        refine r_icmp_gt_t (tgt := 1363) X dL_law_24 rfl (by decide +kernel) ?_
        refine r_iconst (v := 1) X dL_law_1363 (by decide +kernel) ?_
        exact r_lret X hr hlk hG dL_law_1364 rfl rfl
      · obtain rfl : sel = 27 := q1e.trans (by decide +kernel)
        refine r_tabIn (off := 1012) (tgt := 1045) X dL_law_33 (by decide +kernel) (by decide +kernel) (by decide +kernel) rfl ?_
        refine r_aload_n X dL_law_1045 rfl ?_
        refine r_aload_nS X dL_law_1046 rfl ?_
        refine r_iload_n X dL_law_1047 rfl ?_
        refine r_iconst (v := 1) X dL_law_1048 (by decide +kernel) ?_
        refine r_iaddE (v := 1) X dL_law_1049 (by decide +kernel) ?_
        refine r_scr (v := xs 1) X hX hbl hG hG3 dL_law_1050 (inK (by decide +kernel)) rfl ?_
        refine r_aload_nS X dL_law_1051 rfl ?_
        refine r_iload_n X dL_law_1052 rfl ?_
        refine r_iconst (v := 2) X dL_law_1053 (by decide +kernel) ?_
        refine r_iaddE (v := 2) X dL_law_1054 (by decide +kernel) ?_
        refine r_scr (v := xs 2) X hX hbl hG hG3 dL_law_1055 (inK (by decide +kernel)) rfl ?_
        refine r_V2i X kv_L_129 dL_law_1056 (apG (k := 0) hn rfl) rfl (x_door l G _ _ hn _ _ _) rfl (fun x h' hΨ => ?_)
        obtain ⟨rfl, L0, rfl, hL0⟩ := hΨ
        refine r_aload_n X dL_law_1059 rfl ?_
        refine r_aload_nS X dL_law_1060 rfl ?_
        refine r_iload_n X dL_law_1061 rfl ?_
        refine r_iconst (v := 1) X dL_law_1062 (by decide +kernel) ?_
        refine r_iaddE (v := 1) X dL_law_1063 (by decide +kernel) ?_
        refine r_scr (v := xs 1) X hX hbl hG hG3 dL_law_1064 (inK (by decide +kernel)) rfl ?_
        refine r_aload_nS X dL_law_1065 rfl ?_
        refine r_iload_n X dL_law_1066 rfl ?_
        refine r_iconst (v := 2) X dL_law_1067 (by decide +kernel) ?_
        refine r_iaddE (v := 2) X dL_law_1068 (by decide +kernel) ?_
        refine r_scr (v := xs 2) X hX hbl hG hG3 dL_law_1069 (inK (by decide +kernel)) rfl ?_
        refine r_V2i X kv_L_132 dL_law_1070 (apG (k := 0) hL0 rfl) rfl (m_door l G _ _ hL0 _ _ _) rfl (fun x h' hΨ => ?_)
        obtain rfl := hΨ
        refine r_icmp_eq_t (tgt := 1357) X dL_law_1073 rfl (rfl) ?_
        refine r_iinc (v := 6) X dL_law_1357 rfl (by decide +kernel) (by decide) ?_
        refine r_goto (tgt := 18) X dL_law_1360 rfl ?_
        refine r_iload_n X dL_law_18 rfl ?_
        refine r_aload_nS X dL_law_19 rfl ?_
        refine r_scl (v := 6) X hX hbl hG hG3 dL_law_20 (by decide +kernel) ?_
        refine r_bipush (v := 6) X dL_law_21 (by decide +kernel) ?_
        refine r_isubE (v := 0) X dL_law_23 (by decide +kernel) ?_
        refine r_icmp_gt_t (tgt := 1363) X dL_law_24 rfl (by decide +kernel) ?_
        refine r_iconst (v := 1) X dL_law_1363 (by decide +kernel) ?_
        exact r_lret X hr hlk hG dL_law_1364 rfl rfl
      · obtain rfl : sel = 28 := q1e.trans (by decide +kernel)
        refine r_tabIn (off := 1045) (tgt := 1078) X dL_law_33 (by decide +kernel) (by decide +kernel) (by decide +kernel) rfl ?_
        refine r_aload_n X dL_law_1078 rfl ?_
        refine r_V0i X kv_L_133 dL_law_1079 (apG (k := 0) hn rfl) rfl (x_stack l G _ _ hn _) rfl (fun x h' hΨ => ?_)
        obtain ⟨rfl, L0, rfl, hL0⟩ := hΨ
        refine r_aload_n X dL_law_1082 rfl ?_
        refine r_V0i X kv_L_137 dL_law_1083 (apG (k := 0) hL0 rfl) rfl (m_stack l G _ _ hL0 _) rfl (fun x h' hΨ => ?_)
        obtain rfl := hΨ
        refine r_icmp_eq_t (tgt := 1357) X dL_law_1086 rfl (rfl) ?_
        refine r_iinc (v := 6) X dL_law_1357 rfl (by decide +kernel) (by decide) ?_
        refine r_goto (tgt := 18) X dL_law_1360 rfl ?_
        refine r_iload_n X dL_law_18 rfl ?_
        refine r_aload_nS X dL_law_19 rfl ?_
        refine r_scl (v := 6) X hX hbl hG hG3 dL_law_20 (by decide +kernel) ?_
        refine r_bipush (v := 6) X dL_law_21 (by decide +kernel) ?_
        refine r_isubE (v := 0) X dL_law_23 (by decide +kernel) ?_
        refine r_icmp_gt_t (tgt := 1363) X dL_law_24 rfl (by decide +kernel) ?_
        refine r_iconst (v := 1) X dL_law_1363 (by decide +kernel) ?_
        exact r_lret X hr hlk hG dL_law_1364 rfl rfl
      · obtain rfl : sel = 29 := q1e.trans (by decide +kernel)
        refine r_tabIn (off := 1058) (tgt := 1091) X dL_law_33 (by decide +kernel) (by decide +kernel) (by decide +kernel) rfl ?_
        refine r_aload_n X dL_law_1091 rfl ?_
        refine r_aload_nS X dL_law_1092 rfl ?_
        refine r_iload_n X dL_law_1093 rfl ?_
        refine r_iconst (v := 1) X dL_law_1094 (by decide +kernel) ?_
        refine r_iaddE (v := 1) X dL_law_1095 (by decide +kernel) ?_
        refine r_scr (v := xs 1) X hX hbl hG hG3 dL_law_1096 (inK (by decide +kernel)) rfl ?_
        refine r_V1i X kv_L_138 dL_law_1097 (apG (k := 0) hn rfl) rfl (x_stands l G _ _ hn _ _) rfl (fun x h' hΨ => ?_)
        obtain ⟨rfl, L0, rfl, hL0⟩ := hΨ
        refine r_aload_n X dL_law_1100 rfl ?_
        refine r_aload_nS X dL_law_1101 rfl ?_
        refine r_iload_n X dL_law_1102 rfl ?_
        refine r_iconst (v := 1) X dL_law_1103 (by decide +kernel) ?_
        refine r_iaddE (v := 1) X dL_law_1104 (by decide +kernel) ?_
        refine r_scr (v := xs 1) X hX hbl hG hG3 dL_law_1105 (inK (by decide +kernel)) rfl ?_
        refine r_V1i X kv_L_141 dL_law_1106 (apG (k := 0) hL0 rfl) rfl (m_stands l G _ _ hL0 _ _) rfl (fun x h' hΨ => ?_)
        obtain rfl := hΨ
        refine r_icmp_eq_t (tgt := 1357) X dL_law_1109 rfl (rfl) ?_
        refine r_iinc (v := 6) X dL_law_1357 rfl (by decide +kernel) (by decide) ?_
        refine r_goto (tgt := 18) X dL_law_1360 rfl ?_
        refine r_iload_n X dL_law_18 rfl ?_
        refine r_aload_nS X dL_law_19 rfl ?_
        refine r_scl (v := 6) X hX hbl hG hG3 dL_law_20 (by decide +kernel) ?_
        refine r_bipush (v := 6) X dL_law_21 (by decide +kernel) ?_
        refine r_isubE (v := 0) X dL_law_23 (by decide +kernel) ?_
        refine r_icmp_gt_t (tgt := 1363) X dL_law_24 rfl (by decide +kernel) ?_
        refine r_iconst (v := 1) X dL_law_1363 (by decide +kernel) ?_
        exact r_lret X hr hlk hG dL_law_1364 rfl rfl
      · obtain rfl : sel = 30 := q1e.trans (by decide +kernel)
        refine r_tabIn (off := 1081) (tgt := 1114) X dL_law_33 (by decide +kernel) (by decide +kernel) (by decide +kernel) rfl ?_
        refine r_aload_n X dL_law_1114 rfl ?_
        refine r_aload_nS X dL_law_1115 rfl ?_
        refine r_iload_n X dL_law_1116 rfl ?_
        refine r_iconst (v := 1) X dL_law_1117 (by decide +kernel) ?_
        refine r_iaddE (v := 1) X dL_law_1118 (by decide +kernel) ?_
        refine r_scr (v := xs 1) X hX hbl hG hG3 dL_law_1119 (inK (by decide +kernel)) rfl ?_
        refine r_aload_nS X dL_law_1120 rfl ?_
        refine r_iload_n X dL_law_1121 rfl ?_
        refine r_iconst (v := 2) X dL_law_1122 (by decide +kernel) ?_
        refine r_iaddE (v := 2) X dL_law_1123 (by decide +kernel) ?_
        refine r_scr (v := xs 2) X hX hbl hG hG3 dL_law_1124 (inK (by decide +kernel)) rfl ?_
        refine r_V2i X kv_L_142 dL_law_1125 (apG (k := 0) hn rfl) rfl (x_lantern l G _ _ hn _ _ _) rfl (fun x h' hΨ => ?_)
        obtain ⟨rfl, L0, rfl, hL0⟩ := hΨ
        refine r_aload_n X dL_law_1128 rfl ?_
        refine r_aload_nS X dL_law_1129 rfl ?_
        refine r_iload_n X dL_law_1130 rfl ?_
        refine r_iconst (v := 1) X dL_law_1131 (by decide +kernel) ?_
        refine r_iaddE (v := 1) X dL_law_1132 (by decide +kernel) ?_
        refine r_scr (v := xs 1) X hX hbl hG hG3 dL_law_1133 (inK (by decide +kernel)) rfl ?_
        refine r_aload_nS X dL_law_1134 rfl ?_
        refine r_iload_n X dL_law_1135 rfl ?_
        refine r_iconst (v := 2) X dL_law_1136 (by decide +kernel) ?_
        refine r_iaddE (v := 2) X dL_law_1137 (by decide +kernel) ?_
        refine r_scr (v := xs 2) X hX hbl hG hG3 dL_law_1138 (inK (by decide +kernel)) rfl ?_
        refine r_V2i X kv_L_145 dL_law_1139 (apG (k := 0) hL0 rfl) rfl (m_lantern l G _ _ hL0 _ _ _) rfl (fun x h' hΨ => ?_)
        obtain rfl := hΨ
        refine r_icmp_eq_t (tgt := 1357) X dL_law_1142 rfl (rfl) ?_
        refine r_iinc (v := 6) X dL_law_1357 rfl (by decide +kernel) (by decide) ?_
        refine r_goto (tgt := 18) X dL_law_1360 rfl ?_
        refine r_iload_n X dL_law_18 rfl ?_
        refine r_aload_nS X dL_law_19 rfl ?_
        refine r_scl (v := 6) X hX hbl hG hG3 dL_law_20 (by decide +kernel) ?_
        refine r_bipush (v := 6) X dL_law_21 (by decide +kernel) ?_
        refine r_isubE (v := 0) X dL_law_23 (by decide +kernel) ?_
        refine r_icmp_gt_t (tgt := 1363) X dL_law_24 rfl (by decide +kernel) ?_
        refine r_iconst (v := 1) X dL_law_1363 (by decide +kernel) ?_
        exact r_lret X hr hlk hG dL_law_1364 rfl rfl
      · obtain rfl : sel = 31 := q1e.trans (by decide +kernel)
        refine r_tabIn (off := 1114) (tgt := 1147) X dL_law_33 (by decide +kernel) (by decide +kernel) (by decide +kernel) rfl ?_
        refine r_aload_n X dL_law_1147 rfl ?_
        refine r_aload_nS X dL_law_1148 rfl ?_
        refine r_iload_n X dL_law_1149 rfl ?_
        refine r_iconst (v := 1) X dL_law_1150 (by decide +kernel) ?_
        refine r_iaddE (v := 1) X dL_law_1151 (by decide +kernel) ?_
        refine r_scr (v := xs 1) X hX hbl hG hG3 dL_law_1152 (inK (by decide +kernel)) rfl ?_
        refine r_aload_nS X dL_law_1153 rfl ?_
        refine r_iload_n X dL_law_1154 rfl ?_
        refine r_iconst (v := 2) X dL_law_1155 (by decide +kernel) ?_
        refine r_iaddE (v := 2) X dL_law_1156 (by decide +kernel) ?_
        refine r_scr (v := xs 2) X hX hbl hG hG3 dL_law_1157 (inK (by decide +kernel)) rfl ?_
        refine r_V2i X kv_L_146 dL_law_1158 (apG (k := 0) hn rfl) rfl (x_bill l G _ _ hn _ _ _) rfl (fun x h' hΨ => ?_)
        obtain ⟨rfl, L0, rfl, hL0⟩ := hΨ
        refine r_aload_n X dL_law_1161 rfl ?_
        refine r_aload_nS X dL_law_1162 rfl ?_
        refine r_iload_n X dL_law_1163 rfl ?_
        refine r_iconst (v := 1) X dL_law_1164 (by decide +kernel) ?_
        refine r_iaddE (v := 1) X dL_law_1165 (by decide +kernel) ?_
        refine r_scr (v := xs 1) X hX hbl hG hG3 dL_law_1166 (inK (by decide +kernel)) rfl ?_
        refine r_aload_nS X dL_law_1167 rfl ?_
        refine r_iload_n X dL_law_1168 rfl ?_
        refine r_iconst (v := 2) X dL_law_1169 (by decide +kernel) ?_
        refine r_iaddE (v := 2) X dL_law_1170 (by decide +kernel) ?_
        refine r_scr (v := xs 2) X hX hbl hG hG3 dL_law_1171 (inK (by decide +kernel)) rfl ?_
        refine r_V2i X kv_L_149 dL_law_1172 (apG (k := 0) hL0 rfl) rfl (m_bill l G _ _ hL0 _ _ _) rfl (fun x h' hΨ => ?_)
        obtain rfl := hΨ
        refine r_icmp_eq_t (tgt := 1357) X dL_law_1175 rfl (rfl) ?_
        refine r_iinc (v := 6) X dL_law_1357 rfl (by decide +kernel) (by decide) ?_
        refine r_goto (tgt := 18) X dL_law_1360 rfl ?_
        refine r_iload_n X dL_law_18 rfl ?_
        refine r_aload_nS X dL_law_19 rfl ?_
        refine r_scl (v := 6) X hX hbl hG hG3 dL_law_20 (by decide +kernel) ?_
        refine r_bipush (v := 6) X dL_law_21 (by decide +kernel) ?_
        refine r_isubE (v := 0) X dL_law_23 (by decide +kernel) ?_
        refine r_icmp_gt_t (tgt := 1363) X dL_law_24 rfl (by decide +kernel) ?_
        refine r_iconst (v := 1) X dL_law_1363 (by decide +kernel) ?_
        exact r_lret X hr hlk hG dL_law_1364 rfl rfl
      · obtain rfl : sel = 32 := q1e.trans (by decide +kernel)
        refine r_tabIn (off := 1147) (tgt := 1180) X dL_law_33 (by decide +kernel) (by decide +kernel) (by decide +kernel) rfl ?_
        refine r_aload_n X dL_law_1180 rfl ?_
        refine r_aload_nS X dL_law_1181 rfl ?_
        refine r_iload_n X dL_law_1182 rfl ?_
        refine r_iconst (v := 1) X dL_law_1183 (by decide +kernel) ?_
        refine r_iaddE (v := 1) X dL_law_1184 (by decide +kernel) ?_
        refine r_scr (v := xs 1) X hX hbl hG hG3 dL_law_1185 (inK (by decide +kernel)) rfl ?_
        refine r_V1i X kv_L_150 dL_law_1186 (apG (k := 0) hn rfl) rfl (x_bills l G _ _ hn _ _) rfl (fun x h' hΨ => ?_)
        obtain ⟨rfl, L0, rfl, hL0⟩ := hΨ
        refine r_aload_n X dL_law_1189 rfl ?_
        refine r_aload_nS X dL_law_1190 rfl ?_
        refine r_iload_n X dL_law_1191 rfl ?_
        refine r_iconst (v := 1) X dL_law_1192 (by decide +kernel) ?_
        refine r_iaddE (v := 1) X dL_law_1193 (by decide +kernel) ?_
        refine r_scr (v := xs 1) X hX hbl hG hG3 dL_law_1194 (inK (by decide +kernel)) rfl ?_
        refine r_V1i X kv_L_153 dL_law_1195 (apG (k := 0) hL0 rfl) rfl (m_bills l G _ _ hL0 _ _) rfl (fun x h' hΨ => ?_)
        obtain rfl := hΨ
        refine r_icmp_eq_t (tgt := 1357) X dL_law_1198 rfl (rfl) ?_
        refine r_iinc (v := 6) X dL_law_1357 rfl (by decide +kernel) (by decide) ?_
        refine r_goto (tgt := 18) X dL_law_1360 rfl ?_
        refine r_iload_n X dL_law_18 rfl ?_
        refine r_aload_nS X dL_law_19 rfl ?_
        refine r_scl (v := 6) X hX hbl hG hG3 dL_law_20 (by decide +kernel) ?_
        refine r_bipush (v := 6) X dL_law_21 (by decide +kernel) ?_
        refine r_isubE (v := 0) X dL_law_23 (by decide +kernel) ?_
        refine r_icmp_gt_t (tgt := 1363) X dL_law_24 rfl (by decide +kernel) ?_
        refine r_iconst (v := 1) X dL_law_1363 (by decide +kernel) ?_
        exact r_lret X hr hlk hG dL_law_1364 rfl rfl
      · obtain rfl : sel = 33 := q1e.trans (by decide +kernel)
        refine r_tabIn (off := 1170) (tgt := 1203) X dL_law_33 (by decide +kernel) (by decide +kernel) (by decide +kernel) rfl ?_
        refine r_aload_n X dL_law_1203 rfl ?_
        refine r_aload_nS X dL_law_1204 rfl ?_
        refine r_iload_n X dL_law_1205 rfl ?_
        refine r_iconst (v := 1) X dL_law_1206 (by decide +kernel) ?_
        refine r_iaddE (v := 1) X dL_law_1207 (by decide +kernel) ?_
        refine r_scr (v := xs 1) X hX hbl hG hG3 dL_law_1208 (inK (by decide +kernel)) rfl ?_
        refine r_aload_nS X dL_law_1209 rfl ?_
        refine r_iload_n X dL_law_1210 rfl ?_
        refine r_iconst (v := 2) X dL_law_1211 (by decide +kernel) ?_
        refine r_iaddE (v := 2) X dL_law_1212 (by decide +kernel) ?_
        refine r_scr (v := xs 2) X hX hbl hG hG3 dL_law_1213 (inK (by decide +kernel)) rfl ?_
        refine r_V2i X kv_L_154 dL_law_1214 (apG (k := 0) hn rfl) rfl (x_before l G _ _ hn _ _ _) rfl (fun x h' hΨ => ?_)
        obtain ⟨rfl, L0, rfl, hL0⟩ := hΨ
        refine r_aload_n X dL_law_1217 rfl ?_
        refine r_aload_nS X dL_law_1218 rfl ?_
        refine r_iload_n X dL_law_1219 rfl ?_
        refine r_iconst (v := 1) X dL_law_1220 (by decide +kernel) ?_
        refine r_iaddE (v := 1) X dL_law_1221 (by decide +kernel) ?_
        refine r_scr (v := xs 1) X hX hbl hG hG3 dL_law_1222 (inK (by decide +kernel)) rfl ?_
        refine r_aload_nS X dL_law_1223 rfl ?_
        refine r_iload_n X dL_law_1224 rfl ?_
        refine r_iconst (v := 2) X dL_law_1225 (by decide +kernel) ?_
        refine r_iaddE (v := 2) X dL_law_1226 (by decide +kernel) ?_
        refine r_scr (v := xs 2) X hX hbl hG hG3 dL_law_1227 (inK (by decide +kernel)) rfl ?_
        refine r_V2i X kv_L_157 dL_law_1228 (apG (k := 0) hL0 rfl) rfl (m_before l G _ _ hL0 _ _ _) rfl (fun x h' hΨ => ?_)
        obtain rfl := hΨ
        refine r_icmp_eq_t (tgt := 1357) X dL_law_1231 rfl (rfl) ?_
        refine r_iinc (v := 6) X dL_law_1357 rfl (by decide +kernel) (by decide) ?_
        refine r_goto (tgt := 18) X dL_law_1360 rfl ?_
        refine r_iload_n X dL_law_18 rfl ?_
        refine r_aload_nS X dL_law_19 rfl ?_
        refine r_scl (v := 6) X hX hbl hG hG3 dL_law_20 (by decide +kernel) ?_
        refine r_bipush (v := 6) X dL_law_21 (by decide +kernel) ?_
        refine r_isubE (v := 0) X dL_law_23 (by decide +kernel) ?_
        refine r_icmp_gt_t (tgt := 1363) X dL_law_24 rfl (by decide +kernel) ?_
        refine r_iconst (v := 1) X dL_law_1363 (by decide +kernel) ?_
        exact r_lret X hr hlk hG dL_law_1364 rfl rfl
      · obtain rfl : sel = 34 := q1e.trans (by decide +kernel)
        refine r_tabIn (off := 1203) (tgt := 1236) X dL_law_33 (by decide +kernel) (by decide +kernel) (by decide +kernel) rfl ?_
        refine r_aload_n X dL_law_1236 rfl ?_
        refine r_V0i X kv_L_158 dL_law_1237 (apG (k := 0) hn rfl) rfl (x_order l G _ _ hn _) rfl (fun x h' hΨ => ?_)
        obtain ⟨rfl, L0, rfl, hL0⟩ := hΨ
        refine r_aload_n X dL_law_1240 rfl ?_
        refine r_V0i X kv_L_161 dL_law_1241 (apG (k := 0) hL0 rfl) rfl (m_order l G _ _ hL0 _) rfl (fun x h' hΨ => ?_)
        obtain rfl := hΨ
        refine r_icmp_eq_t (tgt := 1357) X dL_law_1244 rfl (rfl) ?_
        refine r_iinc (v := 6) X dL_law_1357 rfl (by decide +kernel) (by decide) ?_
        refine r_goto (tgt := 18) X dL_law_1360 rfl ?_
        refine r_iload_n X dL_law_18 rfl ?_
        refine r_aload_nS X dL_law_19 rfl ?_
        refine r_scl (v := 6) X hX hbl hG hG3 dL_law_20 (by decide +kernel) ?_
        refine r_bipush (v := 6) X dL_law_21 (by decide +kernel) ?_
        refine r_isubE (v := 0) X dL_law_23 (by decide +kernel) ?_
        refine r_icmp_gt_t (tgt := 1363) X dL_law_24 rfl (by decide +kernel) ?_
        refine r_iconst (v := 1) X dL_law_1363 (by decide +kernel) ?_
        exact r_lret X hr hlk hG dL_law_1364 rfl rfl
      · obtain rfl : sel = 35 := q1e.trans (by decide +kernel)
        refine r_tabIn (off := 1216) (tgt := 1249) X dL_law_33 (by decide +kernel) (by decide +kernel) (by decide +kernel) rfl ?_
        refine r_aload_n X dL_law_1249 rfl ?_
        refine r_aload_nS X dL_law_1250 rfl ?_
        refine r_iload_n X dL_law_1251 rfl ?_
        refine r_iconst (v := 1) X dL_law_1252 (by decide +kernel) ?_
        refine r_iaddE (v := 1) X dL_law_1253 (by decide +kernel) ?_
        refine r_scr (v := xs 1) X hX hbl hG hG3 dL_law_1254 (inK (by decide +kernel)) rfl ?_
        refine r_aload_nS X dL_law_1255 rfl ?_
        refine r_iload_n X dL_law_1256 rfl ?_
        refine r_iconst (v := 2) X dL_law_1257 (by decide +kernel) ?_
        refine r_iaddE (v := 2) X dL_law_1258 (by decide +kernel) ?_
        refine r_scr (v := xs 2) X hX hbl hG hG3 dL_law_1259 (inK (by decide +kernel)) rfl ?_
        refine r_V2i X kv_L_162 dL_law_1260 (apG (k := 0) hn rfl) rfl (x_game l G _ _ hn _ _ _) rfl (fun x h' hΨ => ?_)
        obtain ⟨rfl, L0, rfl, hL0⟩ := hΨ
        refine r_aload_n X dL_law_1263 rfl ?_
        refine r_aload_nS X dL_law_1264 rfl ?_
        refine r_iload_n X dL_law_1265 rfl ?_
        refine r_iconst (v := 1) X dL_law_1266 (by decide +kernel) ?_
        refine r_iaddE (v := 1) X dL_law_1267 (by decide +kernel) ?_
        refine r_scr (v := xs 1) X hX hbl hG hG3 dL_law_1268 (inK (by decide +kernel)) rfl ?_
        refine r_aload_nS X dL_law_1269 rfl ?_
        refine r_iload_n X dL_law_1270 rfl ?_
        refine r_iconst (v := 2) X dL_law_1271 (by decide +kernel) ?_
        refine r_iaddE (v := 2) X dL_law_1272 (by decide +kernel) ?_
        refine r_scr (v := xs 2) X hX hbl hG hG3 dL_law_1273 (inK (by decide +kernel)) rfl ?_
        refine r_V2i X kv_L_165 dL_law_1274 (apG (k := 0) hL0 rfl) rfl (m_game l G _ _ hL0 _ _ _) rfl (fun x h' hΨ => ?_)
        obtain rfl := hΨ
        refine r_icmp_eq_t (tgt := 1357) X dL_law_1277 rfl (rfl) ?_
        refine r_iinc (v := 6) X dL_law_1357 rfl (by decide +kernel) (by decide) ?_
        refine r_goto (tgt := 18) X dL_law_1360 rfl ?_
        refine r_iload_n X dL_law_18 rfl ?_
        refine r_aload_nS X dL_law_19 rfl ?_
        refine r_scl (v := 6) X hX hbl hG hG3 dL_law_20 (by decide +kernel) ?_
        refine r_bipush (v := 6) X dL_law_21 (by decide +kernel) ?_
        refine r_isubE (v := 0) X dL_law_23 (by decide +kernel) ?_
        refine r_icmp_gt_t (tgt := 1363) X dL_law_24 rfl (by decide +kernel) ?_
        refine r_iconst (v := 1) X dL_law_1363 (by decide +kernel) ?_
        exact r_lret X hr hlk hG dL_law_1364 rfl rfl
      · obtain rfl : sel = 36 := q1e.trans (by decide +kernel)
        refine r_tabIn (off := 1249) (tgt := 1282) X dL_law_33 (by decide +kernel) (by decide +kernel) (by decide +kernel) rfl ?_
        refine r_aload_n X dL_law_1282 rfl ?_
        refine r_V0i X kv_L_166 dL_law_1283 (apG (k := 0) hn rfl) rfl (x_undo l G _ _ hn _) rfl (fun x h' hΨ => ?_)
        obtain ⟨rfl, L0, rfl, hL0⟩ := hΨ
        refine r_aload_n X dL_law_1286 rfl ?_
        refine r_V0i X kv_L_170 dL_law_1287 (apG (k := 0) hL0 rfl) rfl (m_undo l G _ _ hL0 _) rfl (fun x h' hΨ => ?_)
        obtain rfl := hΨ
        refine r_icmp_eq_t (tgt := 1357) X dL_law_1290 rfl (rfl) ?_
        refine r_iinc (v := 6) X dL_law_1357 rfl (by decide +kernel) (by decide) ?_
        refine r_goto (tgt := 18) X dL_law_1360 rfl ?_
        refine r_iload_n X dL_law_18 rfl ?_
        refine r_aload_nS X dL_law_19 rfl ?_
        refine r_scl (v := 6) X hX hbl hG hG3 dL_law_20 (by decide +kernel) ?_
        refine r_bipush (v := 6) X dL_law_21 (by decide +kernel) ?_
        refine r_isubE (v := 0) X dL_law_23 (by decide +kernel) ?_
        refine r_icmp_gt_t (tgt := 1363) X dL_law_24 rfl (by decide +kernel) ?_
        refine r_iconst (v := 1) X dL_law_1363 (by decide +kernel) ?_
        exact r_lret X hr hlk hG dL_law_1364 rfl rfl
      · obtain rfl : sel = 37 := q1e.trans (by decide +kernel)
        refine r_tabIn (off := 1262) (tgt := 1295) X dL_law_33 (by decide +kernel) (by decide +kernel) (by decide +kernel) rfl ?_
        refine r_aload_n X dL_law_1295 rfl ?_
        refine r_aload_nS X dL_law_1296 rfl ?_
        refine r_iload_n X dL_law_1297 rfl ?_
        refine r_iconst (v := 1) X dL_law_1298 (by decide +kernel) ?_
        refine r_iaddE (v := 1) X dL_law_1299 (by decide +kernel) ?_
        refine r_scr (v := xs 1) X hX hbl hG hG3 dL_law_1300 (inK (by decide +kernel)) rfl ?_
        refine r_if_eq (tgt := 1308) X dL_law_1301 rfl (fun q2 => ?_) (fun q2 => ?_)
        · refine r_iconst (v := 0) X dL_law_1308 (by decide +kernel) ?_
          refine r_V1i X kv_L_171 dL_law_1309 (apG (k := 0) hn rfl) rfl (x_image0 l G _ _ hn _) rfl (fun x h' hΨ => ?_)
          obtain ⟨rfl, L0, rfl, hL0⟩ := hΨ
          refine r_aload_n X dL_law_1312 rfl ?_
          refine r_aload_nS X dL_law_1313 rfl ?_
          refine r_iload_n X dL_law_1314 rfl ?_
          refine r_iconst (v := 1) X dL_law_1315 (by decide +kernel) ?_
          refine r_iaddE (v := 1) X dL_law_1316 (by decide +kernel) ?_
          refine r_scr (v := xs 1) X hX hbl hG hG3 dL_law_1317 (inK (by decide +kernel)) rfl ?_
          refine r_if_eq_t (tgt := 1325) X dL_law_1318 rfl (by have e0 : (0 : Int32).toInt = 0 := (by decide); simp only [Int32.lt_iff_toInt_lt, Int32.le_iff_toInt_le, ← Int32.toInt_inj] at q2 ⊢; omega) ?_
          refine r_iconst (v := 0) X dL_law_1325 (by decide +kernel) ?_
          refine r_V1i X kv_L_175 dL_law_1326 (apG (k := 0) hL0 rfl) rfl (m_image0 l G _ _ hL0 _) rfl (fun x h' hΨ => ?_)
          obtain rfl := hΨ
          refine r_icmp_eq_t (tgt := 1357) X dL_law_1329 rfl (rfl) ?_
          refine r_iinc (v := 6) X dL_law_1357 rfl (by decide +kernel) (by decide) ?_
          refine r_goto (tgt := 18) X dL_law_1360 rfl ?_
          refine r_iload_n X dL_law_18 rfl ?_
          refine r_aload_nS X dL_law_19 rfl ?_
          refine r_scl (v := 6) X hX hbl hG hG3 dL_law_20 (by decide +kernel) ?_
          refine r_bipush (v := 6) X dL_law_21 (by decide +kernel) ?_
          refine r_isubE (v := 0) X dL_law_23 (by decide +kernel) ?_
          refine r_icmp_gt_t (tgt := 1363) X dL_law_24 rfl (by decide +kernel) ?_
          refine r_iconst (v := 1) X dL_law_1363 (by decide +kernel) ?_
          exact r_lret X hr hlk hG dL_law_1364 rfl rfl
        · refine r_iconst (v := 1) X dL_law_1304 (by decide +kernel) ?_
          refine r_goto (tgt := 1309) X dL_law_1305 rfl ?_
          refine r_V1i X kv_L_171 dL_law_1309 (apG (k := 0) hn rfl) rfl (x_image1 l G _ _ hn _) rfl (fun x h' hΨ => ?_)
          obtain ⟨rfl, L0, rfl, hL0⟩ := hΨ
          refine r_aload_n X dL_law_1312 rfl ?_
          refine r_aload_nS X dL_law_1313 rfl ?_
          refine r_iload_n X dL_law_1314 rfl ?_
          refine r_iconst (v := 1) X dL_law_1315 (by decide +kernel) ?_
          refine r_iaddE (v := 1) X dL_law_1316 (by decide +kernel) ?_
          refine r_scr (v := xs 1) X hX hbl hG hG3 dL_law_1317 (inK (by decide +kernel)) rfl ?_
          refine r_if_eq_f (tgt := 1325) X dL_law_1318 rfl (by have e0 : (0 : Int32).toInt = 0 := (by decide); simp only [Int32.lt_iff_toInt_lt, Int32.le_iff_toInt_le, ← Int32.toInt_inj] at q2 ⊢; omega) ?_
          refine r_iconst (v := 1) X dL_law_1321 (by decide +kernel) ?_
          refine r_goto (tgt := 1326) X dL_law_1322 rfl ?_
          refine r_V1i X kv_L_175 dL_law_1326 (apG (k := 0) hL0 rfl) rfl (m_image1 l G _ _ hL0 _) rfl (fun x h' hΨ => ?_)
          obtain rfl := hΨ
          refine r_icmp_eq_t (tgt := 1357) X dL_law_1329 rfl (rfl) ?_
          refine r_iinc (v := 6) X dL_law_1357 rfl (by decide +kernel) (by decide) ?_
          refine r_goto (tgt := 18) X dL_law_1360 rfl ?_
          refine r_iload_n X dL_law_18 rfl ?_
          refine r_aload_nS X dL_law_19 rfl ?_
          refine r_scl (v := 6) X hX hbl hG hG3 dL_law_20 (by decide +kernel) ?_
          refine r_bipush (v := 6) X dL_law_21 (by decide +kernel) ?_
          refine r_isubE (v := 0) X dL_law_23 (by decide +kernel) ?_
          refine r_icmp_gt_t (tgt := 1363) X dL_law_24 rfl (by decide +kernel) ?_
          refine r_iconst (v := 1) X dL_law_1363 (by decide +kernel) ?_
          exact r_lret X hr hlk hG dL_law_1364 rfl rfl
      · obtain rfl : sel = 38 := q1e.trans (by decide +kernel)
        refine r_tabIn (off := 1301) (tgt := 1334) X dL_law_33 (by decide +kernel) (by decide +kernel) (by decide +kernel) rfl ?_
        refine r_aload_n X dL_law_1334 rfl ?_
        refine r_aload_nS X dL_law_1335 rfl ?_
        refine r_iload_n X dL_law_1336 rfl ?_
        refine r_iconst (v := 1) X dL_law_1337 (by decide +kernel) ?_
        refine r_iaddE (v := 1) X dL_law_1338 (by decide +kernel) ?_
        refine r_scr (v := xs 1) X hX hbl hG hG3 dL_law_1339 (inK (by decide +kernel)) rfl ?_
        refine r_V1i X kv_L_176 dL_law_1340 (apG (k := 0) hn rfl) rfl (x_look l G _ _ hn _ _) rfl (fun x h' hΨ => ?_)
        obtain ⟨rfl, L0, rfl, hL0⟩ := hΨ
        refine r_aload_n X dL_law_1343 rfl ?_
        refine r_aload_nS X dL_law_1344 rfl ?_
        refine r_iload_n X dL_law_1345 rfl ?_
        refine r_iconst (v := 1) X dL_law_1346 (by decide +kernel) ?_
        refine r_iaddE (v := 1) X dL_law_1347 (by decide +kernel) ?_
        refine r_scr (v := xs 1) X hX hbl hG hG3 dL_law_1348 (inK (by decide +kernel)) rfl ?_
        refine r_V1i X kv_L_179 dL_law_1349 (apG (k := 0) hL0 rfl) rfl (m_look l G _ _ hL0 _ _) rfl (fun x h' hΨ => ?_)
        obtain rfl := hΨ
        refine r_icmp_eq_t (tgt := 1357) X dL_law_1352 rfl (rfl) ?_
        refine r_iinc (v := 6) X dL_law_1357 rfl (by decide +kernel) (by decide) ?_
        refine r_goto (tgt := 18) X dL_law_1360 rfl ?_
        refine r_iload_n X dL_law_18 rfl ?_
        refine r_aload_nS X dL_law_19 rfl ?_
        refine r_scl (v := 6) X hX hbl hG hG3 dL_law_20 (by decide +kernel) ?_
        refine r_bipush (v := 6) X dL_law_21 (by decide +kernel) ?_
        refine r_isubE (v := 0) X dL_law_23 (by decide +kernel) ?_
        refine r_icmp_gt_t (tgt := 1363) X dL_law_24 rfl (by decide +kernel) ?_
        refine r_iconst (v := 1) X dL_law_1363 (by decide +kernel) ?_
        exact r_lret X hr hlk hG dL_law_1364 rfl rfl
