theorem ev_met {A : Type} {rd : A → Nat → Int32} {wr : A → Nat → Int32 → A} {fz : QZ A} (hwr : ∀ a k z, rd (wr a k z) = upd (rd a) k z) (hfz : ∀ x k, fz x k = k x) {l : Launch} {G : PG} {H : PH} {lb : Nat → Nat} {N0 Fu d k : Nat} {As : List PV} {L L' : QH A} {r : Option PV} {h0 : PH} {Φ : Option PV → PH → Prop} (hi : LbI lb N0) (h : ev rd wr fz Fu (d + 1) k As L = some (r, L')) (hR : Rep rd H lb N0 L h0) (hΦ : ∀ h', Rep rd H lb N0 L' h' → Φ (r.map (sv lb)) h') : PMet l G (mY k) (mC k) (mN k) (mR k) (d + 1) 0 0 (As.map (sv lb)) h0 Φ := by
  have h' : (bif Nat.ble As.length (mN k) then run (mK rd wr fz (ev rd wr fz Fu d) k) Fu 0 (As.map some ++ List.replicate (mN k - As.length) none) [] L else none) = some (r, L') := h
  obtain ⟨e1, e2⟩ := bif_some h'
  rcases mOK rd wr fz (ev rd wr fz Fu d) k with hP | ⟨hy, hO, hz, hm⟩
  · rw [hP] at e2
    cases Fu <;> cases e2
  · refine PMet.intro hy (by rw [List.length_map]; exact Nat.le_of_ble_eq_true e1) ?_
    intro p e s m args below meth c X hr hlk hnm
    have key := run_ok (l := l) (e := e) (below := below) (Φ := Φ) hwr hfz hi (ev_ok hwr hfz hi Fu d) hO X hr hlk hΦ Fu 0 _ _ _ (hm ▸ e2) h0 hR
    have key : PW p l e (rmD (d + 1) 0 0) s m args below meth c G (mN k) _ 0 0 h0 (hpc (mP k)) _ _ := key
    rw [hz] at key
    have e3 : sls lb (As.map some ++ List.replicate (mN k - As.length) none) = (As.map (sv lb)).map some ++ List.replicate (mN k - (As.map (sv lb)).length) none := by simp [sls, Function.comp_def]
    rw [e3] at key
    exact key
theorem lbP_inj {pm : List Nat} {N0 n : Nat} (h : ∀ i, i < N0 → ∀ j, j < N0 → (nth pm i).getD 0 = (nth pm j).getD 0 → i = j) : LbI (lbP pm n) N0 := fun i hi j hj e => h i hi j hj (Nat.add_left_cancel e)
theorem rdN0 : rdN 0 = fun _ => 0 := by
  funext k
  unfold rdN
  rw [Nat.zero_shiftRight]
  rfl
theorem se_z {lb : Nat → Nat} {N : Nat} : se rdN lb (eA N 0) = eI N (fun _ => 0) := by
  show (.inl (.inl (0, N, rdN 0)) : PE) = _
  rw [rdN0]
theorem nwz0 : nw 0 0 0 0 0 0 0 = fun _ => 0 := by
  funext j
  rcases j with _ | _ | _ | _ | _ | _ | _ | j <;> rfl
theorem up_map {f : Nat → Option Nat} {k r : Nat} {lb : Nat → Nat} : (fun j => (va_up f k (some r) j).map lb) = va_up (fun j => (f j).map lb) k (some (lb r)) := by
  funext j
  unfold va_up
  split <;> rfl
theorem rep_i {A : Type} {rd : A → Nat → Int32} {H : PH} {lb : Nat → Nat} {N0 : Nat} {L : QH A} (h1 : L.length = N0) (h2 : ∀ k x, L[k]? = some x → H[lb k]? = some (se rd lb x)) : Rep rd H lb N0 L H := ⟨h1, h2, rfl, fun _ _ => rfl⟩
theorem kp_rep {A : Type} {rd : A → Nat → Int32} {h0 C T h' : PH} {n N0 N : Nat} {lb : Nat → Nat} {L : QH A} (hn : h0.length = n) (hC : C.length = N) (hR : Rep rd (h0 ++ (C ++ T)) lb N0 L h') (hl : ∀ k, k < N0 → lb k < n + N) : kp n N T h' := by
  obtain ⟨-, -, h3, h4⟩ := hR
  have hlen : h'.length = n + N + T.length := by rw [h3, List.length_append, List.length_append, hn, hC]; omega
  refine ⟨h'.take (n + N), ?_, by rw [List.length_take]; omega⟩
  have hd : h'.drop (n + N) = T := by
    apply List.ext_getElem?
    intro i
    rw [List.getElem?_drop, h4 _ (fun k hk => by have := hl k hk; omega), ← List.append_assoc, List.getElem?_append_right (by rw [List.length_append, hn, hC]; omega)]
    congr 1
    rw [List.length_append, hn, hC]
    omega
  rw [← hd, List.take_append_drop]
theorem rp_xo {h0 T : PH} {n : Nat} (hn : h0.length = n) : Rep rdN (h0 ++ (frC n ++ T)) (lbP pm_xo n) 7 L_xo (h0 ++ (frC n ++ T)) := by
  refine rep_i rfl ?_
  intro k x hk
  rcases k with _ | _ | _ | _ | _ | _ | _ | k
  · cases hk
    exact (apG (k := 90) hn rfl).trans (congrArg some se_z.symm)
  · cases hk
    exact (apG (k := 91) hn rfl).trans (congrArg some se_z.symm)
  · cases hk
    exact apG (k := 89) hn rfl
  · cases hk
    exact apG (k := 28) hn rfl
  · cases hk
    refine (apG (k := 8) hn rfl).trans (congrArg some ?_)
    show _ = (.inl (.inr (3, 9, fun j => Option.map _ _)) : PE)
    simp only [up_map]
    rfl
  · cases hk
    exact apG (k := 1) hn rfl
  · cases hk
    exact apG (k := 0) hn rfl
  · cases hk
theorem li_xo {n : Nat} : LbI (lbP pm_xo n) 7 := lbP_inj (by decide +kernel)
theorem lt_xo {n : Nat} (k : Nat) (hk : k < 7) : lbP pm_xo n k < n + 103 := by
  have h : ∀ k, k < 7 → (nth pm_xo k).getD 0 < 103 := by decide +kernel
  have := h k hk
  unfold lbP
  omega
theorem rp_xw {h0 T : PH} {n : Nat} (hn : h0.length = n) : Rep rdN (h0 ++ (frC n ++ T)) (lbP pm_xw n) 9 L_xw (h0 ++ (frC n ++ T)) := by
  refine rep_i rfl ?_
  intro k x hk
  rcases k with _ | _ | _ | _ | _ | _ | _ | _ | _ | k
  · cases hk
    exact apG (k := 86) hn rfl
  · cases hk
    exact (apG (k := 87) hn rfl).trans (congrArg some se_z.symm)
  · cases hk
    exact (apG (k := 88) hn rfl).trans (congrArg some se_z.symm)
  · cases hk
    exact apG (k := 2) hn rfl
  · cases hk
    exact (apG (k := 4) hn rfl).trans (congrArg some se_z.symm)
  · cases hk
    exact apG (k := 95) hn rfl
  · cases hk
    exact (apG (k := 98) hn rfl).trans (congrArg some se_z.symm)
  · cases hk
    exact apG (k := 1) hn rfl
  · cases hk
    exact apG (k := 0) hn rfl
  · cases hk
theorem li_xw {n : Nat} : LbI (lbP pm_xw n) 9 := lbP_inj (by decide +kernel)
theorem lt_xw {n : Nat} (k : Nat) (hk : k < 9) : lbP pm_xw n k < n + 103 := by
  have h : ∀ k, k < 9 → (nth pm_xw k).getD 0 < 103 := by decide +kernel
  have := h k hk
  unfold lbP
  omega
theorem rp_mo {h0 : PH} {wf : Nat → Int32} {n : Nat} (hn : h0.length = n) : Rep rdN (h0 ++ frM n wf) (lbP pm_mo n) 3 L_mo (h0 ++ frM n wf) := by
  refine rep_i rfl ?_
  intro k x hk
  rcases k with _ | _ | _ | k
  · cases hk
    exact (apG (k := 39) hn rfl).trans (congrArg some se_z.symm)
  · cases hk
    exact (apG (k := 38) hn rfl).trans (congrArg some se_z.symm)
  · cases hk
    exact apG (k := 0) hn rfl
  · cases hk
theorem li_mo {n : Nat} : LbI (lbP pm_mo n) 3 := lbP_inj (by decide +kernel)
theorem rp_mw {h0 : PH} {wf : Nat → Int32} {n : Nat} (hn : h0.length = n) : Rep rdN (h0 ++ frM n wf) (lbP pm_mw n) 3 L_mw (h0 ++ frM n wf) := by
  refine rep_i rfl ?_
  intro k x hk
  rcases k with _ | _ | _ | k
  · cases hk
    exact (apG (k := 23) hn rfl).trans (congrArg some se_z.symm)
  · cases hk
    refine (apG (k := 1) hn rfl).trans (congrArg some ?_)
    rw [se_z, ← nwz0]
  · cases hk
    exact apG (k := 0) hn rfl
  · cases hk
theorem li_mw {n : Nat} : LbI (lbP pm_mw n) 3 := lbP_inj (by decide +kernel)
theorem x_order (l : Launch) (G : PG) (h0 : PH) (n : Nat) (hn : h0.length = n) (T : PH) : PMet l G yX11_order cX11_order 1 (some .int) 4 0 0 [vR (n + 0)] (h0 ++ (frC n ++ T)) (qI (fun x h' => x = sp_order  ∧ kp n 103 T h')) := by
  obtain ⟨L', e⟩ := ansI_ok rn_xo
  exact ev_met (k := 0) wrN_ok fzN_ok li_xo e (rp_xo hn) (fun h' hR => ⟨_, rfl, rfl, kp_rep (C := frC n) hn rfl hR lt_xo⟩)
theorem m_order (l : Launch) (G : PG) (h0 : PH) (n : Nat) (hn : h0.length = n) (wf : Nat → Int32) : PMet l G yX12_order cX12_order 4 (some .int) 4 0 0 [vR (n + 0)] (h0 ++ (frM n wf)) (qI (fun x h' => x = sp_order )) := by
  obtain ⟨L', e⟩ := ansI_ok rn_mo
  exact ev_met (k := 44) wrN_ok fzN_ok li_mo e (rp_mo hn) (fun h' hR => ⟨_, rfl, rfl⟩)
theorem x_wax0 (l : Launch) (G : PG) (h0 : PH) (n : Nat) (hn : h0.length = n) (T : PH) : PMet l G yX11_wax cX11_wax 2 (some .int) 6 0 0 [vR (n + 0), vI 0] (h0 ++ (frC n ++ T)) (qI (fun x h' => x = sp_wax 0 ∧ kp n 103 T h')) := by
  obtain ⟨L', e⟩ := ansI_ok (x := 0) (Bool.and_eq_true_iff.mp rn_xw01).1
  exact ev_met (k := 4) wrN_ok fzN_ok li_xw e (rp_xw hn) (fun h' hR => ⟨_, rfl, (by decide +kernel : (0 : Int32) = sp_wax 0), kp_rep (C := frC n) hn rfl hR lt_xw⟩)
theorem x_wax1 (l : Launch) (G : PG) (h0 : PH) (n : Nat) (hn : h0.length = n) (T : PH) : PMet l G yX11_wax cX11_wax 2 (some .int) 6 0 0 [vR (n + 0), vI 1] (h0 ++ (frC n ++ T)) (qI (fun x h' => x = sp_wax 1 ∧ kp n 103 T h')) := by
  obtain ⟨L', e⟩ := ansI_ok (x := (-1)) (Bool.and_eq_true_iff.mp rn_xw01).2
  exact ev_met (k := 4) wrN_ok fzN_ok li_xw e (rp_xw hn) (fun h' hR => ⟨_, rfl, (by decide +kernel : ((-1) : Int32) = sp_wax 1), kp_rep (C := frC n) hn rfl hR lt_xw⟩)
theorem x_wax2 (l : Launch) (G : PG) (h0 : PH) (n : Nat) (hn : h0.length = n) (T : PH) : PMet l G yX11_wax cX11_wax 2 (some .int) 6 0 0 [vR (n + 0), vI 2] (h0 ++ (frC n ++ T)) (qI (fun x h' => x = sp_wax 2 ∧ kp n 103 T h')) := by
  obtain ⟨L', e⟩ := ansI_ok (x := 0) (Bool.and_eq_true_iff.mp (Bool.and_eq_true_iff.mp rn_xw234).1).1
  exact ev_met (k := 4) wrN_ok fzN_ok li_xw e (rp_xw hn) (fun h' hR => ⟨_, rfl, (by decide +kernel : (0 : Int32) = sp_wax 2), kp_rep (C := frC n) hn rfl hR lt_xw⟩)
theorem x_wax3 (l : Launch) (G : PG) (h0 : PH) (n : Nat) (hn : h0.length = n) (T : PH) : PMet l G yX11_wax cX11_wax 2 (some .int) 6 0 0 [vR (n + 0), vI 3] (h0 ++ (frC n ++ T)) (qI (fun x h' => x = sp_wax 3 ∧ kp n 103 T h')) := by
  obtain ⟨L', e⟩ := ansI_ok (x := 0) (Bool.and_eq_true_iff.mp (Bool.and_eq_true_iff.mp rn_xw234).1).2
  exact ev_met (k := 4) wrN_ok fzN_ok li_xw e (rp_xw hn) (fun h' hR => ⟨_, rfl, (by decide +kernel : (0 : Int32) = sp_wax 3), kp_rep (C := frC n) hn rfl hR lt_xw⟩)
theorem x_wax4 (l : Launch) (G : PG) (h0 : PH) (n : Nat) (hn : h0.length = n) (T : PH) : PMet l G yX11_wax cX11_wax 2 (some .int) 6 0 0 [vR (n + 0), vI 4] (h0 ++ (frC n ++ T)) (qI (fun x h' => x = sp_wax 4 ∧ kp n 103 T h')) := by
  obtain ⟨L', e⟩ := ansI_ok (x := 0) (Bool.and_eq_true_iff.mp rn_xw234).2
  exact ev_met (k := 4) wrN_ok fzN_ok li_xw e (rp_xw hn) (fun h' hR => ⟨_, rfl, (by decide +kernel : (0 : Int32) = sp_wax 4), kp_rep (C := frC n) hn rfl hR lt_xw⟩)
theorem x_wax5 (l : Launch) (G : PG) (h0 : PH) (n : Nat) (hn : h0.length = n) (T : PH) : PMet l G yX11_wax cX11_wax 2 (some .int) 6 0 0 [vR (n + 0), vI 5] (h0 ++ (frC n ++ T)) (qI (fun x h' => x = sp_wax 5 ∧ kp n 103 T h')) := by
  obtain ⟨L', e⟩ := ansI_ok (x := 1) (Bool.and_eq_true_iff.mp rn_xw56).1
  exact ev_met (k := 4) wrN_ok fzN_ok li_xw e (rp_xw hn) (fun h' hR => ⟨_, rfl, (by decide +kernel : (1 : Int32) = sp_wax 5), kp_rep (C := frC n) hn rfl hR lt_xw⟩)
theorem x_wax6 (l : Launch) (G : PG) (h0 : PH) (n : Nat) (hn : h0.length = n) (T : PH) : PMet l G yX11_wax cX11_wax 2 (some .int) 6 0 0 [vR (n + 0), vI 6] (h0 ++ (frC n ++ T)) (qI (fun x h' => x = sp_wax 6 ∧ kp n 103 T h')) := by
  obtain ⟨L', e⟩ := ansI_ok (x := 0) (Bool.and_eq_true_iff.mp rn_xw56).2
  exact ev_met (k := 4) wrN_ok fzN_ok li_xw e (rp_xw hn) (fun h' hR => ⟨_, rfl, (by decide +kernel : (0 : Int32) = sp_wax 6), kp_rep (C := frC n) hn rfl hR lt_xw⟩)
theorem x_wax7 (l : Launch) (G : PG) (h0 : PH) (n : Nat) (hn : h0.length = n) (T : PH) : PMet l G yX11_wax cX11_wax 2 (some .int) 6 0 0 [vR (n + 0), vI 7] (h0 ++ (frC n ++ T)) (qI (fun x h' => x = sp_wax 7 ∧ kp n 103 T h')) := by
  obtain ⟨L', e⟩ := ansI_ok (x := 12) (Bool.and_eq_true_iff.mp (Bool.and_eq_true_iff.mp rn_xw789).1).1
  exact ev_met (k := 4) wrN_ok fzN_ok li_xw e (rp_xw hn) (fun h' hR => ⟨_, rfl, (by decide +kernel : (12 : Int32) = sp_wax 7), kp_rep (C := frC n) hn rfl hR lt_xw⟩)
theorem x_wax8 (l : Launch) (G : PG) (h0 : PH) (n : Nat) (hn : h0.length = n) (T : PH) : PMet l G yX11_wax cX11_wax 2 (some .int) 6 0 0 [vR (n + 0), vI 8] (h0 ++ (frC n ++ T)) (qI (fun x h' => x = sp_wax 8 ∧ kp n 103 T h')) := by
  obtain ⟨L', e⟩ := ansI_ok (x := 0) (Bool.and_eq_true_iff.mp (Bool.and_eq_true_iff.mp rn_xw789).1).2
  exact ev_met (k := 4) wrN_ok fzN_ok li_xw e (rp_xw hn) (fun h' hR => ⟨_, rfl, (by decide +kernel : (0 : Int32) = sp_wax 8), kp_rep (C := frC n) hn rfl hR lt_xw⟩)
theorem x_wax9 (l : Launch) (G : PG) (h0 : PH) (n : Nat) (hn : h0.length = n) (T : PH) : PMet l G yX11_wax cX11_wax 2 (some .int) 6 0 0 [vR (n + 0), vI 9] (h0 ++ (frC n ++ T)) (qI (fun x h' => x = sp_wax 9 ∧ kp n 103 T h')) := by
  obtain ⟨L', e⟩ := ansI_ok (x := 0) (Bool.and_eq_true_iff.mp rn_xw789).2
  exact ev_met (k := 4) wrN_ok fzN_ok li_xw e (rp_xw hn) (fun h' hR => ⟨_, rfl, (by decide +kernel : (0 : Int32) = sp_wax 9), kp_rep (C := frC n) hn rfl hR lt_xw⟩)
theorem m_wax0 (l : Launch) (G : PG) (h0 : PH) (n : Nat) (hn : h0.length = n) (wf : Nat → Int32) : PMet l G yX12_wax cX12_wax 2 (some .int) 6 0 0 [vR (n + 0), vI 0] (h0 ++ (frM n wf)) (qI (fun x h' => x = sp_wax 0)) := by
  obtain ⟨L', e⟩ := ansI_ok (x := 0) (Bool.and_eq_true_iff.mp rn_mw01).1
  exact ev_met (k := 46) wrN_ok fzN_ok li_mw e (rp_mw hn) (fun h' hR => ⟨_, rfl, (by decide +kernel : (0 : Int32) = sp_wax 0)⟩)
theorem m_wax1 (l : Launch) (G : PG) (h0 : PH) (n : Nat) (hn : h0.length = n) (wf : Nat → Int32) : PMet l G yX12_wax cX12_wax 2 (some .int) 6 0 0 [vR (n + 0), vI 1] (h0 ++ (frM n wf)) (qI (fun x h' => x = sp_wax 1)) := by
  obtain ⟨L', e⟩ := ansI_ok (x := (-1)) (Bool.and_eq_true_iff.mp rn_mw01).2
  exact ev_met (k := 46) wrN_ok fzN_ok li_mw e (rp_mw hn) (fun h' hR => ⟨_, rfl, (by decide +kernel : ((-1) : Int32) = sp_wax 1)⟩)
theorem m_wax2 (l : Launch) (G : PG) (h0 : PH) (n : Nat) (hn : h0.length = n) (wf : Nat → Int32) : PMet l G yX12_wax cX12_wax 2 (some .int) 6 0 0 [vR (n + 0), vI 2] (h0 ++ (frM n wf)) (qI (fun x h' => x = sp_wax 2)) := by
  obtain ⟨L', e⟩ := ansI_ok (x := 0) (Bool.and_eq_true_iff.mp (Bool.and_eq_true_iff.mp rn_mw234).1).1
  exact ev_met (k := 46) wrN_ok fzN_ok li_mw e (rp_mw hn) (fun h' hR => ⟨_, rfl, (by decide +kernel : (0 : Int32) = sp_wax 2)⟩)
theorem m_wax3 (l : Launch) (G : PG) (h0 : PH) (n : Nat) (hn : h0.length = n) (wf : Nat → Int32) : PMet l G yX12_wax cX12_wax 2 (some .int) 6 0 0 [vR (n + 0), vI 3] (h0 ++ (frM n wf)) (qI (fun x h' => x = sp_wax 3)) := by
  obtain ⟨L', e⟩ := ansI_ok (x := 0) (Bool.and_eq_true_iff.mp (Bool.and_eq_true_iff.mp rn_mw234).1).2
  exact ev_met (k := 46) wrN_ok fzN_ok li_mw e (rp_mw hn) (fun h' hR => ⟨_, rfl, (by decide +kernel : (0 : Int32) = sp_wax 3)⟩)
theorem m_wax4 (l : Launch) (G : PG) (h0 : PH) (n : Nat) (hn : h0.length = n) (wf : Nat → Int32) : PMet l G yX12_wax cX12_wax 2 (some .int) 6 0 0 [vR (n + 0), vI 4] (h0 ++ (frM n wf)) (qI (fun x h' => x = sp_wax 4)) := by
  obtain ⟨L', e⟩ := ansI_ok (x := 0) (Bool.and_eq_true_iff.mp rn_mw234).2
  exact ev_met (k := 46) wrN_ok fzN_ok li_mw e (rp_mw hn) (fun h' hR => ⟨_, rfl, (by decide +kernel : (0 : Int32) = sp_wax 4)⟩)
theorem m_wax5 (l : Launch) (G : PG) (h0 : PH) (n : Nat) (hn : h0.length = n) (wf : Nat → Int32) : PMet l G yX12_wax cX12_wax 2 (some .int) 6 0 0 [vR (n + 0), vI 5] (h0 ++ (frM n wf)) (qI (fun x h' => x = sp_wax 5)) := by
  obtain ⟨L', e⟩ := ansI_ok (x := 1) (Bool.and_eq_true_iff.mp rn_mw56).1
  exact ev_met (k := 46) wrN_ok fzN_ok li_mw e (rp_mw hn) (fun h' hR => ⟨_, rfl, (by decide +kernel : (1 : Int32) = sp_wax 5)⟩)
theorem m_wax6 (l : Launch) (G : PG) (h0 : PH) (n : Nat) (hn : h0.length = n) (wf : Nat → Int32) : PMet l G yX12_wax cX12_wax 2 (some .int) 6 0 0 [vR (n + 0), vI 6] (h0 ++ (frM n wf)) (qI (fun x h' => x = sp_wax 6)) := by
  obtain ⟨L', e⟩ := ansI_ok (x := 0) (Bool.and_eq_true_iff.mp rn_mw56).2
  exact ev_met (k := 46) wrN_ok fzN_ok li_mw e (rp_mw hn) (fun h' hR => ⟨_, rfl, (by decide +kernel : (0 : Int32) = sp_wax 6)⟩)
theorem m_wax7 (l : Launch) (G : PG) (h0 : PH) (n : Nat) (hn : h0.length = n) (wf : Nat → Int32) : PMet l G yX12_wax cX12_wax 2 (some .int) 6 0 0 [vR (n + 0), vI 7] (h0 ++ (frM n wf)) (qI (fun x h' => x = sp_wax 7)) := by
  obtain ⟨L', e⟩ := ansI_ok (x := 12) (Bool.and_eq_true_iff.mp (Bool.and_eq_true_iff.mp rn_mw789).1).1
  exact ev_met (k := 46) wrN_ok fzN_ok li_mw e (rp_mw hn) (fun h' hR => ⟨_, rfl, (by decide +kernel : (12 : Int32) = sp_wax 7)⟩)
theorem m_wax8 (l : Launch) (G : PG) (h0 : PH) (n : Nat) (hn : h0.length = n) (wf : Nat → Int32) : PMet l G yX12_wax cX12_wax 2 (some .int) 6 0 0 [vR (n + 0), vI 8] (h0 ++ (frM n wf)) (qI (fun x h' => x = sp_wax 8)) := by
  obtain ⟨L', e⟩ := ansI_ok (x := 0) (Bool.and_eq_true_iff.mp (Bool.and_eq_true_iff.mp rn_mw789).1).2
  exact ev_met (k := 46) wrN_ok fzN_ok li_mw e (rp_mw hn) (fun h' hR => ⟨_, rfl, (by decide +kernel : (0 : Int32) = sp_wax 8)⟩)
theorem m_wax9 (l : Launch) (G : PG) (h0 : PH) (n : Nat) (hn : h0.length = n) (wf : Nat → Int32) : PMet l G yX12_wax cX12_wax 2 (some .int) 6 0 0 [vR (n + 0), vI 9] (h0 ++ (frM n wf)) (qI (fun x h' => x = sp_wax 9)) := by
  obtain ⟨L', e⟩ := ansI_ok (x := 0) (Bool.and_eq_true_iff.mp rn_mw789).2
  exact ev_met (k := 46) wrN_ok fzN_ok li_mw e (rp_mw hn) (fun h' hR => ⟨_, rfl, (by decide +kernel : (0 : Int32) = sp_wax 9)⟩)
