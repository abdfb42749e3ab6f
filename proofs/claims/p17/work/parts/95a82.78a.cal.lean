/-! calls beside the core: game, and wax whose rows for work are the course's -/
/-- what a call of the class leaves of the core, if it names none of its cells -/
theorem pcw_fc {lam : Nat → Nat} {b nc nm : Nat} {h h' : PH} {E : List (Nat × Nat)} (hB : LIB lam b nc nm h) (hP : PCW b nc nm h) (ho : offC E = true) (w3 : FRG lam E h h') : PCW b nc nm h' := by
  obtain ⟨hb, hl, h103, hTB, hM, hX, hx, hd⟩ := hB
  obtain ⟨lb, W, z, f, zr, r, ⟨hL, hRw, hQ⟩, hC, hT, hK, hZ⟩ := hP
  have c1 : ∀ a, a ∈ TCW → h'[nc + a]? = h[nc + a]? := fun a ha => by
    have hlt : nc + a < h.length := by
      by_cases q : a < 103
      · obtain ⟨x, hx2, -⟩ := hTB a _ ((nth_eq _ _).trans (List.getElem?_eq_getElem (by rw [TBc_len]; omega)))
        have := (List.getElem?_eq_some_iff.mp hx2).1
        rw [h103 a q] at this
        exact this
      · exact absurd (TCW_w a ha).2 q
    refine w3.cell hlt (fun e hm q => ?_)
    rw [← h103 a (TCW_w a ha).2] at q
    have := hl a (TCW_w a ha).1 e.1 q.symm
    rw [this] at ha
    exact (offC_ok ho hm).2 ha
  have c2 : ∀ a, a < h.length → OUT nc nm a → h'[a]? = h[a]? := fun a ha hO => w3.cell ha (fun e hm q => by
    have q2 := (offC_ok ho hm).1
    rw [h103 e.1 (wrC_lt q2)] at q
    exact hO.1 e.1 q2 q.symm)
  have c3 : ∀ j, j < 43 → h'[nm + j]? = h[nm + j]? := fun j hj => by
    have hlt : nm + j < h.length := by
      obtain ⟨x, hx2, -⟩ := hM j _ ((nth_eq _ _).trans (List.getElem?_eq_getElem (by rw [TRf_len]; exact hj)))
      exact (List.getElem?_eq_some_iff.mp hx2).1
    exact w3.cell hlt (fun e _ => hd e.1 j hj)
  have c4 : ∀ k, k < 42 + (wL W).length → h'[lb k]? = h[lb k]? := fun k hk => by
    by_cases c : k < 42
    · rw [hL.2.1 k c]
      exact c1 _ (tcW_in k c)
    · refine c2 _ ?_ (hL.2.2.2 k (by omega) hk)
      obtain ⟨y, hy⟩ : ∃ y, (LW W z f)[k]? = some y := ⟨_, List.getElem?_eq_getElem (by rw [hRw.1]; exact hk)⟩
      exact (List.getElem?_eq_some_iff.mp (hRw.2.1 k y hy)).1
  exact ⟨lb, W, z, f, zr, r, ⟨hL, hRw.same c4, hQ.same (fun k hk => c3 k hk)⟩, hC, hT.tr rfl rfl rfl rfl (fun k hk => c1 _ (tp_in k hk)), hK.tr (fun q hq => c1 _ (im_in q hq)) (fun _ _ => rfl), hZ⟩
theorem pcw_game_c (l : Launch) (G : PG) {nc nm : Nat} {h : PH} (hI : LIY PCW nc nm h) (x y : Int32) : CQY PCW l G nc nm h (mY 34) (mC 34) (mN 34) (mR 34) 22 [vR nc, vI x, vI y] := by
  obtain ⟨lam, b, hB, hP⟩ := hI
  have hB' := hB
  obtain ⟨hb, hl, h103, hC, hM, hX, hx, hd⟩ := hB
  obtain ⟨Φ0, p, hQ⟩ := game_c l G hl hC x y
  rw [h103 0 (by decide)] at p
  refine ⟨Φ0, p, fun r h' hr => ?_⟩
  obtain ⟨q1, q2, q3⟩ := hQ r h' hr
  have hF := FRG.of (fun q hq => hq) q3
  obtain ⟨o1, o2, o3⟩ := oth_c hF hd hM hX hx
  exact ⟨q1, lam, b, ⟨hb, hl, h103, q2, o1, o2, o3, hd⟩, pcw_fc (E := [(92, 2), (92, 3), (93, 999), (94, 999)]) hB' hP (by decide +kernel) hF⟩
theorem pcw_game_r (l : Launch) (G : PG) {nc nm : Nat} {h : PH} (hI : LIY PCW nc nm h) (x y : Int32) : CQY PCW l G nc nm h (mY 69) (mC 69) (mN 69) (mR 69) 5 [vR nm, vI x, vI y] := by
  obtain ⟨lam, b, hI, lb, W, z, f, zr, r, ⟨hL, hRw, hr⟩, hC, hT, hK, hZ⟩ := hI
  obtain ⟨rv, z', f', hc, g1, g2⟩ := game_r 0 x y zr r
  have hz := BNDz_of hI.2.2.2.2.1 hr
  have hB := BNDf_of hI.2.2.2.2.1 hr
  have hE := EXF_of hI.2.2.2.2.2.1 hr
  have h103 := hI.2.2.1
  have hd := hI.2.2.2.2.2.2.2
  refine ⟨_, pm_of (lamM_i nm) hc hr, ?_⟩
  rintro r1 h1' ⟨rfl, hR1⟩
  have s : ∀ a, (∀ j, j < 43 → a ≠ nm + j) → h1'[a]? = h[a]? := fun a ha => hR1.2.2.2 a ha
  have ez : ∀ j, j ≠ 0 → j ≠ 70 → j ≠ 71 → z' j = zr j := fun j j0 j1 j2 => by
    rw [g1 j j1 j2]
    exact if_neg j0
  have b1 : BNDz z' := by
    intro e he
    have key : ∀ e, e ∈ FBl → e.1 ≠ 0 ∧ e.1 ≠ 70 ∧ e.1 ≠ 71 := by decide
    obtain ⟨k0, k1, k2⟩ := key e he
    rw [ez e.1 k0 k1 k2]
    exact hz e he
  have b2 : BNDf f' := by
    intro k k1 k2
    by_cases c0 : k = 40
    · subst c0
      exact ⟨⟨fun j _ => inb_top _, trivial⟩, PRD_0⟩
    by_cases c1 : k = 41
    · subst c1
      exact ⟨⟨fun j _ => inb_top _, trivial⟩, PRD_0⟩
    rw [g2 k c0 c1]
    exact hB k k1 k2
  have b3 : EXF f' := by
    refine hE.tr (fun k hk => g2 k ?_ ?_)
    · rintro rfl
      revert hk
      decide
    · rintro rfl
      revert hk
      decide
  have zk : ∀ j, j ∈ [3, 5, 6, 12, 32, 33, 34, 36] → z' j = zr j := fun j hj => by
    have key : ∀ j, j ∈ [3, 5, 6, 12, 32, 33, 34, 36] → j ≠ 0 ∧ j ≠ 70 ∧ j ≠ 71 := by decide
    exact ez j (key j hj).1 (key j hj).2.1 (key j hj).2.2
  exact ⟨⟨rv, rfl⟩, lam, b, lib_of_r hI hr hR1 b1 b2 b3 (ez 73 (by decide) (by decide) (by decide)), lb, W, z, f, z', f', ⟨hL, hRw.same (fun k hk => s _ (fun j hj e => hL.nm h103 hd k hk j hj e.symm)), hR1.same (fun _ _ => rfl)⟩, hC.same (fun j hj => zk j ((show ∀ j, j ∈ [3, 5, 6, 34, 36] → j ∈ [3, 5, 6, 12, 32, 33, 34, 36] by decide) j hj)) (fun k hk => g2 k ((show ∀ k, k ∈ [1, 2, 4, 5, 6, 7, 9, 10, 11, 12, 13, 14, 15, 16, 18, 19, 20] → k ≠ 40 by decide) k hk) ((show ∀ k, k ∈ [1, 2, 4, 5, 6, 7, 9, 10, 11, 12, 13, 14, 15, 16, 18, 19, 20] → k ≠ 41 by decide) k hk)), hT.tr (zk 12 (by decide)) (zk 32 (by decide)) (zk 33 (by decide)) (g2 8 (by decide) (by decide)) (fun k hk => s _ (fun j hj => tp_nm h103 hd k hk j hj)), hK.tr (fun q hq => s _ (fun j hj => im_nm h103 hd q hq j hj)) (fun p _ => by rw [g2 42 (by decide) (by decide)]), hZ.le (ez 38 (by decide) (by decide) (by decide)) (by rw [zk 6 (by decide)]; exact Int.le_refl _)⟩
