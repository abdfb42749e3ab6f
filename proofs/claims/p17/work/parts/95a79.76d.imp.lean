/-! a pair of images -/
theorem row_ext {W : TXW} {lb : Nat → Nat} {wo : Nat → Option Nat} (hL : WTL W) (hw : ∀ j, 4 ≤ j → wo j = none) : (fun j => if j < 4 then (wX W j).map lb else wo j) = fun j => (wX W j).map lb := by
  funext j
  by_cases c : j < 4
  · rw [if_pos c]
  · rw [if_neg c, hw j (by omega), hL.1 j (by omega)]
    rfl
/-- a list of cells of the class, none of them here -/
theorem lb_off {lb lam : Nat → Nat} {nc nm n : Nat} (hL : LBW lb nc nm n) (el : ∀ k, k < 103 → lam k = nc + k) {C : Nat → Prop} (hw : ∀ k, C k → wrC k = true) {i : Nat} (hi : i < 42 + n) (hn : i < 42 → ∀ k, C k → tcW i ≠ k) : ∀ k, C k → lb i ≠ lam k := fun k hk e => by
  rw [el k (wrC_lt (hw k hk))] at e
  by_cases c : i < 42
  · rw [hL.2.1 i c] at e
    exact hn c k hk (by omega)
  · exact (hL.2.2.2 i (by omega) hi).1 k (hw k hk) e
theorem nc_off {lam : Nat → Nat} {nc : Nat} (el : ∀ k, k < 103 → lam k = nc + k) {C : Nat → Prop} (hw : ∀ k, C k → wrC k = true) {q : Nat} (hq : ¬ C q) : ∀ k, C k → nc + q ≠ lam k := fun k hk e => by
  rw [el k (wrC_lt (hw k hk))] at e
  have e2 : q = k := by omega
  rw [e2] at hq
  exact hq hk
theorem EXR_s {nm : Nat} {h h' : PH} (hX : EXR (lamM nm) h) (hs : ∀ j, j < 43 → h'[nm + j]? = h[nm + j]?) : EXR (lamM nm) h' := by
  obtain ⟨g, a1, a2⟩ := hX
  exact ⟨g, fun q hq => (hs q (XR_lt q hq)).trans (a1 q hq), a2⟩
theorem HOM_s {nm : Nat} {h h' : PH} (hM : HOK (lamM nm) [] TRf h) (hs : ∀ j, j < 43 → h'[nm + j]? = h[nm + j]?) : HOK (lamM nm) [] TRf h' := hM.same (fun k hk => hs k (by rw [TRf_len] at hk; exact hk))
set_option maxHeartbeats 4000000 in
theorem image_back (l : Launch) (G : PG) {lam lb : Nat → Nat} {nc nm : Nat} {h : PH} {W : TXW} {z zr : Nat → Int32} {f r : Nat → FA} (hB : LIB lam 1 nc nm h) (hW : WLD lb W z f zr r nc nm h) (hC : CRE W z f zr r) (hT : TPE nc zr r h) (hK : IMA 1 lb W nc (r 42) h) (hZ : TWZ W zr) : PRY PCW l G nc nm h 165 4 219 3 [vI 0] := by
  obtain ⟨hb, hl, h103, hTB, hM, hX, hfl, hd⟩ := hB
  obtain ⟨hL, hRw, hQ⟩ := hW
  have e73 : zr 73 = nI 1 := FLD.inj (F73_R hQ) hfl
  have e8 : ∀ k, k < 8 → lam k = lb k := fun k hk => (h103 k (by omega)).trans ((hL.2.1 k (by omega)).trans (by rw [show tcW k = k from if_pos hk])).symm
  have s7 : h[lam 7]? = some (eR 2 4 (fun j => (wX W j).map lb)) := by
    rw [e8 7 (by decide)]
    exact hRw.2.1 7 _ rfl
  obtain ⟨⟨wo, d1, d2⟩, hK1⟩ := hK
  obtain ⟨Wi, zi, fi, zri, ri, i1, ⟨i2, i3, i4, i5, i6⟩, i7, L, n, nv, nw, ns, nt, j1, j2, j3, j4, j5, j6, j7⟩ := hK1 rfl
  have t0 : h[lam 31]? = some (cnE (lam 32) (lam 33) (fun i => zi (20 + i))) := by rw [h103 31 (by decide), h103 32 (by decide), h103 33 (by decide)]; exact i2
  have t1 : h[lam 32]? = some (eI 120 (fi 3)) := by rw [h103 32 (by decide)]; exact i3
  have t2 : h[lam 33]? = some (eI 144 (fi 4)) := by rw [h103 33 (by decide)]; exact i4
  have t5 : h[lam 35]? = some (eI 750 (fi 6)) := by rw [h103 35 (by decide)]; exact i5
  have t6 : h[lam 36]? = some (eR 2 4 (fun j => (wX Wi j).map lb)) := by rw [h103 36 (by decide)]; exact i6
  refine ⟨_, im0_X l G hl hTB (h103 0 (by decide)).symm t0 t1 t2 t5 t6 s7, ?_⟩
  rintro rr h' ⟨rfl, h1, f0, hTK, hZ, e'⟩
  have hI0 := HOK_I0 hl hTB hTK hZ t6
  have frI := @TKA.frI0 lam (fun i => zi (20 + i)) (fi 3) (fi 4) (fi 6) (fun j => (wX Wi j).map lb) (fun j => (wX W j).map lb) h h1 (eO 7 (f0.set 2 (vI 0))) hTK
  have up : ∀ k, k ≠ 59 → ∀ y, h1[lam k]? = some y → (h1.set (lam 59) (eO 7 (f0.set 2 (vI 0))))[lam k]? = some y := fun k hk y hy => by
    rw [List.getElem?_set_ne (fun q => hk (hl 59 rfl k q).symm)]
    exact hy
  have h59 : h'[lam 59]? = some (eO 7 (f0.set 2 (vI 0))) := by
    rw [e']
    obtain ⟨y, hy, -⟩ := hI0 59 _ rfl
    have q9 := (List.getElem?_eq_some_iff.mp hy).1
    rw [List.length_set] at q9
    exact List.getElem?_set_self q9
  rw [← e'] at hI0 frI up
  clear e'
  have hC' : HOK (fun k => lam (imgQ k)) [] (TBc 1) h' := HOK_ren (n := 127) (TBc_len 1) rn_2 hI0
  have frq : ∀ q, ¬ CI0 q → h'[nc + q]? = h[nc + q]? := fun q hq => frI (nc_off h103 (fun k hk => CI0_w hk) hq)
  have frl : ∀ i, i ∉ [2, 3, 4, 6, 7, 12] → i < 42 + (wL W).length → h'[lb i]? = h[lb i]? := fun i hi hi2 => frI (lb_off hL h103 (fun k hk => CI0_w hk) hi2 (fun c k hk e => by
    have key : ∀ i, i < 42 → i ∉ [2, 3, 4, 6, 7, 12] → tcW i ≠ 59 ∧ tcW i ≠ 2 ∧ tcW i ≠ 3 ∧ tcW i ≠ 4 ∧ tcW i ≠ 6 ∧ tcW i ≠ 7 ∧ (tcW i < 12 ∨ 30 ≤ tcW i) := by decide
    have := key i c hi
    have := CI0_r hk
    omega))
  have frm : ∀ j, j < 43 → h'[nm + j]? = h[nm + j]? := fun j hj => frI (fun k _ e => hd k j hj e.symm)
  obtain ⟨-, k0, ⟨u1, k1, m1⟩, ⟨u2, k2, m2⟩, ⟨uN, kN, mN⟩, kT, -⟩ := hTK
  have e59 : lam 59 = lb 12 := (h103 59 (by decide)).trans (hL.2.1 12 (by decide)).symm
  have c12 : h'[lb 12]? = some (eO 7 [vR (lb 13), vI (z 122), vI 0]) := by
    have q : h[lb 12]? = some (eO 7 [vR (lb 13), vI (z 122), vI (z 123)]) := hRw.2.1 12 _ rfl
    rw [← e59] at q ⊢
    have e0 := hZ.symm.trans q
    injection e0 with e0
    injection e0 with e0
    have e0 := (Prod.mk.inj e0).2
    subst e0
    exact h59
  have ew : ∀ j, 4 ≤ j → (wX W j).map lb = none := fun j hj => by
    obtain ⟨L0, n0, nv0, nw0, ns0, nt0, c0, q1, q2, -⟩ := hC
    rw [q2.1 j hj]
    rfl
  have c2 : h'[lb 2]? = some (cnE (lb 3) (lb 4) (fun i => zi (20 + i))) := by
    rw [← e8 2 (by decide), ← e8 3 (by decide), ← e8 4 (by decide)]
    exact up 2 (by decide) _ k0
  have c3 : h'[lb 3]? = some (eI 120 u1) := by
    rw [← e8 3 (by decide)]
    exact up 3 (by decide) _ k1
  have c4 : h'[lb 4]? = some (eI 144 u2) := by
    rw [← e8 4 (by decide)]
    exact up 4 (by decide) _ k2
  have c6 : h'[lb 6]? = some (eI 750 uN) := by
    rw [← e8 6 (by decide)]
    exact up 6 (by decide) _ kN
  have c7 : h'[lb 7]? = some (eR 2 4 (fun j => (wX Wi j).map lb)) := by
    rw [← e8 7 (by decide), ← row_ext (lb := lb) j2 ew]
    exact up 7 (by decide) _ kT
  have hRn := back_rep hRw i1 c2 c3 c4 c6 c7 c12 frl
  obtain ⟨L0, n0, nv0, nw0, ns0, nt0, c0, q1, q2, -, -, q5, q6, -, q8⟩ := hC
  obtain ⟨zr', r', g1, g2, g3, g4, g5, g6, g7, g8⟩ := rImg0 0 (zr := zr) (r := r) (by rw [e73]; decide) i7
  have hq : ∀ q, q ∈ [5, 6, 34, 36] → zr' q = zri q := fun q hq => by
    rcases (show q = 5 ∨ q ∈ [6, 34, 36] by simpa using hq) with rfl | hq2
    · exact (g3 5 (by decide)).trans (q5.1.2.2.trans j5.1.2.2.symm)
    · exact g4 q ((show ∀ q, q ∈ [6, 34, 36] → q ∈ [6, 34, 36, 38] by decide) q hq2)
  have hWR : WR Wi L n nv nw ns (zB z zi) (fB f u1 u2 uN) zr' r' := j5.cg (fun i a1 a2 => by
    show (bif Nat.ble 22 i && Nat.ble i 29 then zi i else _) = _
    rw [show (Nat.ble 22 i && Nat.ble i 29) = true by rw [Bool.and_eq_true, Nat.ble_eq, Nat.ble_eq]; omega]
    rfl) m1 m2 mN hq g5
  have hKi : IMA 1 lb Wi nc (r 42) h := ⟨⟨wo, d1, d2⟩, fun _ => ⟨Wi, zi, fi, zri, ri, rfl, ⟨i2, i3, i4, i5, i6⟩, i7, L, n, nv, nw, ns, nt, j1, j2, j3, j4, j5, j6, j7⟩⟩
  have hCn : CRE Wi (zB z zi) (fB f u1 u2 uN) zr' r' := ⟨L, n, nv, nw, ns, nt, 0, j1, j2, j3, j4, hWR, q6.forget (z' := zB z zi) rfl rfl g2, j6.tff (g5 (20, 20) (by decide)), by rw [g7]; exact q8⟩
  have hKn : IMA 1 lb Wi nc (r' 42) h' := hKi.tr (fun q hq => frq q (fun w => by
    have := (show ∀ q, q ∈ imL → 31 ≤ q ∧ q < 37 by decide) q hq
    have := CI0_r w
    omega)) (fun p _ => by rw [g8])
  have hLi : LBW lb nc nm (wL Wi).length := by
    rw [i1]
    exact hL
  exact ⟨1, rfl, md_of (HOM_s hM frm), ref_image l G (b' := 1) (Or.inr rfl) (LAMC_s imgQ_1 imgQ_2 hl) (fun k hk => by rw [imgQ_1 k hk]; exact h103 k hk) hC' (HOM_s hM frm) (EXR_s hX frm) (fun k j hj => hd (imgQ k) j hj) ⟨hLi, hRn, hQ.same (fun k hk => frm k hk)⟩ (Or.inl rfl) (hT.tr rfl rfl rfl rfl (fun k hk => frq _ (fun q => by have := CI0_r q; omega))) g1 (g3 12 (by decide)) (g3 32 (by decide)) (g3 33 (by decide)) g6 hCn hKn (j7.le (g4 38 (by decide)) (by rw [g4 6 (by decide)]; exact Int.le_refl _))⟩
set_option maxHeartbeats 4000000 in
theorem image_take (l : Launch) (G : PG) {lam lb : Nat → Nat} {b nc nm : Nat} {h : PH} {W : TXW} {z zr : Nat → Int32} {f r : Nat → FA} (hB : LIB lam b nc nm h) (hW : WLD lb W z f zr r nc nm h) (hC : CRE W z f zr r) (hT : TPE nc zr r h) (hK : IMA b lb W nc (r 42) h) (hZ : TWZ W zr) : PRY PCW l G nc nm h 165 4 219 3 [vI 1] := by
  obtain ⟨hb, hl, h103, hTB, hM, hX, hfl, hd⟩ := hB
  obtain ⟨hL, hRw, hQ⟩ := hW
  have hb1 : b ≤ 1 := by omega
  have hH : HOK lam [] TCl h := TB_TC hb1 hTB
  have e8 : ∀ k, k < 8 → lam k = lb k := fun k hk => (h103 k (by omega)).trans ((hL.2.1 k (by omega)).trans (by rw [show tcW k = k from if_pos hk])).symm
  have s0 : h[lam 2]? = some (cnE (lam 3) (lam 4) (fun i => z (20 + i))) := by
    rw [e8 2 (by decide), e8 3 (by decide), e8 4 (by decide)]
    exact hRw.2.1 2 _ rfl
  have s1 : h[lam 3]? = some (eI 120 (f 3)) := by
    rw [e8 3 (by decide)]
    exact hRw.2.1 3 _ rfl
  have s2 : h[lam 4]? = some (eI 144 (f 4)) := by
    rw [e8 4 (by decide)]
    exact hRw.2.1 4 _ rfl
  have s6 : h[lam 6]? = some (eI 750 (f 6)) := by
    rw [e8 6 (by decide)]
    exact hRw.2.1 6 _ rfl
  have s7 : h[lam 7]? = some (eR 2 4 (fun j => (wX W j).map lb)) := by
    rw [e8 7 (by decide)]
    exact hRw.2.1 7 _ rfl
  obtain ⟨⟨wo, d1, d2⟩, -⟩ := hK
  have d36 : h[lam 36]? = some (eR 2 4 wo) := by
    rw [h103 36 (by decide)]
    exact d1
  refine ⟨_, im1_X l G hl hH (h103 0 (by decide)).symm s0 s1 s2 s6 s7 d36, ?_⟩
  rintro rr h' ⟨rfl, h1, f0, hTK, hZc, e'⟩
  have hI1 := HOK_I1 hl hb1 hTB hTK hZc s7
  have frI := @TKA.frI1 lam (fun i => z (20 + i)) (f 3) (f 4) (f 6) (fun j => (wX W j).map lb) wo h h1 (eO 11 (f0.set 2 (vI 1))) hTK
  have up : ∀ k, k ≠ 0 → ∀ y, h1[lam k]? = some y → (h1.set (lam 0) (eO 11 (f0.set 2 (vI 1))))[lam k]? = some y := fun k hk y hy => by
    rw [List.getElem?_set_ne (fun q => hk (hl 0 rfl k q).symm)]
    exact hy
  have h00 : h'[lam 0]? = some (eO 11 (f0.set 2 (vI 1))) := by
    rw [e']
    obtain ⟨y, hy, -⟩ := hI1 0 _ rfl
    have q9 := (List.getElem?_eq_some_iff.mp hy).1
    rw [List.length_set] at q9
    exact List.getElem?_set_self q9
  rw [← e'] at hI1 frI up
  clear e'
  have hC' : HOK (fun k => lam (imgP k)) [] (TBc 1) h' := HOK_ren (n := 127) (TBc_len 1) rn_1 hI1
  have frq : ∀ q, ¬ CI1 q → h'[nc + q]? = h[nc + q]? := fun q hq => frI (nc_off h103 (fun k hk => CI1_w hk) hq)
  have frl : ∀ i, i ≠ 0 → i < 42 + (wL W).length → h'[lb i]? = h[lb i]? := fun i hi hi2 => frI (lb_off hL h103 (fun k hk => CI1_w hk) hi2 (fun c k hk e => by
    have key : ∀ i, i < 42 → i ≠ 0 → tcW i ≠ 0 ∧ (tcW i < 31 ∨ 59 ≤ tcW i) := by decide
    have := key i c hi
    have := CI1_r hk
    omega))
  have frm : ∀ j, j < 43 → h'[nm + j]? = h[nm + j]? := fun j hj => frI (fun k _ e => hd k j hj e.symm)
  obtain ⟨-, k0, ⟨u1, k1, m1⟩, ⟨u2, k2, m2⟩, ⟨uN, kN, mN⟩, kT, -⟩ := hTK
  have hRn := take_rep hRw (f0 := f0) (by rw [← e8 0 (by decide)]; exact hZc) (by rw [← e8 0 (by decide)]; exact h00) frl
  obtain ⟨L, n, nv, nw, ns, nt, c, q1, q2, q3, q4, q5, q6, q7, q8⟩ := hC
  obtain ⟨zr', r', g1, g2, g3, g4⟩ := rImg1 0 zr r
  have hC0 : CRE W (uZ z 0 1) f zr r := ⟨L, n, nv, nw, ns, nt, c, q1, q2, q3, q4, q5.cg (fun i a1 a2 => uZ_n (by omega)) (fun _ _ => rfl) (fun _ _ => rfl) (fun _ _ => rfl) (fun _ _ => rfl) (fun _ _ _ _ => rfl), q6.st (fun j a1 a2 => uZ_n (by omega)) (fun _ _ _ => rfl) rfl rfl rfl rfl rfl, q7, q8⟩
  have hCn : CRE W (uZ z 0 1) f zr' r' := hC0.same (fun j hj => by
    have := (show ∀ j, j ∈ [3, 5, 6, 34, 36] → j ≠ 0 ∧ j ≠ 72 ∧ j ≠ 73 ∧ j ≠ 74 by decide) j hj
    exact g2 j this.1 this.2.1 this.2.2.1 this.2.2.2) (fun k hk => g3 k ((show ∀ k, k ∈ [1, 2, 4, 5, 6, 7, 9, 10, 11, 12, 13, 14, 15, 16, 18, 19, 20] → k ≠ 42 by decide) k hk))
  have c36 : h'[nc + 36]? = some (eR 2 4 (fun j => (wX W j).map lb)) := by
    rw [← h103 36 (by decide), ← row_ext (lb := lb) q2 d2]
    exact up 36 (by decide) _ kT
  have hKn : IMA 1 lb W nc (r' 42) h' := by
    refine ⟨⟨_, c36, fun j hj => ?_⟩, fun _ => ⟨W, z, fB f u1 u2 uN, zr, r, rfl, ⟨?_, ?_, ?_, ?_, c36⟩, g4, L, n, nv, nw, ns, nt, q1, q2, q3, q4, q5.cg (fun _ _ _ => rfl) m1 m2 mN (fun _ _ => rfl) (fun _ _ _ _ => rfl), q7, hZ⟩⟩
    · rw [q2.1 j hj]
      rfl
    · rw [← h103 31 (by decide), ← h103 32 (by decide), ← h103 33 (by decide)]
      exact up 31 (by decide) _ k0
    · rw [← h103 32 (by decide)]
      exact up 32 (by decide) _ k1
    · rw [← h103 33 (by decide)]
      exact up 33 (by decide) _ k2
    · rw [← h103 35 (by decide)]
      exact up 35 (by decide) _ kN
  exact ⟨1, rfl, md_of (HOM_s hM frm), ref_image l G (b' := 1) (Or.inr rfl) (LAMC_s imgP_1 imgP_2 hl) (fun k hk => by rw [imgP_1 k hk]; exact h103 k hk) hC' (HOM_s hM frm) (EXR_s hX frm) (fun k j hj => hd (imgP k) j hj) ⟨hL, hRn, hQ.same (fun k hk => frm k hk)⟩ (Or.inr rfl) (hT.tr rfl rfl rfl rfl (fun k hk => frq _ (fun q => by have := CI1_r q; omega))) g1 (g2 12 (by decide) (by decide) (by decide) (by decide)) (g2 32 (by decide) (by decide) (by decide) (by decide)) (g2 33 (by decide) (by decide) (by decide) (by decide)) (g3 8 (by decide)) hCn hKn (hZ.le (g2 38 (by decide) (by decide) (by decide) (by decide)) (by rw [g2 6 (by decide) (by decide) (by decide) (by decide)]; exact Int.le_refl _))⟩
theorem image_pair (l : Launch) (G : PG) {nc nm : Nat} {h : PH} (hI : LIY PCW nc nm h) (x : Int32) (hx : x = 0 ∨ x = 1) : PRY PCW l G nc nm h 165 4 219 3 [vI x] := by
  obtain ⟨lam, b, hB, lb, W, z, f, zr, r, hW, hC, hT, hK, hZ⟩ := hI
  rcases hx with rfl | rfl
  · obtain ⟨hb, hl, h103, hTB, hM, hX, hfl, hd⟩ := hB
    rcases hb with rfl | rfl
    · refine ⟨_, imN_X l G hTB (h103 0 (by decide)).symm, ?_⟩
      rintro rr h' ⟨rfl, rfl⟩
      exact ⟨0, rfl, md_of hM, ref_image l G (b' := 0) (Or.inl rfl) hl h103 hTB hM hX hd hW (Or.inl rfl) hT (rImgN 0 ((FLD.inj (F73_R hW.2.2) hfl).trans rfl)) (uZ_n (by decide)) (uZ_n (by decide)) (uZ_n (by decide)) rfl (hC.same (fun j hj => uZ_n (by intro e; rw [e] at hj; revert hj; decide)) (fun _ _ => rfl)) hK (hZ.le (uZ_n (by decide)) (by rw [uZ_n (by decide)]; exact Int.le_refl _))⟩
    · exact image_back l G ⟨Or.inr rfl, hl, h103, hTB, hM, hX, hfl, hd⟩ hW hC hT hK hZ
  · exact image_take l G hB hW hC hT hK hZ
