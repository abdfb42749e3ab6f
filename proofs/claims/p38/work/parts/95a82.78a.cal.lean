/-! calls beside the core: game, and wax whose rows for work are the course's -/
/-- what a call of the class leaves of the core, if it names none of its cells -/
theorem pcw_fc {lam : Nat → Nat} {b nc nm : Nat} {h h' : PH} {E : List (Nat × Nat)} (hB : LIB lam b nc nm h) (hP : PCW b nc nm h) (ho : offC E = true) (w3 : FRG lam E h h') : PCW b nc nm h' := by
  obtain ⟨hb, hl, h103, hTB, hM, hX, hx, hd⟩ := hB
  obtain ⟨lb, W, z, f, zr, r, ⟨hL, hRw, hQ⟩, hC, hT, hK, hZ⟩ := hP
  have c1 : ∀ a, a ∈ TCW → h'[nc + a]? = h[nc + a]? := fun a ha => by
    have hlt : nc + a < h.length := by
      by_cases q : a < 103
      · obtain ⟨x, hx2, -⟩ := hTB a _ ((nth_eq _ _).trans (List.getElem?_eq_getElem (by rw [TBc_len]; omega)))
        have := (List.getElem?_eq_some_iff.mp hx2).1
        rw [h103 a q] at this
        exact this
      · exact absurd (TCW_w a ha).2 q
    refine w3.cell hlt (fun e hm q => ?_)
    rw [← h103 a (TCW_w a ha).2] at q
    have := hl a (TCW_w a ha).1 e.1 q.symm
    rw [this] at ha
    exact (offC_ok ho hm).2 ha
  have c2 : ∀ a, a < h.length → OUT nc nm a → h'[a]? = h[a]? := fun a ha hO => w3.cell ha (fun e hm q => by
    have q2 := (offC_ok ho hm).1
    rw [h103 e.1 (wrC_lt q2)] at q
    exact hO.1 e.1 q2 q.symm)
  have c3 : ∀ j, j < 43 → h'[nm + j]? = h[nm + j]? := fun j hj => by
    have hlt : nm + j < h.length := by
      obtain ⟨x, hx2, -⟩ := hM j _ ((nth_eq _ _).trans (List.getElem?_eq_getElem (by rw [TRf_len]; exact hj)))
      exact (List.getElem?_eq_some_iff.mp hx2).1
    exact w3.cell hlt (fun e _ => hd e.1 j hj)
  have c4 : ∀ k, k < 42 + (wL W).length → h'[lb k]? = h[lb k]? := fun k hk => by
    by_cases c : k < 42
    · rw [hL.2.1 k c]
      exact c1 _ (tcW_in k c)
    · refine c2 _ ?_ (hL.2.2.2 k (by omega) hk)
      obtain ⟨y, hy⟩ : ∃ y, (LW W z f)[k]? = some y := ⟨_, List.getElem?_eq_getElem (by rw [hRw.1]; exact hk)⟩
      exact (List.getElem?_eq_some_iff.mp (hRw.2.1 k y hy)).1
  exact ⟨lb, W, z, f, zr, r, ⟨hL, hRw.same c4, hQ.same (fun k hk => c3 k hk)⟩, hC, hT.tr rfl rfl rfl rfl (fun k hk => c1 _ (tp_in k hk)), hK.tr (fun q hq => c1 _ (im_in q hq)) (fun _ _ => rfl), hZ⟩
theorem pcw_game_c (l : Launch) (G : PG) {nc nm : Nat} {h : PH} (hI : LIY PCW nc nm h) (x y : Int32) : CQY PCW l G nc nm h (mY 34) (mC 34) (mN 34) (mR 34) 22 [vR nc, vI x, vI y] := by
  obtain ⟨lam, b, hB, hP⟩ := hI
  have hB' := hB
  obtain ⟨hb, hl, h103, hC, hM, hX, hx, hd⟩ := hB
  obtain ⟨Φ0, p, hQ⟩ := game_c l G hl hC x y
  rw [h103 0 (by decide)] at p
  refine ⟨Φ0, p, fun r h' hr => ?_⟩
  obtain ⟨q1, q2, q3⟩ := hQ r h' hr
  have hF := FRG.of (fun q hq => hq) q3
  obtain ⟨o1, o2, o3⟩ := oth_c hF hd hM hX hx
  exact ⟨q1, lam, b, ⟨hb, hl, h103, q2, o1, o2, o3, hd⟩, pcw_fc (E := [(92, 2), (92, 3), (93, 999), (94, 999)]) hB' hP (by decide +kernel) hF⟩
theorem pcw_game_r (l : Launch) (G : PG) {nc nm : Nat} {h : PH} (hI : LIY PCW nc nm h) (x y : Int32) : CQY PCW l G nc nm h (mY 69) (mC 69) (mN 69) (mR 69) 5 [vR nm, vI x, vI y] := by
  obtain ⟨lam, b, hI, lb, W, z, f, zr, r, ⟨hL, hRw, hr⟩, hC, hT, hK, hZ⟩ := hI
  obtain ⟨rv, z', f', hc, g1, g2⟩ := game_r 0 x y zr r
  have hz := BNDz_of hI.2.2.2.2.1 hr
  have hB := BNDf_of hI.2.2.2.2.1 hr
  have hE := EXF_of hI.2.2.2.2.2.1 hr
  have h103 := hI.2.2.1
  have hd := hI.2.2.2.2.2.2.2
  refine ⟨_, pm_of (lamM_i nm) hc hr, ?_⟩
  rintro r1 h1' ⟨rfl, hR1⟩
  have s : ∀ a, (∀ j, j < 43 → a ≠ nm + j) → h1'[a]? = h[a]? := fun a ha => hR1.2.2.2 a ha
  have ez : ∀ j, j ≠ 0 → j ≠ 70 → j ≠ 71 → z' j = zr j := fun j j0 j1 j2 => by
    rw [g1 j j1 j2]
    exact if_neg j0
  have b1 : BNDz z' := by
    intro e he
    have key : ∀ e, e ∈ FBl → e.1 ≠ 0 ∧ e.1 ≠ 70 ∧ e.1 ≠ 71 := by decide
    obtain ⟨k0, k1, k2⟩ := key e he
    rw [ez e.1 k0 k1 k2]
    exact hz e he
  have b2 : BNDf f' := by
    intro k k1 k2
    by_cases c0 : k = 40
    · subst c0
      exact ⟨⟨fun j _ => inb_top _, trivial⟩, PRD_0⟩
    by_cases c1 : k = 41
    · subst c1
      exact ⟨⟨fun j _ => inb_top _, trivial⟩, PRD_0⟩
    rw [g2 k c0 c1]
    exact hB k k1 k2
  have b3 : EXF f' := by
    refine hE.tr (fun k hk => g2 k ?_ ?_)
    · rintro rfl
      revert hk
      decide
    · rintro rfl
      revert hk
      decide
  have zk : ∀ j, j ∈ [3, 5, 6, 12, 32, 33, 34, 36] → z' j = zr j := fun j hj => by
    have key : ∀ j, j ∈ [3, 5, 6, 12, 32, 33, 34, 36] → j ≠ 0 ∧ j ≠ 70 ∧ j ≠ 71 := by decide
    exact ez j (key j hj).1 (key j hj).2.1 (key j hj).2.2
  exact ⟨⟨rv, rfl⟩, lam, b, lib_of_r hI hr hR1 b1 b2 b3 (ez 73 (by decide) (by decide) (by decide)), lb, W, z, f, z', f', ⟨hL, hRw.same (fun k hk => s _ (fun j hj e => hL.nm h103 hd k hk j hj e.symm)), hR1.same (fun _ _ => rfl)⟩, hC.same (fun j hj => zk j ((show ∀ j, j ∈ [3, 5, 6, 34, 36] → j ∈ [3, 5, 6, 12, 32, 33, 34, 36] by decide) j hj)) (fun k hk => g2 k ((show ∀ k, k ∈ [1, 2, 4, 5, 6, 7, 9, 10, 11, 12, 13, 14, 15, 16, 18, 19, 20] → k ≠ 40 by decide) k hk) ((show ∀ k, k ∈ [1, 2, 4, 5, 6, 7, 9, 10, 11, 12, 13, 14, 15, 16, 18, 19, 20] → k ≠ 41 by decide) k hk)), hT.tr (zk 12 (by decide)) (zk 32 (by decide)) (zk 33 (by decide)) (g2 8 (by decide) (by decide)) (fun k hk => s _ (fun j hj => tp_nm h103 hd k hk j hj)), hK.tr (fun q hq => s _ (fun j hj => im_nm h103 hd q hq j hj)) (fun p _ => by rw [g2 42 (by decide) (by decide)]), hZ.le (ez 38 (by decide) (by decide) (by decide)) (by rw [zk 6 (by decide)]; exact Int.le_refl _)⟩
/-- rows for work -/
def fS (f : Nat → FA) (a b c d e : FA) : Nat → FA := fun k => bif Nat.beq k 9 then a else bif Nat.beq k 10 then b else bif Nat.beq k 11 then c else bif Nat.beq k 40 then d else bif Nat.beq k 41 then e else f k
def zS (z : Nat → Int32) (a b : Int32) : Nat → Int32 := fun j => bif Nat.beq j 392 then a else bif Nat.beq j 393 then b else z j
theorem CRE.scr {W : TXW} {z zr : Nat → Int32} {f r : Nat → FA} (hC : CRE W z f zr r) (x y : Int32) (a b c d e : FA) : CRE W (zS z x y) (fS f a b c d e) zr r := by
  obtain ⟨L, n, nv, nw, ns, nt, c0, q1, q2, q3, q4, q5, q6, q7, q8⟩ := hC
  have ez : ∀ j, j < 392 → zS z x y j = z j := fun j hj => by
    unfold zS
    rw [show Nat.beq j 392 = false from Bool.eq_false_iff.mpr (fun q => by have := Nat.eq_of_beq_eq_true q; omega), show Nat.beq j 393 = false from Bool.eq_false_iff.mpr (fun q => by have := Nat.eq_of_beq_eq_true q; omega)]
    rfl
  have ef : ∀ k, 11 < k → k < 40 → fS f a b c d e k = f k := fun k k1 k2 => by
    unfold fS
    rw [show Nat.beq k 9 = false from Bool.eq_false_iff.mpr (fun q => by have := Nat.eq_of_beq_eq_true q; omega), show Nat.beq k 10 = false from Bool.eq_false_iff.mpr (fun q => by have := Nat.eq_of_beq_eq_true q; omega), show Nat.beq k 11 = false from Bool.eq_false_iff.mpr (fun q => by have := Nat.eq_of_beq_eq_true q; omega), show Nat.beq k 40 = false from Bool.eq_false_iff.mpr (fun q => by have := Nat.eq_of_beq_eq_true q; omega), show Nat.beq k 41 = false from Bool.eq_false_iff.mpr (fun q => by have := Nat.eq_of_beq_eq_true q; omega)]
    rfl
  exact ⟨L, n, nv, nw, ns, nt, c0, q1, q2, q3, q4, q5.cg (fun i a1 a2 => ez i (by omega)) (fun _ _ => rfl) (fun _ _ => rfl) (fun _ _ => rfl) (fun _ _ => rfl) (fun _ _ _ _ => rfl), q6.st (fun j a1 a2 => ez j (by omega)) (fun k a1 a2 => ef k (by omega) (by omega)) rfl rfl rfl rfl rfl, q7, q8⟩
set_option maxRecDepth 100000 in
set_option maxHeartbeats 2000000 in
theorem scr_rep {lb : Nat → Nat} {W : TXW} {z : Nat → Int32} {f : Nat → FA} {h hh : PH} {x0 y : Int32} {a b c d e : FA} (hR : Rep rdF h lb (42 + (wL W).length) (LW W z f) h) (c9 : hh[lb 9]? = some (eI 10 a)) (c10 : hh[lb 10]? = some (eI 32 b)) (c11 : hh[lb 11]? = some (eI 100 c)) (c39 : hh[lb 39]? = some (eO 6 [vR (lb 40), vR (lb 41), vI x0, vI y])) (c40 : hh[lb 40]? = some (eI 144 d)) (c41 : hh[lb 41]? = some (eI 144 e)) (fr : ∀ i, i ∉ [9, 10, 11, 39, 40, 41] → i < 42 + (wL W).length → hh[lb i]? = h[lb i]?) : Rep rdF hh lb (42 + (wL W).length) (LW W (zS z x0 y) (fS f a b c d e)) hh := by
  refine ⟨?_, fun i x hx => ?_, rfl, fun _ _ => rfl⟩
  · exact (Nat.add_comm _ _ : (wL W).length + 42 = 42 + (wL W).length)
  have old : ∀ i y, i ∉ [9, 10, 11, 39, 40, 41] → i < 42 → (LW W z f)[i]? = some y → hh[lb i]? = some (se rdF lb y) := fun i y h1 h2 h3 => (fr i h1 (by omega)).trans (hR.2.1 i y h3)
  match i, hx with
  | 0, hx =>
    obtain rfl := Option.some.inj (show some (.inr (11, [vR 1, vR (wK W), vI (z 0), vR 12, vR (wK W + 1), vR 32, vR 8, vR 35, vR 39, vR (wK W + 2), vR (wK W + 3)]) : QE FA) = some x from hx)
    exact old 0 _ (by decide) (by decide) rfl
  | 1, hx =>
    obtain rfl := Option.some.inj (show some (.inr (10, [vR 2, vR 5, vR 7, vR (wK W + 4)]) : QE FA) = some x from hx)
    exact old 1 _ (by decide) (by decide) rfl
  | 2, hx =>
    obtain rfl := Option.some.inj (show some (.inr (0, [vR 3, vR 4, vI (z 22), vI (z 23), vI (z 24), vI (z 25), vI (z 26), vI (z 27), vI (z 28), vI (z 29)]) : QE FA) = some x from hx)
    exact old 2 _ (by decide) (by decide) rfl
  | 3, hx =>
    obtain rfl := Option.some.inj (show some (.inl (.inl (0, 120, f 3)) : QE FA) = some x from hx)
    exact old 3 _ (by decide) (by decide) rfl
  | 4, hx =>
    obtain rfl := Option.some.inj (show some (.inl (.inl (0, 144, f 4)) : QE FA) = some x from hx)
    exact old 4 _ (by decide) (by decide) rfl
  | 5, hx =>
    obtain rfl := Option.some.inj (show some (.inr (3, [vR 6]) : QE FA) = some x from hx)
    exact old 5 _ (by decide) (by decide) rfl
  | 6, hx =>
    obtain rfl := Option.some.inj (show some (.inl (.inl (0, 750, f 6)) : QE FA) = some x from hx)
    exact old 6 _ (by decide) (by decide) rfl
  | 7, hx =>
    obtain rfl := Option.some.inj (show some (.inl (.inr (2, 4, wX W)) : QE FA) = some x from hx)
    exact old 7 _ (by decide) (by decide) rfl
  | 8, hx =>
    obtain rfl := Option.some.inj (show some (.inr (1, [vR 2, vR 7, vR 5, vR 9, vR 10, vR 11]) : QE FA) = some x from hx)
    exact old 8 _ (by decide) (by decide) rfl
  | 9, hx =>
    obtain rfl := Option.some.inj (show some (.inl (.inl (0, 10, a)) : QE FA) = some x from hx)
    exact c9
  | 10, hx =>
    obtain rfl := Option.some.inj (show some (.inl (.inl (0, 32, b)) : QE FA) = some x from hx)
    exact c10
  | 11, hx =>
    obtain rfl := Option.some.inj (show some (.inl (.inl (0, 100, c)) : QE FA) = some x from hx)
    exact c11
  | 12, hx =>
    obtain rfl := Option.some.inj (show some (.inr (7, [vR 13, vI (z 122), vI (z 123)]) : QE FA) = some x from hx)
    exact old 12 _ (by decide) (by decide) rfl
  | 13, hx =>
    obtain rfl := Option.some.inj (show some (.inl (.inr (1, 6, rgW)) : QE FA) = some x from hx)
    exact old 13 _ (by decide) (by decide) rfl
  | 14, hx =>
    obtain rfl := Option.some.inj (show some (.inr (0, [vR 15, vR 16, vI (z 142), vI (z 143), vI (z 144), vI (z 145), vI (z 146), vI (z 147), vI (z 148), vI (z 149)]) : QE FA) = some x from hx)
    exact old 14 _ (by decide) (by decide) rfl
  | 15, hx =>
    obtain rfl := Option.some.inj (show some (.inl (.inl (0, 120, f 15)) : QE FA) = some x from hx)
    exact old 15 _ (by decide) (by decide) rfl
  | 16, hx =>
    obtain rfl := Option.some.inj (show some (.inl (.inl (0, 144, f 16)) : QE FA) = some x from hx)
    exact old 16 _ (by decide) (by decide) rfl
  | 17, hx =>
    obtain rfl := Option.some.inj (show some (.inr (0, [vR 18, vR 19, vI (z 172), vI (z 173), vI (z 174), vI (z 175), vI (z 176), vI (z 177), vI (z 178), vI (z 179)]) : QE FA) = some x from hx)
    exact old 17 _ (by decide) (by decide) rfl
  | 18, hx =>
    obtain rfl := Option.some.inj (show some (.inl (.inl (0, 120, f 18)) : QE FA) = some x from hx)
    exact old 18 _ (by decide) (by decide) rfl
  | 19, hx =>
    obtain rfl := Option.some.inj (show some (.inl (.inl (0, 144, f 19)) : QE FA) = some x from hx)
    exact old 19 _ (by decide) (by decide) rfl
  | 20, hx =>
    obtain rfl := Option.some.inj (show some (.inr (0, [vR 21, vR 22, vI (z 202), vI (z 203), vI (z 204), vI (z 205), vI (z 206), vI (z 207), vI (z 208), vI (z 209)]) : QE FA) = some x from hx)
    exact old 20 _ (by decide) (by decide) rfl
  | 21, hx =>
    obtain rfl := Option.some.inj (show some (.inl (.inl (0, 120, f 21)) : QE FA) = some x from hx)
    exact old 21 _ (by decide) (by decide) rfl
  | 22, hx =>
    obtain rfl := Option.some.inj (show some (.inl (.inl (0, 144, f 22)) : QE FA) = some x from hx)
    exact old 22 _ (by decide) (by decide) rfl
  | 23, hx =>
    obtain rfl := Option.some.inj (show some (.inr (0, [vR 24, vR 25, vI (z 232), vI (z 233), vI (z 234), vI (z 235), vI (z 236), vI (z 237), vI (z 238), vI (z 239)]) : QE FA) = some x from hx)
    exact old 23 _ (by decide) (by decide) rfl
  | 24, hx =>
    obtain rfl := Option.some.inj (show some (.inl (.inl (0, 120, f 24)) : QE FA) = some x from hx)
    exact old 24 _ (by decide) (by decide) rfl
  | 25, hx =>
    obtain rfl := Option.some.inj (show some (.inl (.inl (0, 144, f 25)) : QE FA) = some x from hx)
    exact old 25 _ (by decide) (by decide) rfl
  | 26, hx =>
    obtain rfl := Option.some.inj (show some (.inr (0, [vR 27, vR 28, vI (z 262), vI (z 263), vI (z 264), vI (z 265), vI (z 266), vI (z 267), vI (z 268), vI (z 269)]) : QE FA) = some x from hx)
    exact old 26 _ (by decide) (by decide) rfl
  | 27, hx =>
    obtain rfl := Option.some.inj (show some (.inl (.inl (0, 120, f 27)) : QE FA) = some x from hx)
    exact old 27 _ (by decide) (by decide) rfl
  | 28, hx =>
    obtain rfl := Option.some.inj (show some (.inl (.inl (0, 144, f 28)) : QE FA) = some x from hx)
    exact old 28 _ (by decide) (by decide) rfl
  | 29, hx =>
    obtain rfl := Option.some.inj (show some (.inr (0, [vR 30, vR 31, vI (z 292), vI (z 293), vI (z 294), vI (z 295), vI (z 296), vI (z 297), vI (z 298), vI (z 299)]) : QE FA) = some x from hx)
    exact old 29 _ (by decide) (by decide) rfl
  | 30, hx =>
    obtain rfl := Option.some.inj (show some (.inl (.inl (0, 120, f 30)) : QE FA) = some x from hx)
    exact old 30 _ (by decide) (by decide) rfl
  | 31, hx =>
    obtain rfl := Option.some.inj (show some (.inl (.inl (0, 144, f 31)) : QE FA) = some x from hx)
    exact old 31 _ (by decide) (by decide) rfl
  | 32, hx =>
    obtain rfl := Option.some.inj (show some (.inr (0, [vR 33, vR 34, vI (z 322), vI (z 323), vI (z 324), vI (z 325), vI (z 326), vI (z 327), vI (z 328), vI (z 329)]) : QE FA) = some x from hx)
    exact old 32 _ (by decide) (by decide) rfl
  | 33, hx =>
    obtain rfl := Option.some.inj (show some (.inl (.inl (0, 120, f 33)) : QE FA) = some x from hx)
    exact old 33 _ (by decide) (by decide) rfl
  | 34, hx =>
    obtain rfl := Option.some.inj (show some (.inl (.inl (0, 144, f 34)) : QE FA) = some x from hx)
    exact old 34 _ (by decide) (by decide) rfl
  | 35, hx =>
    obtain rfl := Option.some.inj (show some (.inr (1, [vR 32, vR 7, vN, vR 36, vR 37, vR 38]) : QE FA) = some x from hx)
    exact old 35 _ (by decide) (by decide) rfl
  | 36, hx =>
    obtain rfl := Option.some.inj (show some (.inl (.inl (0, 10, f 36)) : QE FA) = some x from hx)
    exact old 36 _ (by decide) (by decide) rfl
  | 37, hx =>
    obtain rfl := Option.some.inj (show some (.inl (.inl (0, 32, f 37)) : QE FA) = some x from hx)
    exact old 37 _ (by decide) (by decide) rfl
  | 38, hx =>
    obtain rfl := Option.some.inj (show some (.inl (.inl (0, 100, f 38)) : QE FA) = some x from hx)
    exact old 38 _ (by decide) (by decide) rfl
  | 39, hx =>
    obtain rfl := Option.some.inj (show some (.inr (6, [vR 40, vR 41, vI x0, vI y]) : QE FA) = some x from hx)
    exact c39
  | 40, hx =>
    obtain rfl := Option.some.inj (show some (.inl (.inl (0, 144, d)) : QE FA) = some x from hx)
    exact c40
  | 41, hx =>
    obtain rfl := Option.some.inj (show some (.inl (.inl (0, 144, e)) : QE FA) = some x from hx)
    exact c41
  | j + 42, hx =>
    have hx : (LW W z f)[j + 42]? = some x := hx
    have hi := (List.getElem?_eq_some_iff.mp hx).1
    rw [hR.1] at hi
    refine (fr (j + 42) (fun q => ?_) hi).trans (hR.2.1 (j + 42) x hx)
    have : ∀ a, a ∈ [9, 10, 11, 39, 40, 41] → a < 42 := by decide
    have := this _ q
    omega
def offW (E : List (Nat × Nat)) : Bool := E.all (fun e => wrC e.1 && (!(TCW.contains e.1) || [86, 87, 88, 96, 97, 98].contains e.1))
theorem offW_ok {E : List (Nat × Nat)} (h : offW E = true) {e : Nat × Nat} (he : e ∈ E) : wrC e.1 = true ∧ (e.1 ∈ TCW → e.1 ∈ [86, 87, 88, 96, 97, 98]) := by
  have h1 := List.all_eq_true.mp h e he
  rw [Bool.and_eq_true, Bool.or_eq_true] at h1
  refine ⟨h1.1, fun hm => ?_⟩
  rcases h1.2 with h2 | h2
  · rw [show TCW.contains e.1 = true from List.contains_iff_mem.mpr hm] at h2
    cases h2
  · exact List.contains_iff_mem.mp h2
/-- a call of the class that works in the course's rows and the shapes', and leaves all else of the core alone -/
theorem pcw_w (l : Launch) (G : PG) {nc nm : Nat} {h : PH} (su : SU) (hI : LIY PCW nc nm h) (hS : ∀ lam, LAMC lam → SUOK lam TCl EXT l G su) (he : su.2.2.2.2.all (fun e => !(e.1 == 0 && e.2 == 2)) = true) (ho : offW su.2.2.2.2 = true) (hr : su.2.2.2.1.isSome = true) (As : List PV) (hA : ∀ lam : Nat → Nat, lam 0 = nc → R2 (vRel lam []) su.2.2.1 (vR nc :: As)) : CQY PCW l G nc nm h (mY su.1) (mC su.1) (mN su.1) (mR su.1) su.2.1 (vR nc :: As) := by
  obtain ⟨lam, b, hB, lb, W, z, f, zr, r, ⟨hL, hRw, hQ⟩, hC, hT, hK, hZ⟩ := hI
  obtain ⟨hb, hl, h103, hTB, hM, hX, hx, hd⟩ := hB
  have hB : LIB lam b nc nm h := ⟨hb, hl, h103, hTB, hM, hX, hx, hd⟩
  obtain ⟨Φ0, p1, q1⟩ := lib_c l G su hB (hS lam hl) he As (hA lam (h103 0 (by decide)))
  refine ⟨Φ0, p1, fun rr h' w => ?_⟩
  obtain ⟨w1, w2, w3⟩ := q1 rr h' w
  have c1 : ∀ a, a ∈ TCW → a ∉ [86, 87, 88, 96, 97, 98] → h'[nc + a]? = h[nc + a]? := fun a ha hn => by
    have hlt : nc + a < h.length := by
      obtain ⟨x, hx2, -⟩ := hTB a _ ((nth_eq _ _).trans (List.getElem?_eq_getElem (by rw [TBc_len]; have := (TCW_w a ha).2; omega)))
      have := (List.getElem?_eq_some_iff.mp hx2).1
      rw [h103 a (TCW_w a ha).2] at this
      exact this
    refine w3.cell hlt (fun e hm q => ?_)
    rw [← h103 a (TCW_w a ha).2] at q
    have := hl a (TCW_w a ha).1 e.1 q.symm
    rw [this] at ha hn
    exact hn ((offW_ok ho hm).2 ha)
  have c2 : ∀ a, a < h.length → OUT nc nm a → h'[a]? = h[a]? := fun a ha hO => w3.cell ha (fun e hm q => by
    have q2 := (offW_ok ho hm).1
    rw [h103 e.1 (wrC_lt q2)] at q
    exact hO.1 e.1 q2 q.symm)
  have c3 : ∀ j, j < 43 → h'[nm + j]? = h[nm + j]? := fun j hj => by
    have hlt : nm + j < h.length := by
      obtain ⟨x, hx2, -⟩ := hM j _ ((nth_eq _ _).trans (List.getElem?_eq_getElem (by rw [TRf_len]; exact hj)))
      exact (List.getElem?_eq_some_iff.mp hx2).1
    exact w3.cell hlt (fun e _ => hd e.1 j hj)
  have key : ∀ i, i < 42 → i ∉ [9, 10, 11, 39, 40, 41] → tcW i ∉ [86, 87, 88, 96, 97, 98] := by decide
  have c4 : ∀ k, k ∉ [9, 10, 11, 39, 40, 41] → k < 42 + (wL W).length → h'[lb k]? = h[lb k]? := fun k hn hk => by
    by_cases c : k < 42
    · rw [hL.2.1 k c]
      exact c1 _ (tcW_in k c) (key k c hn)
    · refine c2 _ ?_ (hL.2.2.2 k (by omega) hk)
      obtain ⟨y, hy⟩ : ∃ y, (LW W z f)[k]? = some y := ⟨_, List.getElem?_eq_getElem (by rw [hRw.1]; exact hk)⟩
      exact (List.getElem?_eq_some_iff.mp (hRw.2.1 k y hy)).1
  have hH : HOK lam [] TCl h' := TB_TC (by omega) w2.2.2.2.1
  have el : ∀ k, k < 42 → lam (tcW k) = lb k := fun k hk => (h103 _ (tcW_lt hk)).trans (hL.2.1 k hk).symm
  obtain ⟨a9, d9⟩ := arr_at (k := 96) (c := 10) (by decide) hH rfl
  obtain ⟨a10, d10⟩ := arr_at (k := 97) (c := 32) (by decide) hH rfl
  obtain ⟨a11, d11⟩ := arr_at (k := 98) (c := 100) (by decide) hH rfl
  obtain ⟨a40, d40⟩ := arr_at (k := 87) (c := 144) (by decide) hH rfl
  obtain ⟨a41, d41⟩ := arr_at (k := 88) (c := 144) (by decide) hH rfl
  obtain ⟨x39, h39, f39, rfl, r39⟩ := hH 86 _ rfl
  obtain ⟨y0, y1, u, rfl, e0, e1, r39b⟩ := R2.un2 r39
  have e0 : y0 = vR (lam 87) := e0
  have e1 : y1 = vR (lam 88) := e1
  subst e0 e1
  obtain ⟨y2, y3, v, rfl, ⟨x2, rfl, -⟩, ⟨x3, rfl, -⟩, r39c⟩ := R2.un2 r39b
  obtain rfl : v = [] := by cases v with
    | nil => rfl
    | cons _ _ => cases r39c
  have e9 : lam 96 = lb 9 := el 9 (by decide)
  have e10 : lam 97 = lb 10 := el 10 (by decide)
  have e11 : lam 98 = lb 11 := el 11 (by decide)
  have e39 : lam 86 = lb 39 := el 39 (by decide)
  have e40 : lam 87 = lb 40 := el 40 (by decide)
  have e41 : lam 88 = lb 41 := el 41 (by decide)
  rw [e9] at d9
  rw [e10] at d10
  rw [e11] at d11
  rw [e40] at d40
  rw [e41] at d41
  rw [e39, e40, e41] at h39
  have im6 : ∀ q, q ∈ imL → q ∉ [86, 87, 88, 96, 97, 98] := by decide
  have tp6 : ∀ k, k < 4 → 79 + k ∉ [86, 87, 88, 96, 97, 98] := by decide
  exact ⟨RSO_i w1 hr, lam, b, w2, lb, W, zS z x2 x3, fS f a9 a10 a11 a40 a41, zr, r, ⟨hL, scr_rep hRw d9 d10 d11 h39 d40 d41 c4, hQ.same (fun k hk => c3 k hk)⟩, hC.scr x2 x3 a9 a10 a11 a40 a41, hT.tr rfl rfl rfl rfl (fun k hk => c1 _ (tp_in k hk) (tp6 k hk)), hK.tr (fun q hq => c1 _ (im_in q hq) (im6 q hq)) (fun _ _ => rfl), hZ⟩
