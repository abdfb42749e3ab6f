/-! the heap with a text that was put: all that holds between two rounds -/
theorem Rep.rf {H h : PH} {lb : Nat → Nat} {N : Nat} {L : QH FA} (hR : Rep rdF H lb N L h) : Rep rdF h lb N L h := ⟨hR.1, hR.2.1, rfl, fun _ _ => rfl⟩
def c59 : AC := .inr (7, [.inr (.inl (some 60)), .inr (.inr (.inr (2147483648, 2147483653))), .inr (.inr (.inr (2147483648, 2147483654)))])
theorem HOK_59 {mu : Nat → Nat} {h : PH} {fs : List PV} (hi : ∀ k', mu 59 = mu k' → 59 = k') (hH : HOK mu [] TCl h) (hx : h[mu 59]? = some (eO 7 fs)) : HOK mu [] TCl (h.set (mu 59) (eO 7 (fs.set 2 (vI 0)))) := by
  intro k c hc
  by_cases e : 59 = k
  · subst e
    have hc : some c59 = some c := hc
    cases hc
    obtain ⟨x, h1, xs, rfl, rr⟩ := hH 59 c59 rfl
    rw [hx] at h1
    cases h1
    exact ⟨_, List.getElem?_set_self (List.getElem?_eq_some_iff.mp hx).1, _, rfl, R2.setc (a := .inr (.inr (.inr (2147483648, 2147483654)))) ⟨0, rfl, (show inb 2147483648 2147483654 0 from ⟨by decide, by decide⟩)⟩ rr rfl⟩
  · obtain ⟨x, h1, h2⟩ := hH k c hc
    exact ⟨x, by rw [List.getElem?_set_ne (fun q => e (hi k q))]; exact h1, h2⟩
/-- steps are forgotten -/
theorem forget_heap {lam lb : Nat → Nat} {b nc nm : Nat} {h : PH} {W : TXW} {z zr zp : Nat → Int32} {f r fp : Nat → FA} (hB : LIB lam b nc nm h) (hW : WLD lb W z f zr r nc nm h) (hRp : Rep rdF h (fun k => nc + (79 + k)) 4 (LPr zp fp) h) : LIB lam b nc nm (h.set (lb 12) (eO 7 [vR (lb 13), vI (z 122), vI 0])) ∧ WLD lb W (uZ z 123 0) f zr r nc nm (h.set (lb 12) (eO 7 [vR (lb 13), vI (z 122), vI 0])) ∧ Rep rdF (h.set (lb 12) (eO 7 [vR (lb 13), vI (z 122), vI 0])) (fun k => nc + (79 + k)) 4 (LPr zp fp) (h.set (lb 12) (eO 7 [vR (lb 13), vI (z 122), vI 0])) ∧ (∀ g0, IMA b lb W nc g0 h → IMA b lb W nc g0 (h.set (lb 12) (eO 7 [vR (lb 13), vI (z 122), vI 0]))) := by
  obtain ⟨hb, hl, h103, hTB, hM, hX, hx, hd⟩ := hB
  have hB : LIB lam b nc nm h := ⟨hb, hl, h103, hTB, hM, hX, hx, hd⟩
  obtain ⟨hL, hRw, hQ⟩ := hW
  have b12 : lb 12 = lam 59 := (hL.2.1 12 (by decide)).trans (h103 59 (by decide)).symm
  have x12 : h[lb 12]? = some (eO 7 [vR (lb 13), vI (z 122), vI (z 123)]) := hRw.2.1 12 _ rfl
  have ne : ∀ a, a ≠ lb 12 → (h.set (lb 12) (eO 7 [vR (lb 13), vI (z 122), vI 0]))[a]? = h[a]? := fun a ha => by rw [List.getElem?_set_ne (fun q => ha q.symm)]
  have sm : ∀ j, j < 43 → (h.set (lb 12) (eO 7 [vR (lb 13), vI (z 122), vI 0]))[nm + j]? = h[nm + j]? := fun j hj => ne _ (hL.nm h103 hd 12 (by omega) j hj)
  refine ⟨lib_txt hB hl ?_ (fun _ _ => rfl) hd sm (ne _ (fun q => ?_)), ⟨hL, ?_, hQ.same (fun k hk => sm k hk)⟩, hRp.same (fun k hk => ne _ (hL.tp 12 (by omega) k hk)), fun g0 hI => hI.tr (fun q hq => ne _ (hL.im 12 (by omega) q hq)) (fun _ _ => rfl)⟩
  · rw [b12] at x12 ⊢
    exact HOK_59 (fun k' q => hl 59 rfl k' q) (TB_TC (by omega) hTB) x12
  · rw [b12] at q
    exact absurd (hl 0 rfl 59 q) (by decide)
  · have q : Rep rdF h lb (42 + (wL W).length) (LW W (uZ z 123 0) f) (h.set (lb 12) (eO 7 [vR (lb 13), vI (z 122), vI 0])) := Rep.set (k := 12) (y := .inr (7, [vR 13, vI (z 122), vI 0])) hL.1 hRw rfl
    exact q.rf
set_option maxHeartbeats 2000000 in
theorem put_heap {lam lb : Nat → Nat} {b nc nm : Nat} {h h1 : PH} {W : TXW} {z zr zp : Nat → Int32} {f r fp : Nat → FA} {k cnt M : Nat} {g hh : FA} (hB : LIB lam b nc nm h) (hW : WLD lb W z f zr r nc nm h) (hk : k < 4) (w1 : WTX W) (w2 : WTL W) (hc : cnt ≤ 16) (hM : M ≤ 400) (q0 : HOK lam [] TCl h1) (q1 : Rep rdF h (fun k => nc + (79 + k)) 4 (LPr zp fp) h1) : ∃ lam' lb', (∀ i, i < 42 → lb' i = lb i) ∧ LIB lam' b nc nm (tXa h1 k cnt (5 * cnt) g M hh (lb 7) (fun j => (wX W j).map lb)) ∧ WLD lb' (nwW W k cnt (5 * cnt) g M hh) z f zr r nc nm (tXa h1 k cnt (5 * cnt) g M hh (lb 7) (fun j => (wX W j).map lb)) ∧ Rep rdF (tXa h1 k cnt (5 * cnt) g M hh (lb 7) (fun j => (wX W j).map lb)) (fun k => nc + (79 + k)) 4 (LPr zp fp) (tXa h1 k cnt (5 * cnt) g M hh (lb 7) (fun j => (wX W j).map lb)) ∧ (∀ g0, IMA b lb W nc g0 h → IMA b lb' (nwW W k cnt (5 * cnt) g M hh) nc g0 (tXa h1 k cnt (5 * cnt) g M hh (lb 7) (fun j => (wX W j).map lb))) := by
  obtain ⟨hb, hl, h103, hTB, hMr, hX, hx, hd⟩ := hB
  have hB : LIB lam b nc nm h := ⟨hb, hl, h103, hTB, hMr, hX, hx, hd⟩
  obtain ⟨hL, hRw, hQ⟩ := hW
  have s1 : ∀ a, (∀ k, k < 4 → a ≠ nc + (79 + k)) → h1[a]? = h[a]? := q1.2.2.2
  have l1 : h1.length = h.length := q1.2.2.1
  have e7 : lam 7 = lb 7 := (h103 7 (by decide)).trans (hL.2.1 7 (by decide)).symm
  have g1 : ∀ i, i < 42 + (wL W).length → h1[lb i]? = h[lb i]? := fun i hi => s1 _ (fun j hj e => hL.tp i hi j hj e.symm)
  have hlt : ∀ i, i < 42 + (wL W).length → lb i < h1.length := fun i hi => by
    obtain ⟨y, hy⟩ : ∃ y, (LW W z f)[i]? = some y := ⟨_, List.getElem?_eq_getElem (by rw [hRw.1]; exact hi)⟩
    have := (List.getElem?_eq_some_iff.mp (hRw.2.1 i y hy)).1
    omega
  have hm : nm + 43 ≤ h1.length := by
    have q : nm + 42 < h.length := (List.getElem?_eq_some_iff.mp (hQ.2.1 42 _ rfl)).1
    omega
  have hc' : nc + 103 ≤ h1.length := by
    obtain ⟨x, h2, -⟩ := q0 102 _ rfl
    have q := (List.getElem?_eq_some_iff.mp h2).1
    rw [h103 102 (by decide)] at q
    omega
  have y7 : h1[lb 7]? = some (eR 2 4 (fun j => (wX W j).map lb)) := (g1 7 (by omega)).trans (hRw.2.1 7 _ rfl)
  obtain ⟨hl', hH'⟩ := text_lam (f := g) (g := hh) (k := cnt) (u := M) (kd := k) (w := fun j => (wX W j).map lb) hl q0 hk (by omega) hM (by rw [e7]; exact y7)
  rw [e7] at hH'
  have at7 : ∀ a, a ≠ lb 7 → a < h1.length → (tXa h1 k cnt (5 * cnt) g M hh (lb 7) (fun j => (wX W j).map lb))[a]? = h1[a]? := fun a h2 h3 => by
    show (List.set _ (lb 7) _)[a]? = _
    rw [List.getElem?_set_ne (fun q => h2 q.symm), List.getElem?_append_left h3]
  have atn : ∀ i, i < 3 → (tXa h1 k cnt (5 * cnt) g M hh (lb 7) (fun j => (wX W j).map lb))[h1.length + i]? = ([eO 8 [vR (h1.length + 1), vI (nI cnt), vR (h1.length + 2)], eI (5 * cnt) g, eI M hh] : PH)[i]? := fun i hi => by
    have := hlt 7 (by omega)
    show (List.set _ (lb 7) _)[_]? = _
    rw [List.getElem?_set_ne (by omega), List.getElem?_append_right (by omega), Nat.add_sub_cancel_left]
  have sm : ∀ j, j < 43 → (tXa h1 k cnt (5 * cnt) g M hh (lb 7) (fun j => (wX W j).map lb))[nm + j]? = h[nm + j]? := fun j hj => (at7 _ (hL.nm h103 hd 7 (by omega) j hj) (by omega)).trans (s1 _ (fun i hi e => tp_nm h103 hd i hi j hj e.symm))
  have hd' : ∀ q j, j < 43 → lamT lam k h1.length q ≠ nm + j := fun q j hj => by
    cases hq : inT (103 + 3 * k) q with
    | false => rw [lamT_o hq]; exact hd q j hj
    | true =>
      simp only [lamT, hq, cond_true]
      omega
  refine ⟨lamT lam k h1.length, lbN lb (wL W).length h1.length, fun i hi => lbN_lo (by omega), lib_txt hB hl' hH' (fun q hq => lamT_103 hq) hd' sm ?_, ⟨?_, ?_, hQ.same (fun k hk => sm k hk)⟩, ?_, fun g0 hI => hI.nw hk w2 (fun q hq => (at7 _ (hL.im 7 (by omega) q hq) (by have := im_tp q hq; omega)).trans (s1 _ (fun i hi => by have := im_tp q hq; omega)))⟩
  · have b0 : lam 0 = lb 0 := (h103 0 (by decide)).trans (hL.2.1 0 (by decide)).symm
    rw [b0]
    exact (at7 _ (fun q => absurd (hL.1 0 (by omega) 7 (by omega) q) (by decide)) (hlt 0 (by omega))).trans (g1 0 (by omega))
  · rw [nw_len]
    exact hL.new (fun i hi => hlt i hi) hc' hm
  · refine Rep_nw (N := 5 * cnt) hk w1 w2 hRw (fun i ni x hx2 hi => ?_) ?_ ((atn 0 (by decide)).trans rfl) ((atn 1 (by decide)).trans rfl) ((atn 2 (by decide)).trans rfl)
    · exact (at7 _ (fun q => ni (hL.1 i hi 7 (by omega) q)) (hlt i hi)).trans ((g1 i hi).trans hx2)
    · exact List.getElem?_set_self (by rw [List.length_append]; have := hlt 7 (by omega); omega)
  · exact q1.rf.same (fun i hi => at7 _ (hL.tp 7 (by omega) i hi) (by
      have q : nc + (79 + i) < nc + 103 := by omega
      omega))
theorem txt_heap {lam lb : Nat → Nat} {b nc nm : Nat} {h h1 : PH} {W : TXW} {z zr zp : Nat → Int32} {f r fp : Nat → FA} {k cnt N M : Nat} {g hh : FA} (hB : LIB lam b nc nm h) (hW : WLD lb W z f zr r nc nm h) (hk : k < 4) (w1 : WTX W) (w2 : WTL W) (hc : cnt ≤ 16) (hN : N = 5 * cnt) (hM : M ≤ 400) (q0 : HOK lam [] TCl h1) (q1 : Rep rdF h (fun k => nc + (79 + k)) 4 (LPr zp fp) h1) : ∃ lam' lb', LIB lam' b nc nm (tXe h1 k cnt N g M hh (lb 7) (lb 12) (fun j => (wX W j).map lb) [vR (lb 13), vI (z 122), vI (z 123)]) ∧ WLD lb' (nwW W k cnt N g M hh) (if k = 1 ∨ k = 2 then uZ z 123 0 else z) f zr r nc nm (tXe h1 k cnt N g M hh (lb 7) (lb 12) (fun j => (wX W j).map lb) [vR (lb 13), vI (z 122), vI (z 123)]) ∧ Rep rdF (tXe h1 k cnt N g M hh (lb 7) (lb 12) (fun j => (wX W j).map lb) [vR (lb 13), vI (z 122), vI (z 123)]) (fun k => nc + (79 + k)) 4 (LPr zp fp) (tXe h1 k cnt N g M hh (lb 7) (lb 12) (fun j => (wX W j).map lb) [vR (lb 13), vI (z 122), vI (z 123)]) ∧ (∀ g0, IMA b lb W nc g0 h → IMA b lb' (nwW W k cnt N g M hh) nc g0 (tXe h1 k cnt N g M hh (lb 7) (lb 12) (fun j => (wX W j).map lb) [vR (lb 13), vI (z 122), vI (z 123)])) := by
  subst hN
  obtain ⟨lam', lb', e, a1, a2, a3, a4⟩ := put_heap (g := g) (hh := hh) hB hW hk w1 w2 hc hM q0 q1
  by_cases c : k = 1 ∨ k = 2
  · obtain ⟨c1, c2, c3, c4⟩ := forget_heap a1 a2 a3
    rw [e 12 (by decide), e 13 (by decide)] at c1 c2 c3 c4
    unfold tXe
    rw [if_pos c, if_pos c]
    exact ⟨lam', lb', c1, c2, c3, fun g0 hI => c4 g0 (a4 g0 hI)⟩
  · unfold tXe
    rw [if_neg c, if_neg c]
    exact ⟨lam', lb', a1, a2, a3, a4⟩
