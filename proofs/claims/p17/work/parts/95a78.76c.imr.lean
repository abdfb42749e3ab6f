/-! the image on both sides: what holds of the worlds then -/
theorem RLn.cg {nv : Nat} {z z' zr zr' : Nat → Int32} {f f' r r' : Nat → FA} (h : RLn nv z f zr r) (hz : ∀ i, 22 ≤ i → i < 30 → z' i = z i) (h3 : ∀ j, j < 120 → f' 3 j = f 3 j) (h4 : ∀ j, j < 144 → f' 4 j = f 4 j) (h6 : ∀ j, j < 750 → f' 6 j = f 6 j) (h5 : zr' 5 = zr 5) (g1 : ∀ j, j < 499 → r' 1 j = r 1 j) (g4 : ∀ j, j < 20 → r' 4 j = r 4 j) (g5 : ∀ j, j < 20 → r' 5 j = r 5 j) (g6 : ∀ j, j < 20 → r' 6 j = r 6 j) (g7 : ∀ j, j < 750 → r' 7 j = r 7 j) : RLn nv z' f' zr' r' := by
  obtain ⟨⟨hn, ⟨a1, a2, a3, a4, a5, a6, a7, a8⟩, ht, hm, ⟨hh, hh1, hh2⟩, ll, ll1, ll2⟩, hb, h0⟩ := h
  refine ⟨⟨hn, ⟨(hz 22 (by decide) (by decide)).trans a1, ?_, ?_, ?_, ?_, ?_, ?_, ?_⟩, ht.cong h3 (fun j q1 q2 => g1 j (by omega)) g4 g5 g6 hn, hm.cong h4 (fun j q1 q2 => g1 j q2), ⟨hh, hh1, (g1 1 (by decide)).trans hh2⟩, ll, ll1, (g1 3 (by decide)).trans ll2⟩, fun j hj => (h6 j hj).trans ((hb j hj).trans (g7 j hj).symm), h5.trans h0⟩
  · exact (hz 23 (by decide) (by decide)).trans (a2.trans (g1 4 (by decide)).symm)
  · exact (hz 24 (by decide) (by decide)).trans (a3.trans (g1 1 (by decide)).symm)
  · exact (hz 25 (by decide) (by decide)).trans (a4.trans (g1 0 (by decide)).symm)
  · exact (hz 26 (by decide) (by decide)).trans (a5.trans (g1 5 (by decide)).symm)
  · exact (hz 27 (by decide) (by decide)).trans (a6.trans (g1 6 (by decide)).symm)
  · exact (hz 28 (by decide) (by decide)).trans (a7.trans (g1 2 (by decide)).symm)
  · exact (hz 29 (by decide) (by decide)).trans (a8.trans (g1 3 (by decide)).symm)
theorem LRM.cg {L : LAW} {n : Nat} {r r' : Nat → FA} (h : LRM r L n) (h10 : r' 10 0 = r 10 0) (h1 : ∀ k j, 11 ≤ k → k ≤ 14 → j < 16 → r' k j = r k j) (h2 : ∀ j, j < 400 → r' 15 j = r 15 j ∧ r' 16 j = r 16 j) : LRM r' L n := by
  obtain ⟨h16, h0, hl⟩ := h
  refine ⟨h16, h10.trans h0, fun i hi => ?_⟩
  obtain ⟨a, b, c, q1, q2, q3, q4, q5, q6, q7, q8⟩ := hl i hi
  have b1 := tkR_le _ _ _ _ _ q7
  have b2 := tkR_le _ _ _ _ _ q8
  exact ⟨a, b, c, q1, (h1 11 i (by decide) (by decide) (by omega)).trans q2, (h1 12 i (by decide) (by decide) (by omega)).trans q3, (h1 13 i (by decide) (by decide) (by omega)).trans q4, (h1 14 i (by decide) (by decide) (by omega)).trans q5, q6, tkR_lo _ _ _ (fun k _ hk => h2 k (by omega)) q7, tkR_lo _ _ _ (fun k _ hk => h2 k (by omega)) q8⟩
/-- rows of the reference that an image keeps, as long as they are told of -/
def IMT : List (Nat × Nat) := [(1, 499), (4, 20), (5, 20), (6, 20), (7, 750), (10, 1), (11, 16), (12, 16), (13, 16), (14, 16), (15, 400), (16, 400), (18, 48), (19, 80), (20, 20)]
theorem WR.cg {W : TXW} {L : LAW} {n nv nw ns : Nat} {z z' zr zr' : Nat → Int32} {f f' r r' : Nat → FA} (h : WR W L n nv nw ns z f zr r) (hz : ∀ i, 22 ≤ i → i < 30 → z' i = z i) (h3 : ∀ j, j < 120 → f' 3 j = f 3 j) (h4 : ∀ j, j < 144 → f' 4 j = f 4 j) (h6 : ∀ j, j < 750 → f' 6 j = f 6 j) (hq : ∀ q, q ∈ [5, 6, 34, 36] → zr' q = zr q) (g : ∀ e, e ∈ IMT → ∀ j, j < e.2 → r' e.1 j = r e.1 j) : WR W L n nv nw ns z' f' zr' r' := by
  obtain ⟨a1, a2, a3, a4, a5⟩ := h
  refine ⟨a1.cg hz h3 h4 h6 (hq 5 (by decide)) (g (1, 499) (by decide)) (g (4, 20) (by decide)) (g (5, 20) (by decide)) (g (6, 20) (by decide)) (g (7, 750) (by decide)), a2.cg (g (10, 1) (by decide) 0 (by decide)) (fun k j q1 q2 q3 => ?_) (fun j hj => ⟨g (15, 400) (by decide) j hj, g (16, 400) (by decide) j hj⟩), a3.tff (hq 34 (by decide)) (g (18, 48) (by decide)), a4.tff (hq 36 (by decide)) (g (19, 80) (by decide)), (hq 6 (by decide)).trans a5⟩
  rcases (show k = 11 ∨ k = 12 ∨ k = 13 ∨ k = 14 by omega) with rfl | rfl | rfl | rfl
  · exact g (11, 16) (by decide) j q3
  · exact g (12, 16) (by decide) j q3
  · exact g (13, 16) (by decide) j q3
  · exact g (14, 16) (by decide) j q3
def fB (f : Nat → FA) (a b c : FA) : Nat → FA := fun k => bif Nat.beq k 3 then a else bif Nat.beq k 4 then b else bif Nat.beq k 6 then c else f k
def zB (z zi : Nat → Int32) : Nat → Int32 := fun j => bif Nat.ble 22 j && Nat.ble j 29 then zi j else bif Nat.beq j 123 then 0 else z j
set_option maxRecDepth 100000 in
theorem take_rep {lb : Nat → Nat} {W : TXW} {z : Nat → Int32} {f : Nat → FA} {h hh : PH} (hR : Rep rdF h lb (42 + (wL W).length) (LW W z f) h) {f0 : List PV} (h0 : h[lb 0]? = some (eO 11 f0)) (h1 : hh[lb 0]? = some (eO 11 (f0.set 2 (vI 1)))) (fr : ∀ i, i ≠ 0 → i < 42 + (wL W).length → hh[lb i]? = h[lb i]?) : Rep rdF hh lb (42 + (wL W).length) (LW W (uZ z 0 1) f) hh := by
  refine ⟨hR.1, fun i x hx => ?_, rfl, fun _ _ => rfl⟩
  match i, hx with
  | 0, hx =>
    have e0 := h0.symm.trans (hR.2.1 0 _ rfl)
    injection e0 with e0
    injection e0 with e0
    have e0 := (Prod.mk.inj e0).2
    subst e0
    obtain rfl := Option.some.inj (show some (.inr (11, [vR 1, vR (wK W), vI 1, vR 12, vR (wK W + 1), vR 32, vR 8, vR 35, vR 39, vR (wK W + 2), vR (wK W + 3)]) : QE FA) = some x from hx)
    exact h1
  | i + 1, hx =>
    have ht : (LW W (uZ z 0 1) f).tail = (LW W z f).tail := rfl
    have hx : (LW W (uZ z 0 1) f).tail[i]? = some x := hx
    rw [ht] at hx
    have hx : (LW W z f)[i + 1]? = some x := hx
    have hi := (List.getElem?_eq_some_iff.mp hx).1
    rw [hR.1] at hi
    exact (fr (i + 1) (by omega) hi).trans (hR.2.1 (i + 1) x hx)
set_option maxRecDepth 100000 in
set_option maxHeartbeats 2000000 in
theorem back_rep {lb : Nat → Nat} {W Wi : TXW} {z zi : Nat → Int32} {f : Nat → FA} {h hh : PH} {u1 u2 uN : FA} (hR : Rep rdF h lb (42 + (wL W).length) (LW W z f) h) (eL : wL Wi = wL W) (c2 : hh[lb 2]? = some (cnE (lb 3) (lb 4) (fun i => zi (20 + i)))) (c3 : hh[lb 3]? = some (eI 120 u1)) (c4 : hh[lb 4]? = some (eI 144 u2)) (c6 : hh[lb 6]? = some (eI 750 uN)) (c7 : hh[lb 7]? = some (eR 2 4 (fun j => (wX Wi j).map lb))) (c12 : hh[lb 12]? = some (eO 7 [vR (lb 13), vI (z 122), vI 0])) (fr : ∀ i, i ∉ [2, 3, 4, 6, 7, 12] → i < 42 + (wL W).length → hh[lb i]? = h[lb i]?) : Rep rdF hh lb (42 + (wL Wi).length) (LW Wi (zB z zi) (fB f u1 u2 uN)) hh := by
  obtain ⟨X, T, R⟩ := Wi
  have eL : T = wL W := eL
  subst eL
  refine ⟨?_, fun i x hx => ?_, rfl, fun _ _ => rfl⟩
  · exact (Nat.add_comm _ _ : (wL W).length + 42 = 42 + (wL W).length)
  have old : ∀ i y, i ∉ [2, 3, 4, 6, 7, 12] → i < 42 → (LW W z f)[i]? = some y → hh[lb i]? = some (se rdF lb y) := fun i y h1 h2 h3 => (fr i h1 (by omega)).trans (hR.2.1 i y h3)
  match i, hx with
  | 0, hx =>
    obtain rfl := Option.some.inj (show some (.inr (11, [vR 1, vR (wK W), vI (z 0), vR 12, vR (wK W + 1), vR 32, vR 8, vR 35, vR 39, vR (wK W + 2), vR (wK W + 3)]) : QE FA) = some x from hx)
    exact old 0 _ (by decide) (by decide) rfl
  | 1, hx =>
    obtain rfl := Option.some.inj (show some (.inr (10, [vR 2, vR 5, vR 7, vR (wK W + 4)]) : QE FA) = some x from hx)
    exact old 1 _ (by decide) (by decide) rfl
  | 2, hx =>
    obtain rfl := Option.some.inj (show some (.inr (0, [vR 3, vR 4, vI (zi 22), vI (zi 23), vI (zi 24), vI (zi 25), vI (zi 26), vI (zi 27), vI (zi 28), vI (zi 29)]) : QE FA) = some x from hx)
    exact c2
  | 3, hx =>
    obtain rfl := Option.some.inj (show some (.inl (.inl (0, 120, u1)) : QE FA) = some x from hx)
    exact c3
  | 4, hx =>
    obtain rfl := Option.some.inj (show some (.inl (.inl (0, 144, u2)) : QE FA) = some x from hx)
    exact c4
  | 5, hx =>
    obtain rfl := Option.some.inj (show some (.inr (3, [vR 6]) : QE FA) = some x from hx)
    exact old 5 _ (by decide) (by decide) rfl
  | 6, hx =>
    obtain rfl := Option.some.inj (show some (.inl (.inl (0, 750, uN)) : QE FA) = some x from hx)
    exact c6
  | 7, hx =>
    obtain rfl := Option.some.inj (show some (.inl (.inr (2, 4, X)) : QE FA) = some x from hx)
    exact c7
  | 8, hx =>
    obtain rfl := Option.some.inj (show some (.inr (1, [vR 2, vR 7, vR 5, vR 9, vR 10, vR 11]) : QE FA) = some x from hx)
    exact old 8 _ (by decide) (by decide) rfl
  | 9, hx =>
    obtain rfl := Option.some.inj (show some (.inl (.inl (0, 10, f 9)) : QE FA) = some x from hx)
    exact old 9 _ (by decide) (by decide) rfl
  | 10, hx =>
    obtain rfl := Option.some.inj (show some (.inl (.inl (0, 32, f 10)) : QE FA) = some x from hx)
    exact old 10 _ (by decide) (by decide) rfl
  | 11, hx =>
    obtain rfl := Option.some.inj (show some (.inl (.inl (0, 100, f 11)) : QE FA) = some x from hx)
    exact old 11 _ (by decide) (by decide) rfl
  | 12, hx =>
    obtain rfl := Option.some.inj (show some (.inr (7, [vR 13, vI (z 122), vI 0]) : QE FA) = some x from hx)
    exact c12
  | 13, hx =>
    obtain rfl := Option.some.inj (show some (.inl (.inr (1, 6, rgW)) : QE FA) = some x from hx)
    exact old 13 _ (by decide) (by decide) rfl
  | 14, hx =>
    obtain rfl := Option.some.inj (show some (.inr (0, [vR 15, vR 16, vI (z 142), vI (z 143), vI (z 144), vI (z 145), vI (z 146), vI (z 147), vI (z 148), vI (z 149)]) : QE FA) = some x from hx)
    exact old 14 _ (by decide) (by decide) rfl
  | 15, hx =>
    obtain rfl := Option.some.inj (show some (.inl (.inl (0, 120, f 15)) : QE FA) = some x from hx)
    exact old 15 _ (by decide) (by decide) rfl
  | 16, hx =>
    obtain rfl := Option.some.inj (show some (.inl (.inl (0, 144, f 16)) : QE FA) = some x from hx)
    exact old 16 _ (by decide) (by decide) rfl
  | 17, hx =>
    obtain rfl := Option.some.inj (show some (.inr (0, [vR 18, vR 19, vI (z 172), vI (z 173), vI (z 174), vI (z 175), vI (z 176), vI (z 177), vI (z 178), vI (z 179)]) : QE FA) = some x from hx)
    exact old 17 _ (by decide) (by decide) rfl
  | 18, hx =>
    obtain rfl := Option.some.inj (show some (.inl (.inl (0, 120, f 18)) : QE FA) = some x from hx)
    exact old 18 _ (by decide) (by decide) rfl
  | 19, hx =>
    obtain rfl := Option.some.inj (show some (.inl (.inl (0, 144, f 19)) : QE FA) = some x from hx)
    exact old 19 _ (by decide) (by decide) rfl
  | 20, hx =>
    obtain rfl := Option.some.inj (show some (.inr (0, [vR 21, vR 22, vI (z 202), vI (z 203), vI (z 204), vI (z 205), vI (z 206), vI (z 207), vI (z 208), vI (z 209)]) : QE FA) = some x from hx)
    exact old 20 _ (by decide) (by decide) rfl
  | 21, hx =>
    obtain rfl := Option.some.inj (show some (.inl (.inl (0, 120, f 21)) : QE FA) = some x from hx)
    exact old 21 _ (by decide) (by decide) rfl
  | 22, hx =>
    obtain rfl := Option.some.inj (show some (.inl (.inl (0, 144, f 22)) : QE FA) = some x from hx)
    exact old 22 _ (by decide) (by decide) rfl
  | 23, hx =>
    obtain rfl := Option.some.inj (show some (.inr (0, [vR 24, vR 25, vI (z 232), vI (z 233), vI (z 234), vI (z 235), vI (z 236), vI (z 237), vI (z 238), vI (z 239)]) : QE FA) = some x from hx)
    exact old 23 _ (by decide) (by decide) rfl
  | 24, hx =>
    obtain rfl := Option.some.inj (show some (.inl (.inl (0, 120, f 24)) : QE FA) = some x from hx)
    exact old 24 _ (by decide) (by decide) rfl
  | 25, hx =>
    obtain rfl := Option.some.inj (show some (.inl (.inl (0, 144, f 25)) : QE FA) = some x from hx)
    exact old 25 _ (by decide) (by decide) rfl
  | 26, hx =>
    obtain rfl := Option.some.inj (show some (.inr (0, [vR 27, vR 28, vI (z 262), vI (z 263), vI (z 264), vI (z 265), vI (z 266), vI (z 267), vI (z 268), vI (z 269)]) : QE FA) = some x from hx)
    exact old 26 _ (by decide) (by decide) rfl
  | 27, hx =>
    obtain rfl := Option.some.inj (show some (.inl (.inl (0, 120, f 27)) : QE FA) = some x from hx)
    exact old 27 _ (by decide) (by decide) rfl
  | 28, hx =>
    obtain rfl := Option.some.inj (show some (.inl (.inl (0, 144, f 28)) : QE FA) = some x from hx)
    exact old 28 _ (by decide) (by decide) rfl
  | 29, hx =>
    obtain rfl := Option.some.inj (show some (.inr (0, [vR 30, vR 31, vI (z 292), vI (z 293), vI (z 294), vI (z 295), vI (z 296), vI (z 297), vI (z 298), vI (z 299)]) : QE FA) = some x from hx)
    exact old 29 _ (by decide) (by decide) rfl
  | 30, hx =>
    obtain rfl := Option.some.inj (show some (.inl (.inl (0, 120, f 30)) : QE FA) = some x from hx)
    exact old 30 _ (by decide) (by decide) rfl
  | 31, hx =>
    obtain rfl := Option.some.inj (show some (.inl (.inl (0, 144, f 31)) : QE FA) = some x from hx)
    exact old 31 _ (by decide) (by decide) rfl
  | 32, hx =>
    obtain rfl := Option.some.inj (show some (.inr (0, [vR 33, vR 34, vI (z 322), vI (z 323), vI (z 324), vI (z 325), vI (z 326), vI (z 327), vI (z 328), vI (z 329)]) : QE FA) = some x from hx)
    exact old 32 _ (by decide) (by decide) rfl
  | 33, hx =>
    obtain rfl := Option.some.inj (show some (.inl (.inl (0, 120, f 33)) : QE FA) = some x from hx)
    exact old 33 _ (by decide) (by decide) rfl
  | 34, hx =>
    obtain rfl := Option.some.inj (show some (.inl (.inl (0, 144, f 34)) : QE FA) = some x from hx)
    exact old 34 _ (by decide) (by decide) rfl
  | 35, hx =>
    obtain rfl := Option.some.inj (show some (.inr (1, [vR 32, vR 7, vN, vR 36, vR 37, vR 38]) : QE FA) = some x from hx)
    exact old 35 _ (by decide) (by decide) rfl
  | 36, hx =>
    obtain rfl := Option.some.inj (show some (.inl (.inl (0, 10, f 36)) : QE FA) = some x from hx)
    exact old 36 _ (by decide) (by decide) rfl
  | 37, hx =>
    obtain rfl := Option.some.inj (show some (.inl (.inl (0, 32, f 37)) : QE FA) = some x from hx)
    exact old 37 _ (by decide) (by decide) rfl
  | 38, hx =>
    obtain rfl := Option.some.inj (show some (.inl (.inl (0, 100, f 38)) : QE FA) = some x from hx)
    exact old 38 _ (by decide) (by decide) rfl
  | 39, hx =>
    obtain rfl := Option.some.inj (show some (.inr (6, [vR 40, vR 41, vI (z 392), vI (z 393)]) : QE FA) = some x from hx)
    exact old 39 _ (by decide) (by decide) rfl
  | 40, hx =>
    obtain rfl := Option.some.inj (show some (.inl (.inl (0, 144, f 40)) : QE FA) = some x from hx)
    exact old 40 _ (by decide) (by decide) rfl
  | 41, hx =>
    obtain rfl := Option.some.inj (show some (.inl (.inl (0, 144, f 41)) : QE FA) = some x from hx)
    exact old 41 _ (by decide) (by decide) rfl
  | j + 42, hx =>
    have hx : (LW W z f)[j + 42]? = some x := hx
    have hi := (List.getElem?_eq_some_iff.mp hx).1
    rw [hR.1] at hi
    refine (fr (j + 42) (fun q => ?_) hi).trans (hR.2.1 (j + 42) x hx)
    have : ∀ a, a ∈ [2, 3, 4, 6, 7, 12] → a < 42 := by decide
    have := this _ q
    omega
theorem im_lay : ∀ e, e ∈ IMT → ∀ j, j < e.2 → posp (e.1, j) < 2439 ∧ layp (posp (e.1, j)) = (e.1, j) := by decide +kernel
theorem im_layz : ∀ q, q ∈ [6, 34, 36, 38] → posp (0, q) < 2439 ∧ layp (posp (0, q)) = (0, q) := by decide
theorem im_off : ∀ p, p < 2439 → (layp p).1 ≠ 8 ∧ (layp p).1 ≠ 9 ∧ ((layp p).1 = 0 → (layp p).2 ∉ [3, 5, 12, 32, 33, 73]) := by decide +kernel
theorem im_e0 : ∀ e, e ∈ IMT → e.1 ≠ 0 ∧ e.1 ≠ 42 := by decide
/-- an image is taken -/
theorem rImg1 (d : Nat) (zr : Nat → Int32) (r : Nat → FA) : ∃ zr' r', mcall (d + 3) 219 [vR 0, vI 1] (LR zr r) = some (some (vI 1), LR zr' r') ∧ (∀ j, j ≠ 0 → j ≠ 72 → j ≠ 73 → j ≠ 74 → zr' j = zr j) ∧ (∀ k, k ≠ 42 → r' k = r k) ∧ ∀ p, p < 2439 → r' 42 p = RDs zr r (layp p) := by
  obtain ⟨z', f', g1, -, -, g2, -⟩ := image_r d (tk := true) (x1 := 1) (z := zr) (f := r) rfl (fun q => absurd rfl q)
  obtain ⟨k1, k2, k3⟩ := g2 rfl
  refine ⟨z', f', g1, fun j j0 j72 j73 j74 => by rw [k1 j j74, uZ_n j74, uZ_n j73, uZ_n j72, uZ_n j0], k2, fun p hp => ?_⟩
  rw [k3 p, if_pos hp]
  have h0 := lay_0z p hp
  generalize layp p = q at *
  obtain ⟨a, c⟩ := q
  by_cases c0 : a = 0
  · subst c0
    obtain ⟨q1, q2, q3, q4⟩ := h0 rfl
    have q1 : c ≠ 0 := q1
    have q2 : c ≠ 72 := q2
    have q3 : c ≠ 73 := q3
    have q4 : c ≠ 74 := q4
    rw [RDs_0, RDs_0, uZ_n q4, uZ_n q3, uZ_n q2, uZ_n q1]
  · rw [RDs_r c0, RDs_r c0]
/-- it is gone back to -/
theorem rImg0 (d : Nat) {zr zri : Nat → Int32} {r ri : Nat → FA} (h73 : ¬ zr 73 = 0) (hg : ∀ p, p < 2439 → r 42 p = RDs zri ri (layp p)) : ∃ zr' r', mcall (d + 3) 219 [vR 0, vI 0] (LR zr r) = some (some (vI 1), LR zr' r') ∧ zr' 3 = 0 ∧ (∀ q, q ∈ [5, 12, 32, 33] → zr' q = zr q) ∧ (∀ q, q ∈ [6, 34, 36, 38] → zr' q = zri q) ∧ (∀ e, e ∈ IMT → ∀ j, j < e.2 → r' e.1 j = ri e.1 j) ∧ r' 8 = r 8 ∧ r' 9 = r 9 ∧ r' 42 = r 42 := by
  obtain ⟨z', f', g1, -, -, -, g2⟩ := image_r d (tk := false) (x1 := 0) (z := zr) (f := r) rfl (fun _ => h73)
  obtain ⟨k1, k2, k3⟩ := g2 rfl
  refine ⟨_, f', g1, uZ_s, fun q hq => ?_, fun q hq => ?_, fun e he j hj => ?_, ?_, ?_, k1⟩
  · have hn : ∀ p, p < 2439 → layp p ≠ (0, q) := fun p hp e => by
      have h3 := (im_off p hp).2.2
      rw [e] at h3
      exact h3 rfl ((show ∀ q, q ∈ [5, 12, 32, 33] → q ∈ [3, 5, 12, 32, 33, 73] by decide) q hq)
    have q0 : ∀ q, q ∈ [5, 12, 32, 33] → q ≠ 0 ∧ q ≠ 3 ∧ q ≠ 72 ∧ q ≠ 73 ∧ q ≠ 74 := by decide
    obtain ⟨q0, q3, q72, q73, q74⟩ := q0 q hq
    have e := k3 (0, q) (show (0 : Nat) ≠ 42 by decide) (fun w => q74 (Prod.mk.inj w).2) hn
    have e : z' q = (uZ (uZ (uZ (uZ zr 0 0) 72 0) 73 1) 74 0) q := e
    show uZ z' 3 0 q = _
    rw [uZ_n q3, e, uZ_n q74, uZ_n q73, uZ_n q72, uZ_n q0]
  · obtain ⟨p1, p2⟩ := im_layz q hq
    have e := (k2 _ p1).trans (hg _ p1)
    rw [p2, RDs_0, RDs_0] at e
    show uZ z' 3 0 q = _
    rw [uZ_n ((show ∀ q, q ∈ [6, 34, 36, 38] → q ≠ 3 by decide) q hq)]
    exact e
  · obtain ⟨p1, p2⟩ := im_lay e he j hj
    have q := (k2 _ p1).trans (hg _ p1)
    rw [p2, RDs_r (im_e0 e he).1, RDs_r (im_e0 e he).1] at q
    exact q
  · funext j
    have q := k3 (8, j) (show (8 : Nat) ≠ 42 by decide) (fun w => absurd (Prod.mk.inj w).1 (by decide)) (fun p hp e => by
      have h3 := (im_off p hp).1
      rw [e] at h3
      exact h3 rfl)
    exact q
  · funext j
    have q := k3 (9, j) (show (9 : Nat) ≠ 42 by decide) (fun w => absurd (Prod.mk.inj w).1 (by decide)) (fun p hp e => by
      have h3 := (im_off p hp).2.1
      rw [e] at h3
      exact h3 rfl)
    exact q
theorem rImgN (d : Nat) {zr : Nat → Int32} {r : Nat → FA} (h73 : zr 73 = 0) : mcall (d + 3) 219 [vR 0, vI 0] (LR zr r) = some (some (vI 0), LR (uZ zr 0 0) r) := mcall_i (mq219 (cu := [])).2.2 rfl (vc219_0 _ _ _ _ _ _ ⟨fun q => absurd rfl q, fun _ => ⟨fun q => absurd h73 q, fun _ => rfl⟩⟩)
/-- the reference's image, behind the class's -/
theorem ref_image (l : Launch) (G : PG) {lam lb : Nat → Nat} {b' nc nm : Nat} {h : PH} {W : TXW} {z zr zr' : Nat → Int32} {f r r' : Nat → FA} {x : Int32} (hb' : b' = 0 ∨ b' = 1) (hl : LAMC lam) (h103 : ∀ k, k < 103 → lam k = nc + k) (hTB : HOK lam [] (TBc b') h) (hM : HOK (lamM nm) [] TRf h) (hX : EXR (lamM nm) h) (hd : ∀ k j, j < 43 → lam k ≠ nm + j) (hW : WLD lb W z f zr r nc nm h) (hx : x = 0 ∨ x = 1) (hT : TPE nc zr r h) (hr : mcall 3 219 [vR 0, vI x] (LR zr r) = some (some (vI (nI b')), LR zr' r')) (e12 : zr' 12 = zr 12) (e32 : zr' 32 = zr 32) (e33 : zr' 33 = zr 33) (e8 : r' 8 = r 8) (hC : CRE W z f zr' r') (hK : IMA b' lb W nc (r' 42) h) (hZ : TWZ W zr') : ∃ Φ1, PMet l G (mY 219) (mC 219) (mN 219) (mR 219) 3 0 0 [vR nm, vI x] h Φ1 ∧ ∀ r1 h1, Φ1 r1 h1 → r1 = some (vI (nI b')) ∧ LIY PCW nc nm h1 := by
  obtain ⟨hL, hRw, hQ⟩ := hW
  obtain ⟨rv, z2, f2, c2, b1, b2, b3, b4, b5, -⟩ := image_x 0 x hx (BNDz_of hM hQ) (BNDf_of hM hQ) (EXR_F hX hQ)
  have eq := Option.some.inj (hr.symm.trans c2)
  have eL : LR zr' r' = LR z2 f2 := congrArg (fun p => p.2) eq
  have eV : rv = nI b' := by
    have q : some (vI (nI b')) = some (vI rv) := congrArg (fun p => p.1) eq
    injection q with q
    injection q with q
    exact q.symm
  refine ⟨_, pm_of (lamM_i nm) hr hQ (l := l) (G := G), ?_⟩
  rintro r1 h1 ⟨rfl, w⟩
  have w2 : Rep rdF h (lamM nm) 43 (LR z2 f2) h1 := by rw [← eL]; exact w
  have s : ∀ a, (∀ j, j < 43 → a ≠ nm + j) → h1[a]? = h[a]? := fun a ha => w.2.2.2 a ha
  have e73 : z2 73 = nI b' := b5.trans eV
  exact ⟨rfl, lam, b', ⟨hb', hl, h103, hTB.same (fun k _ => s _ (fun j hj => hd k j hj)), HOK_of w2 b1 b2, EXR_R b3 w2, by rw [← e73]; exact F73_R w2, hd⟩, lb, W, z, f, zr', r', ⟨hL, hRw.same (fun k hk => s _ (fun j hj e => hL.nm h103 hd k hk j hj e.symm)), w.same (fun _ _ => rfl)⟩, hC, hT.tr e12 e32 e33 e8 (fun k hk => s _ (fun j hj => tp_nm h103 hd k hk j hj)), hK.tr (fun q hq => s _ (fun j hj => im_nm h103 hd q hq j hj)) (fun _ _ => rfl), hZ⟩
theorem CI1_r {k : Nat} (h : CI1 k) : k = 0 ∨ (31 ≤ k ∧ k < 59) := by
  rcases h with rfl | rfl | rfl | rfl | rfl | rfl | ⟨i, hi, rfl | rfl⟩ <;> omega
theorem CI0_r {k : Nat} (h : CI0 k) : k = 59 ∨ k = 2 ∨ k = 3 ∨ k = 4 ∨ k = 6 ∨ k = 7 ∨ (12 ≤ k ∧ k < 30) := by
  rcases h with rfl | rfl | rfl | rfl | rfl | rfl | ⟨i, hi, rfl | rfl⟩ <;> omega
