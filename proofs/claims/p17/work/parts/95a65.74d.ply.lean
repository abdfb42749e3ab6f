/-! what holds between two rounds of the core, and a pair of calls of the play -/
def CRE (W : TXW) (z : Nat → Int32) (f : Nat → FA) (zr : Nat → Int32) (r : Nat → FA) : Prop := ∃ (L : LAW) (n nv nw ns nt c : Nat), WTX W ∧ WTL W ∧ LWC W 0 L n ∧ LOK L n ∧ WR W L n nv nw ns z f zr r ∧ RGA c c c nv z f zr r ∧ TWR W nt (r 20) ∧ pxY (r 9) 0 pxV = true
/-- the tape on both sides, and what was found at fault -/
def TPE (nc : Nat) (zr : Nat → Int32) (r : Nat → FA) (h : PH) : Prop := ∃ (zp : Nat → Int32) (fp : Nat → FA) (tn : Nat), Rep rdF h (fun k => nc + (79 + k)) 4 (LPr zp fp) h ∧ tn ≤ 400 ∧ zp 1 = nI tn ∧ zr 12 = nI tn ∧ (∀ j, j < tn → fp 1 j = r 8 j ∧ ¬ r 8 j = -1) ∧ zp 7 = zr 32 ∧ zp 8 = zr 33
/-- a canton's cell -/
def cnE (t m : Nat) (y : Nat → Int32) : PE := eO 0 [vR t, vR m, vI (y 2), vI (y 3), vI (y 4), vI (y 5), vI (y 6), vI (y 7), vI (y 8), vI (y 9)]
/-- of the twins: how many lines the reference counts, and whose they are -/
def TWZ (W : TXW) (zr : Nat → Int32) : Prop := zr 38 = wn W 3 ∧ ∃ m n : Nat, m ≤ 20 ∧ (m : Int) ≤ I (zr 6) ∧ wn W 3 = nI n ∧ n ≤ 16 ∧ ∀ i : Nat, i < n → ∃ a b : Nat, a < m ∧ b < m ∧ wg W 3 (5 * i) = nI a ∧ wg W 3 (5 * i + 1) = nI b
theorem TWZ.le {W : TXW} {zr zr' : Nat → Int32} (h : TWZ W zr) (e38 : zr' 38 = zr 38) (h6 : I (zr 6) ≤ I (zr' 6)) : TWZ W zr' := by
  obtain ⟨h1, m, n, h2, h3, h4⟩ := h
  exact ⟨e38.trans h1, m, n, h2, Int.le_trans h3 h6, h4⟩
/-- the image, a second world over the same texts: on the class's side, on the reference's, and both together -/
def IMC (lb : Nat → Nat) (nc : Nat) (Wi : TXW) (zi : Nat → Int32) (fi : Nat → FA) (h : PH) : Prop := h[nc + 31]? = some (cnE (nc + 32) (nc + 33) (fun i => zi (20 + i))) ∧ h[nc + 32]? = some (eI 120 (fi 3)) ∧ h[nc + 33]? = some (eI 144 (fi 4)) ∧ h[nc + 35]? = some (eI 750 (fi 6)) ∧ h[nc + 36]? = some (eR 2 4 (fun j => (wX Wi j).map lb))
def IMW (W : TXW) (z : Nat → Int32) (f : Nat → FA) (zr : Nat → Int32) (r : Nat → FA) : Prop := ∃ (L : LAW) (n nv nw ns nt : Nat), WTX W ∧ WTL W ∧ LWC W 0 L n ∧ LOK L n ∧ WR W L n nv nw ns z f zr r ∧ TWR W nt (r 20) ∧ TWZ W zr
def IMK (lb : Nat → Nat) (W : TXW) (nc : Nat) (g : FA) (h : PH) : Prop := ∃ Wi zi fi zri ri, wL Wi = wL W ∧ IMC lb nc Wi zi fi h ∧ (∀ p, p < 2439 → g p = RDs zri ri (layp p)) ∧ IMW Wi zi fi zri ri
def IMA (b : Nat) (lb : Nat → Nat) (W : TXW) (nc : Nat) (g : FA) (h : PH) : Prop := (∃ w, h[nc + 36]? = some (eR 2 4 w) ∧ ∀ j, 4 ≤ j → w j = none) ∧ (b = 1 → IMK lb W nc g h)
def imL : List Nat := [31, 32, 33, 35, 36]
theorem IMA.tr {b nc : Nat} {lb : Nat → Nat} {W : TXW} {g g' : FA} {h h' : PH} (hI : IMA b lb W nc g h) (fr : ∀ q, q ∈ imL → h'[nc + q]? = h[nc + q]?) (hg : ∀ p, p < 2439 → g' p = g p) : IMA b lb W nc g' h' := by
  obtain ⟨⟨w, h1, h2⟩, h3⟩ := hI
  refine ⟨⟨w, (fr 36 (by decide)).trans h1, h2⟩, fun e => ?_⟩
  obtain ⟨Wi, zi, fi, zri, ri, k1, ⟨k2, k3, k4, k5, k6⟩, k7, k8⟩ := h3 e
  exact ⟨Wi, zi, fi, zri, ri, k1, ⟨(fr 31 (by decide)).trans k2, (fr 32 (by decide)).trans k3, (fr 33 (by decide)).trans k4, (fr 35 (by decide)).trans k5, (fr 36 (by decide)).trans k6⟩, fun p hp => (hg p hp).trans (k7 p hp), k8⟩
theorem LBW.im {lb : Nat → Nat} {nc nm n : Nat} (h : LBW lb nc nm n) : ∀ k, k < 42 + n → ∀ q, q ∈ imL → nc + q ≠ lb k := by
  intro k hk q hq e
  by_cases c : k < 42
  · rw [h.2.1 k c] at e
    exact (show ∀ i, i < 42 → ∀ q, q ∈ imL → tcW i ≠ q by decide) k c q hq (by omega)
  · exact (h.2.2.2 k (by omega) hk).1 q ((show ∀ q, q ∈ imL → wrC q = true by decide) q hq) e.symm
theorem im_nm {lam : Nat → Nat} {nc nm : Nat} (h103 : ∀ k, k < 103 → lam k = nc + k) (hd : ∀ k j, j < 43 → lam k ≠ nm + j) : ∀ q, q ∈ imL → ∀ j, j < 43 → nc + q ≠ nm + j := fun q hq j hj => by
  rw [← h103 q ((show ∀ q, q ∈ imL → q < 103 by decide) q hq)]
  exact hd _ j hj
theorem im_tp : ∀ q, q ∈ imL → q < 79 ∧ 0 < q := by decide
def PCW (b nc nm : Nat) (h : PH) : Prop := ∃ lb W z f zr r, WLD lb W z f zr r nc nm h ∧ CRE W z f zr r ∧ TPE nc zr r h ∧ IMA b lb W nc (r 42) h ∧ TWZ W zr
theorem TPE.tr {nc : Nat} {zr zr' : Nat → Int32} {r r' : Nat → FA} {h h' : PH} (hT : TPE nc zr r h) (e12 : zr' 12 = zr 12) (e32 : zr' 32 = zr 32) (e33 : zr' 33 = zr 33) (e8 : r' 8 = r 8) (fr : ∀ k, k < 4 → h'[nc + (79 + k)]? = h[nc + (79 + k)]?) : TPE nc zr' r' h' := by
  obtain ⟨zp, fp, tn, h1, h2, h3, h4, h5, h6, h7⟩ := hT
  exact ⟨zp, fp, tn, h1.same fr, h2, h3, e12.trans h4, fun j hj => by rw [e8]; exact h5 j hj, h6.trans e32.symm, h7.trans e33.symm⟩
theorem tcW_ne : ∀ i, i < 42 → ∀ k, k < 4 → tcW i ≠ 79 + k := by decide
/-- the reader's places aren't the world's -/
theorem LBW.tp {lb : Nat → Nat} {nc nm n : Nat} (h : LBW lb nc nm n) : ∀ k, k < 42 + n → ∀ j, j < 4 → nc + (79 + j) ≠ lb k := by
  intro k hk j hj e
  by_cases c : k < 42
  · rw [h.2.1 k c] at e
    exact tcW_ne k c j hj (by omega)
  · exact (h.2.2.2 k (by omega) hk).1 (79 + j) ((show ∀ j, j < 4 → wrC (79 + j) = true by decide) j hj) e.symm
theorem tp_nm {lam : Nat → Nat} {nc nm : Nat} (h103 : ∀ k, k < 103 → lam k = nc + k) (hd : ∀ k j, j < 43 → lam k ≠ nm + j) : ∀ k, k < 4 → ∀ j, j < 43 → nc + (79 + k) ≠ nm + j := fun k hk j hj => by
  rw [← h103 (79 + k) (by omega)]
  exact hd _ j hj
theorem XR_hf : ∀ k, k ∈ XR → k ∉ [1, 2, 3, 4, 5, 6, 7, 21, 22] := by decide
/-- what play_pair wants of two runs -/
def PSIM (dc kc dr kr : Nat) (As : List Int32) : Prop := ∀ (W : TXW) (L : LAW) (n nv nw ns nt c : Nat) (z zr : Nat → Int32) (f r : Nat → FA), BNDf r → WTX W → LWC W 0 L n → LOK L n → WR W L n nv nw ns z f zr r → RGA c c c nv z f zr r → TWR W nt (r 20) → ∃ v z' f' zr' r' c' nv', xcall dc kc (vR 0 :: As.map vI) (LW W z f) = some (some (vI v), LW W z' f') ∧ mcall dr kr (vR 0 :: As.map vI) (LR zr r) = some (some (vI v), LR zr' r') ∧ WR W L n nv' nw ns z' f' zr' r' ∧ RGA c' c' c' nv' z' f' zr' r' ∧ (∀ j, j ≠ 0 → j ≠ 3 → j ≠ 6 → zr' j = zr j) ∧ (∀ k, k ∉ [1, 2, 3, 4, 5, 6, 7, 21, 22] → r' k = r k) ∧ nv ≤ nv'
theorem play_pair (l : Launch) (G : PG) {nc nm : Nat} {h : PH} (hI : LIY PCW nc nm h) {sc sr : SU} {dc dr : Nat} (hdc : sc.2.1 ≤ dc) (hdr : sr.2.1 ≤ dr) (hSc : ∀ lam, LAMC lam → SUOK lam TCl EXT l G sc) (hSr : SUOK (lamM nm) TRf (EXR (lamM nm)) l G sr) {As : List Int32} (sim : PSIM dc sc.1 dr sr.1 As)
    (ec : sc.2.2.2.2.all (fun e => !(e.1 == 0 && e.2 == 2)) = true) (er : sr.2.2.2.2.all (fun e => wrR e.1 && !(e.1 == 0 && e.2 == 73)) = true)
    (aC : ∀ lam : Nat → Nat, lam 0 = nc → R2 (vRel lam []) sc.2.2.1 (vR nc :: As.map vI)) (aR : R2 (vRel (lamM nm) []) sr.2.2.1 (vR nm :: As.map vI)) : PRY PCW l G nc nm h sc.1 dc sr.1 dr (As.map vI) := by
  obtain ⟨lam, b, hB, lb, W, z, f, zr, r, hW, ⟨L, n, nv, nw, ns, nt, c, k1, k2, k3, k4, k5, k6, k7, k8⟩, hT, hK, hZ⟩ := hI
  obtain ⟨v, z', f', zr', r', c', nv', x1, x2, x3, x4, x5, x6, x7⟩ := sim W L n nv nw ns nt c z zr f r (BNDf_of hB.2.2.2.2.1 hW.2.2) k1 k3 k4 k5 k6 k7
  refine w_pair l G hB hW hdc hdr (hSc lam hB.2.1) hSr x1 x2 (fun k hk => x6 k (XR_hf k hk)) (x5 73 (by decide) (by decide) (by decide)) ec er (aC lam (hB.2.2.1 0 (by decide))) aR (fun h' _ q2 q3 => ?_)
  refine ⟨lb, W, z', f', zr', r', q2, ⟨L, n, nv', nw, ns, nt, c', k1, k2, k3, k4, x3, x4, by rw [x6 20 (by decide)]; exact k7, by rw [x6 9 (by decide)]; exact k8⟩, hT.tr (x5 12 (by decide) (by decide) (by decide)) (x5 32 (by decide) (by decide) (by decide)) (x5 33 (by decide) (by decide) (by decide)) (x6 8 (by decide)) (fun k hk => q3 _ (fun i hi => hW.1.tp i hi k hk) (fun j hj => tp_nm hB.2.2.1 hB.2.2.2.2.2.2.2 k hk j hj)), hK.tr (fun k hk => q3 _ (fun i hi => hW.1.im i hi k hk) (fun j hj => im_nm hB.2.2.1 hB.2.2.2.2.2.2.2 k hk j hj)) (fun p _ => by rw [x6 42 (by decide)]), hZ.le (x5 38 (by decide) (by decide) (by decide)) (by
    have a1 : nv' ≤ 20 := x3.1.1.1
    rw [k5.2.2.2.2, x3.2.2.2.2, I_nI (by omega), I_nI (by omega)]
    omega)⟩
