/-! the tape's pairs: feed, end, fault between two rounds -/
def lbM (lb : Nat → Nat) (nc K : Nat) : Nat → Nat := fun i => if i = 0 then nc else if i = 1 then nc + 79 else if i = 2 then nc + 80 else if i = 11 then nc + 81 else if i = 12 then nc + 82 else if i = 20 then lb 1 else if i = 21 then lb K else if i = 22 then lb 12 else if i = 23 then lb 32 else if i = 24 then lb 8 else if i = 25 then lb 35 else if i = 26 then lb 39 else if i = 27 then lb (K + 2) else lb (K + 3)
def zTp (z zp : Nat → Int32) : Nat → Int32 := fun j => if j = 0 then z 0 else zp (j - 10)
def fTp (fp : Nat → FA) : Nat → FA := fun k => fp (k - 1)
theorem lbM_i (lb : Nat → Nat) (nc K : Nat) : LbI (lbM lb nc K) 3 := by
  intro i hi j hj e
  have v : ∀ i, i < 3 → lbM lb nc K i = nc + (if i = 0 then 0 else if i = 1 then 79 else 80) := fun i hi => by
    rcases (show i = 0 ∨ i = 1 ∨ i = 2 by omega) with rfl | rfl | rfl <;> rfl
  rw [v i hi, v j hj] at e
  rcases (show i = 0 ∨ i = 1 ∨ i = 2 by omega) with rfl | rfl | rfl <;> rcases (show j = 0 ∨ j = 1 ∨ j = 2 by omega) with rfl | rfl | rfl <;> first | rfl | (simp at e)
theorem RepM {W : TXW} {z zp : Nat → Int32} {f fp : Nat → FA} {lb : Nat → Nat} {nc : Nat} {h : PH} (b0 : lb 0 = nc) (bR : lb (wK W + 1) = nc + 79) (hRw : Rep rdF h lb (42 + (wL W).length) (LW W z f) h) (hRp : Rep rdF h (fun k => nc + (79 + k)) 4 (LPr zp fp) h) : Rep rdF h (lbM lb nc (wK W)) 3 (LM3 (zTp z zp) (fTp fp)) h := by
  have q0 := hRw.2.1 0 _ rfl
  have q1 := hRp.2.1 0 _ rfl
  have q2 := hRp.2.1 1 _ rfl
  refine ⟨rfl, fun i x hx => ?_, rfl, fun _ _ => rfl⟩
  match i, hx with
  | 0, hx =>
    cases hx
    rw [b0] at q0
    refine Eq.trans q0 ?_
    show some (eO 11 [vR (lb 1), vR (lb (wK W)), vI (z 0), vR (lb 12), vR (lb (wK W + 1)), vR (lb 32), vR (lb 8), vR (lb 35), vR (lb 39), vR (lb (wK W + 2)), vR (lb (wK W + 3))]) = some (eO 11 [vR (lb 1), vR (lb (wK W)), vI (z 0), vR (lb 12), vR (nc + 79), vR (lb 32), vR (lb 8), vR (lb 35), vR (lb 39), vR (lb (wK W + 2)), vR (lb (wK W + 3))])
    rw [bR]
  | 1, hx =>
    cases hx
    exact q1
  | 2, hx =>
    cases hx
    exact q2
  | n + 3, hx => cases hx
/-- where class and reference each run over the tape alone -/
theorem tape_pair (l : Launch) (G : PG) {nc nm : Nat} {h : PH} (hI : LIY PCW nc nm h) {sc sr : SU} {dc dr : Nat} (hdc : sc.2.1 ≤ dc) (hdr : sr.2.1 ≤ dr) (hSc : ∀ lam, LAMC lam → SUOK lam TCl EXT l G sc) (hSr : SUOK (lamM nm) TRf (EXR (lamM nm)) l G sr) {As : List Int32}
    (sim : ∀ (n : Nat) (z zr : Nat → Int32) (f r : Nat → FA), n ≤ 400 → z 11 = nI n → zr 12 = nI n → (∀ j, j < n → f 2 j = r 8 j ∧ ¬ r 8 j = -1) → z 17 = zr 32 → z 18 = zr 33 → ∃ v n' z' f' zr' r', n' ≤ 400 ∧ mcall dc sc.1 (vR 0 :: As.map vI) (LM3 z f) = some (some (vI v), LM3 z' f') ∧ mcall dr sr.1 (vR 0 :: As.map vI) (LR zr r) = some (some (vI v), LR zr' r') ∧ z' 11 = nI n' ∧ zr' 12 = nI n' ∧ (∀ j, j < n' → f' 2 j = r' 8 j ∧ ¬ r' 8 j = -1) ∧ (∀ j, j ≠ 11 → z' j = z j) ∧ (∀ j, j ≠ 0 → j ≠ 12 → zr' j = zr j) ∧ ∀ k, k ≠ 8 → r' k = r k)
    (ec : sc.2.2.2.2.all (fun e => !(e.1 == 0 && e.2 == 2)) = true) (er : sr.2.2.2.2.all (fun e => wrR e.1 && !(e.1 == 0 && e.2 == 73)) = true)
    (aC : ∀ lam : Nat → Nat, lam 0 = nc → R2 (vRel lam []) sc.2.2.1 (vR nc :: As.map vI)) (aR : R2 (vRel (lamM nm) []) sr.2.2.1 (vR nm :: As.map vI)) : PRY PCW l G nc nm h sc.1 dc sr.1 dr (As.map vI) := by
  obtain ⟨lam, b, hB, lb, W, z, f, zr, r, ⟨hL, hRw, hQ⟩, hC, ⟨zp, fp, tn, hRp, t1, t2, t3, t4, t5, t6⟩, hK, hZ⟩ := hI
  have h103 := hB.2.2.1
  have hd := hB.2.2.2.2.2.2.2
  have b0 : lb 0 = nc := hL.2.1 0 (by decide)
  have hRm := RepM b0 (hL.2.2.1 1 (by decide)) hRw hRp
  obtain ⟨v, n', z', f', zr', r', s1, s2, s3, s4, s5, s6, s7, s8, s9⟩ := sim tn (zTp z zp) zr (fTp fp) r t1 t2 t3 t4 t5 t6
  have vM : ∀ i, i < 3 → lbM lb nc (wK W) i = nc + (if i = 0 then 0 else if i = 1 then 79 else 80) := fun i hi => by
    rcases (show i = 0 ∨ i = 1 ∨ i = 2 by omega) with rfl | rfl | rfl <;> rfl
  have hnm : ∀ k, k < 3 → ∀ j, j < 43 → nm + j ≠ lbM lb nc (wK W) k := fun k hk j hj => by
    rw [vM k hk, ← h103 _ (by rcases (show k = 0 ∨ k = 1 ∨ k = 2 by omega) with rfl | rfl | rfl <;> decide)]
    exact fun e => hd _ j hj e.symm
  have p2 := mcall_ok (lbM_i lb nc (wK W)) dc sc.1 _ _ _ _ s2 h hRm (l := l) (G := G)
  have eA : (vR 0 :: As.map vI).map (sv (lbM lb nc (wK W))) = vR nc :: As.map vI := by
    show vR nc :: (As.map vI).map (sv _) = _
    rw [List.map_map]
    rfl
  rw [eA] at p2
  refine x_pair l G hB hRm hQ (LM3_sh _ _ _ _) hnm hdc hdr (hSc lam hB.2.1) hSr p2 s3 (fun k hk => s9 k (by intro e; rw [e] at hk; revert hk; decide)) (s8 73 (by decide) (by decide)) ec er (aC lam (h103 0 (by decide))) aR (fun h' _ q2 q3 q4 => ?_)
  have ne : ∀ k, k < 42 + (wL W).length → k ≠ 0 → ∀ i, i < 3 → lb k ≠ lbM lb nc (wK W) i := fun k hk k0 i hi e => by
    rcases (show i = 0 ∨ i = 1 ∨ i = 2 by omega) with rfl | rfl | rfl
    · exact k0 (hL.1 k hk 0 (by omega) (e.trans b0.symm))
    · exact hL.tp k hk 0 (by decide) e.symm
    · exact hL.tp k hk 1 (by decide) e.symm
  have keep : ∀ k, k < 42 + (wL W).length → h'[lb k]? = h[lb k]? := fun k hk => by
    by_cases k0 : k = 0
    · subst k0
      have e1 := q2.2.1 0 _ rfl
      have e0 := hRm.2.1 0 _ rfl
      have z0 : z' 0 = zTp z zp 0 := s7 0 (by decide)
      rw [b0]
      refine Eq.trans e1 (Eq.trans ?_ e0.symm)
      show some (eO 11 [vR (lb 1), vR (lb (wK W)), vI (z' 0), vR (lb 12), vR (nc + 79), vR (lb 32), vR (lb 8), vR (lb 35), vR (lb 39), vR (lb (wK W + 2)), vR (lb (wK W + 3))]) = some (eO 11 [vR (lb 1), vR (lb (wK W)), vI (zTp z zp 0), vR (lb 12), vR (nc + 79), vR (lb 32), vR (lb 8), vR (lb 35), vR (lb 39), vR (lb (wK W + 2)), vR (lb (wK W + 3))])
      rw [z0]
    · exact q4 _ (fun i hi => ne k hk k0 i hi) (fun j hj e => hL.nm h103 hd k hk j hj e.symm)
  have tp : ∀ k, 2 ≤ k → k < 4 → h'[nc + (79 + k)]? = h[nc + (79 + k)]? := fun k k2 k4 => q4 _ (fun i hi => by
    rw [vM i hi]
    rcases (show i = 0 ∨ i = 1 ∨ i = 2 by omega) with rfl | rfl | rfl
    · show nc + (79 + k) ≠ nc + 0; omega
    · show nc + (79 + k) ≠ nc + 79; omega
    · show nc + (79 + k) ≠ nc + 80; omega) (fun j hj => tp_nm h103 hd k k4 j hj)
  refine ⟨lb, W, z, f, zr', r', ⟨hL, hRw.same keep, q3⟩, hC.same (fun j hj => s8 j (by intro e; rw [e] at hj; revert hj; decide) (by intro e; rw [e] at hj; revert hj; decide)) (fun k hk => s9 k (by intro e; rw [e] at hk; revert hk; decide)), ⟨fun j => z' (10 + j), fun k => if k = 1 then f' 2 else fp k, n', ⟨rfl, fun i x hx => ?_, rfl, fun _ _ => rfl⟩, s1, s4, s5, s6, (s7 17 (by decide)).trans (t5.trans (s8 32 (by decide) (by decide)).symm), (s7 18 (by decide)).trans (t6.trans (s8 33 (by decide) (by decide)).symm)⟩, hK.tr (fun q hq => q4 _ (fun i hi => ?_) (fun j hj => im_nm h103 hd q hq j hj)) (fun p _ => by rw [s9 42 (by decide)]), hZ.le (s8 38 (by decide) (by decide)) (by rw [s8 6 (by decide) (by decide)]; exact Int.le_refl _)⟩
  · match i, hx with
    | 0, hx =>
      cases hx
      exact q2.2.1 1 _ rfl
    | 1, hx =>
      cases hx
      exact q2.2.1 2 _ rfl
    | 2, hx =>
      cases hx
      exact (tp 2 (by decide) (by decide)).trans (hRp.2.1 2 _ rfl)
    | 3, hx =>
      cases hx
      exact (tp 3 (by decide) (by decide)).trans (hRp.2.1 3 _ rfl)
    | n + 4, hx => cases hx
  · rw [vM i hi]
    have := im_tp q hq
    rcases (show i = 0 ∨ i = 1 ∨ i = 2 by omega) with rfl | rfl | rfl
    · show nc + q ≠ nc + 0; omega
    · show nc + q ≠ nc + 79; omega
    · show nc + q ≠ nc + 80; omega
