/-! the pair of images, over the told lists -/
/-- what a copy says of counts and rows -/
theorem CPD.read {B B' nc N i : Nat} {lam : Nat → Nat} {h h' h2 : PH} {z : Nat → Int32} {f : Nat → FA} (h103 : ∀ k, k < 103 → lam k = nc + k) (hN : N = rmT i) (hi : i < 9) (hC : CPD N (lam (B + 2 * i)) (lam (B + 1 + 2 * i)) (lam (B' + 2 * i)) (lam (B' + 1 + 2 * i)) h h2) (hB : B ≤ 41) (hB' : B' ≤ 41) (h1 : CT B nc h z f) (hE : EQV h' h2) {x : PV} {y : Int32} {g : FA} (a1 : h'[nc + (B' + 2 * i)]? = some (eO 9 [x, vI y])) (a2 : h'[nc + (B' + 1 + 2 * i)]? = some (eI (rmT i) g)) : y = z i ∧ ∀ m, m ≤ rmT i → z i = nI m → ∀ j, j < m → g j = f i j := by
  obtain ⟨n, gg, ff, k1, k2, k3, ⟨fs, k4, k5⟩, k6, k7⟩ := hC
  rw [h103 _ (by omega)] at k2 k3 k4 k6
  subst hN
  have e1 : z i = nI n := FLD.inj (h1 i hi).1 k2
  have e2 : f i = gg := (row_eq (h1 i hi).2 k3).2
  have e3 : y = nI n := hE.2 _ _ _ _ 1 _ _ (RX9, TX9, 2) a1 k4 rfl (by decide) rfl k5
  have e4 := (hE.1 _ _ _ _ _ a2 k6).2
  have hr := rmT_le i hi
  refine ⟨e3.trans e1.symm, fun m hm hz j hj => ?_⟩
  have en : m = n := nI_inj (by omega) (by omega) (hz.symm.trans e1)
  subst en
  rw [e4 j (by omega), k7 j hj, e2]
theorem CT_of {B nc : Nat} {h : PH} (hr : ∀ i, i < 9 → ∃ x y g, h[nc + (B + 2 * i)]? = some (eO 9 [x, vI y]) ∧ h[nc + (B + 1 + 2 * i)]? = some (eI (rmT i) g)) : ∃ z f, CT B nc h z f ∧ ∀ i, i < 9 → ∃ x, h[nc + (B + 2 * i)]? = some (eO 9 [x, vI (z i)]) := by
  have h1 : ∀ i, ∃ q : Int32 × FA, i < 9 → ∃ x, h[nc + (B + 2 * i)]? = some (eO 9 [x, vI q.1]) ∧ h[nc + (B + 1 + 2 * i)]? = some (eI (rmT i) q.2) := by
    intro i
    by_cases hi : i < 9
    · obtain ⟨x, y, g, a, b⟩ := hr i hi
      exact ⟨(y, g), fun _ => ⟨x, a, b⟩⟩
    · exact ⟨(0, fun _ => 0), fun q => absurd q hi⟩
  obtain ⟨F, hF⟩ := Classical.axiomOfChoice h1
  refine ⟨fun i => (F i).1, fun i => (F i).2, fun i hi => ?_, fun i hi => ?_⟩
  · obtain ⟨x, a, b⟩ := hF i hi
    exact ⟨FLD_o a rfl, b⟩
  · obtain ⟨x, a, -⟩ := hF i hi
    exact ⟨x, a⟩
theorem lay_0z : ∀ p, p < 2439 → (layp p).1 = 0 → (layp p).2 ≠ 0 ∧ (layp p).2 ≠ 72 ∧ (layp p).2 ≠ 73 ∧ (layp p).2 ≠ 74 := by decide +kernel
/-- the lists' cells are there -/
theorem RL_b {lam : Nat → Nat} {b nc : Nat} {h : PH} (hb : b ≤ 1) (h103 : ∀ k, k < 103 → lam k = nc + k) (hC : HOK lam [] (TBc b) h) : (∀ i, i < 9 → ∃ x y g, h[nc + (12 + 2 * i)]? = some (eO 9 [x, vI y]) ∧ h[nc + (12 + 1 + 2 * i)]? = some (eI (rmT i) g)) ∧ ∀ i, i < 9 → ∃ x y g, h[nc + (41 + 2 * i)]? = some (eO 9 [x, vI y]) ∧ h[nc + (41 + 1 + 2 * i)]? = some (eI (rmT i) g) := by
  have hH := TB_TC hb hC
  refine ⟨fun i hi => ?_, fun i hi => ?_⟩
  · obtain ⟨n, f, h1, h2, h3⟩ := RL_now hH i hi
    rw [h103 (12 + 2 * i) (by omega)] at h2
    rw [h103 (13 + 2 * i) (by omega)] at h3
    exact ⟨_, _, f, h2, by rw [show nc + (12 + 1 + 2 * i) = nc + (13 + 2 * i) by omega]; exact h3⟩
  · obtain ⟨n, f, h1, h2, h3⟩ := RL_img hH i hi
    rw [h103 (41 + 2 * i) (by omega)] at h2
    rw [h103 (42 + 2 * i) (by omega)] at h3
    exact ⟨_, _, f, h2, by rw [show nc + (41 + 1 + 2 * i) = nc + (42 + 2 * i) by omega]; exact h3⟩
/-- the reference's image beside the class's, exactly -/
theorem img_ex (l : Launch) (G : PG) {lam : Nat → Nat} {b b' nc nm : Nat} {h' : PH} (hb : b = 0 ∨ b = 1) (hb' : b' = 0 ∨ b' = 1) (hl : LAMC lam) (h103 : ∀ k, k < 103 → lam k = nc + k) (hC : HOK lam [] (TBc b') h') (hM : HOK (lamM nm) [] TRf h') (hX : EXR (lamM nm) h') (h73 : FLD h' nm 73 (nI b)) (hd : ∀ k j, j < 43 → lam k ≠ nm + j) (tk : Bool) (hbb : b' = 0 ↔ (bif tk then (1 : Int32) else 0) = 0 ∧ b = 0) (h1b : b' = 1) :
    ∃ Φ1, PMet l G (mY 219) (mC 219) (mN 219) (mR 219) 3 0 0 [vR nm, vI (bif tk then 1 else 0)] h' Φ1 ∧ ∀ r1 h1, Φ1 r1 h1 → r1 = some (vI (nI b')) ∧ LIB lam b' nc nm h1 ∧ (∀ k, k < 103 → ∀ j, KPT h' h1 (nc + k) j) ∧ ∃ z f zr fr, Rep rdF h' (lamM nm) 43 (LR z f) h' ∧ Rep rdF h1 (lamM nm) 43 (LR zr fr) h1 ∧ (tk = true → (∀ q, q ∈ MZ → zr q = z q) ∧ (∀ k N, (k, N) ∈ MKt → ∀ j, j < N → fr k j = f k j) ∧ (∀ p, p < 2439 → fr 42 p = RDs z f (layp p))) ∧ (tk = false → (∀ p, p < 2439 → fr 42 p = f 42 p) ∧ (∀ q, q ∈ MZ → zr q = f 42 (pz q)) ∧ ∀ k N, (k, N) ∈ MKt → ∀ j, j < N → fr k j = f 42 (pk k j)) := by
  obtain ⟨z, f, hR⟩ := LR_rep hM
  have hz73 : z 73 = nI b := FLD.inj (LR_fl hR (j := 73) (by decide)) h73
  have hx : (bif tk then (1 : Int32) else 0) = 0 ∨ (bif tk then (1 : Int32) else 0) = 1 := by cases tk <;> decide
  obtain ⟨Φ1, P1, Q1⟩ := img_r l G hb hb' hl h103 hC hM hX h73 hd (bif tk then 1 else 0) hx hbb
  obtain ⟨z', f', hc, hI⟩ := image_r 0 (tk := tk) (x1 := bif tk then 1 else 0) (z := z) (f := f) rfl (fun ht => by
    cases tk with
    | true => exact absurd rfl ht
    | false =>
      intro h0
      rw [hz73] at h0
      have : b = 0 := by
        rcases hb with e | e
        · exact e
        · rw [e] at h0
          exact absurd h0 (by decide)
      have := hbb.mpr ⟨rfl, this⟩
      omega)
  have p2 := pm_of (lamM_i nm) hc hR (l := l) (G := G)
  refine ⟨_, PMet_and P1 p2, ?_⟩
  rintro r1 h1 ⟨w1, r2, h2, ⟨rfl, w2⟩, hE, -, -⟩
  obtain ⟨e1, k2, k3, z0, f0, z1, f1, g1, g2, g3, g4⟩ := Q1 r1 h1 w1
  have hR1 : Rep rdF h1 (lamM nm) 43 (LR z1 f1) h1 := ⟨g2.1, g2.2.1, rfl, fun _ _ => rfl⟩
  have hcl : ∀ k, k < 103 → ∀ j, KPT h' h1 (nc + k) j := fun k hk j => KPT_same (g2.2.2.2 (nc + k) (fun j' hj' e => hd k j' hj' ((h103 k hk).trans e)))
  refine ⟨e1, k2, hcl, z, f, z1, f1, hR, hR1, fun ht => ?_, fun ht => ?_⟩
  · subst ht
    obtain ⟨i1, i2, i3⟩ := hI.2.2.1 rfl
    have q1 := LR_eqvK hE hR1 w2
    have q2 : ∀ j, j < 2900 → f1 42 j = f' 42 j := (LR_eqv hE hR1 w2).2 41 (by decide) 2900 rfl
    have mz : ∀ q, q ∈ MZ → q ≠ 0 ∧ q ≠ 72 ∧ q ≠ 73 ∧ q ≠ 74 := by decide
    have mk : ∀ e, e ∈ MKt → e.1 ≠ 42 := by decide
    have zz : ∀ q, q ≠ 0 → q ≠ 72 → q ≠ 73 → q ≠ 74 → (uZ (uZ (uZ (uZ z 0 0) 72 1) 73 1) 74 0) q = z q := fun q a b c d => by rw [uZ_n d, uZ_n c, uZ_n b, uZ_n a]
    refine ⟨fun q hq => ?_, fun k N hk j hj => ?_, fun p hp => ?_⟩
    · obtain ⟨a, b, c, d⟩ := mz q hq
      rw [q1.1 q hq]
      show z' q = z q
      rw [i1 q d]
      exact zz q a b c d
    · rw [q1.2 k N hk j hj, i2 k (mk _ hk)]
    · rw [q2 p (by omega), i3 p, if_pos hp]
      have h0 := lay_0z p hp
      by_cases c : (layp p).1 = 0
      · obtain ⟨a, b, d, e⟩ := h0 c
        have e2 : layp p = (0, (layp p).2) := Prod.ext c rfl
        rw [e2, RDs_0, RDs_0]
        exact zz _ a b d e
      · have e2 : layp p = ((layp p).1, (layp p).2) := rfl
        rw [e2, RDs_r c, RDs_r c]
  · subst ht
    obtain ⟨i1, i2, i3⟩ := hI.2.2.2 rfl
    have q1 := LR_eqvK hE hR1 w2
    have q2 : ∀ j, j < 2900 → f1 42 j = f' 42 j := (LR_eqv hE hR1 w2).2 41 (by decide) 2900 rfl
    have mz : ∀ q, q ∈ MZ → q ≠ 3 := by decide
    refine ⟨fun p hp => ?_, fun q hq => ?_, fun k N hk j hj => ?_⟩
    · rw [q2 p (by omega), i1]
    · rw [q1.1 q hq]
      show uZ z' 3 0 q = _
      rw [uZ_n (mz q hq)]
      obtain ⟨a, b⟩ := pz_lay q hq
      have := i2 (pz q) a
      rw [b, RDs_0] at this
      exact this
    · rw [q1.2 k N hk j hj]
      obtain ⟨a, b⟩ := pk_lay _ hk j hj
      have a : pk k j < 2439 := a
      have b : layp (pk k j) = (k, j) := b
      have := i2 (pk k j) a
      have mk : k ≠ 0 := (show ∀ e, e ∈ MKt → e.1 ≠ 0 by decide) _ hk
      rw [b, RDs_r mk] at this
      exact this
theorem nowL : ∀ i, i < 9 → (12 + 2 * i, 1) ∈ ([(12, 1), (13, 999), (14, 1), (15, 999), (16, 1), (17, 999), (18, 1), (19, 999), (20, 1), (21, 999), (22, 1), (23, 999), (24, 1), (25, 999), (26, 1), (27, 999), (28, 1), (29, 999)] : List (Nat × Nat)) ∧ (12 + 1 + 2 * i, 999) ∈ ([(12, 1), (13, 999), (14, 1), (15, 999), (16, 1), (17, 999), (18, 1), (19, 999), (20, 1), (21, 999), (22, 1), (23, 999), (24, 1), (25, 999), (26, 1), (27, 999), (28, 1), (29, 999)] : List (Nat × Nat)) := by decide
set_option maxHeartbeats 4000000 in
theorem tq_image (l : Launch) (G : PG) {nc nm : Nat} {h : PH} (hI : LIY TP nc nm h) (x : Int32) (hxx : x = 0 ∨ x = 1) : PRY TP l G nc nm h 165 4 219 3 [vI x] := by
  have hI0 := hI
  obtain ⟨lam, b, hB, hP⟩ := hI
  obtain ⟨hb, hl, h103, hC, hM, hX, hx, hd⟩ := hB
  have hb1 : b ≤ 1 := by omega
  have hT : HOK lam [] TCl h := TB_TC hb1 hC
  have e0 : lam 0 = nc := h103 0 (by decide)
  obtain ⟨⟨zc, fc, zm, fm, c1, c2, c3⟩, hP2⟩ := hP
  rcases hxx with rfl | rfl
  · rcases hb with rfl | rfl
    · obtain ⟨Φ, p1, p2⟩ := chkE_ok (EX := EXT) (l := l) (G := G) (lam := lam) MT_ok (fun _ _ _ _ => trivial) (fun k j hm => by cases hm) sun ic_3 (cAs := [vR (lam 0), vI 0]) (hh := h) ⟨rfl, ⟨0, rfl, inb_J (by decide) (by decide)⟩, trivial⟩ hC trivial
      rw [e0] at p1
      refine ⟨Φ, p1, fun r h' hq => ?_⟩
      obtain ⟨⟨z0, rfl, q1⟩, q2, q3⟩ := p2 r h' hq
      have hz0 : z0 = nI 0 := inb_nIe (n := 0) (by decide) q1
      subst hz0
      have hF : FRG lam [] h h' := FRG.of (fun q hq => hq) q2
      obtain ⟨o1, o2, o3⟩ := oth_c hF hd hM hX hx
      refine ⟨nI 0, rfl, md_of o1, ?_⟩
      obtain ⟨Φ1, P1, Q1⟩ := img_r l G (b := 0) (b' := 0) (Or.inl rfl) (Or.inl rfl) hl h103 q3 o1 o2 o3 hd 0 (Or.inl rfl) (by decide)
      refine ⟨Φ1, P1, fun r1 h1 hr1 => ?_⟩
      obtain ⟨rfl, L, hcl, z, f, z', f', R0, R1, ix, z73⟩ := Q1 r1 h1 hr1
      obtain ⟨j1, j2⟩ := ix.1 rfl (z73.trans rfl)
      refine ⟨rfl, lam, 0, L, TP_st 0 nc nm h' h1 (TP_st 0 nc nm h h' ⟨⟨zc, fc, zm, fm, c1, c2, c3⟩, hP2⟩ (fun q hq => ?_) (fun q hq => kr_c hF hd (bFR_ok (FR := FRt) (by decide) hq))) (fun q hq => kc_rep ⟨Or.inl rfl, hl, h103, q3, o1, o2, o3, hd⟩ R1 (bFC_ok (FC := FCt) (by decide) hq)) (fun q hq => ?_)⟩
      · exact kc_c hF hl h103 (okFC_ok (FC := FCt) (W := []) (by decide +kernel) hq).1 (fun hm => by cases hm)
      · have hq2 : tyF q = true := List.all_eq_true.mp (show FRt.all tyF = true by decide +kernel) q hq
        exact KPT_tq R0 R1 ⟨fun j hj => j1 j (kzn hj rfl), fun k _ => by rw [j2]⟩ hq2
    · obtain ⟨zi, fi, N, X, d1, d2, d3⟩ := hP2 rfl
      have hw : ∀ q, q ∈ ([(2, 2), (2, 3), (2, 4), (2, 5), (2, 6), (2, 7), (2, 8), (2, 9), (3, 999), (4, 999), (6, 999), (7, 999), (12, 1), (13, 999), (14, 1), (15, 999), (16, 1), (17, 999), (18, 1), (19, 999), (20, 1), (21, 999), (22, 1), (23, 999), (24, 1), (25, 999), (26, 1), (27, 999), (28, 1), (29, 999), (59, 2)] : List (Nat × Nat)) → wrC q.1 = true := by decide
      obtain ⟨Φ, p1, p2⟩ := chkE_ok (EX := EXT) (l := l) (G := G) (lam := lam) MT_ok (fun _ _ _ _ => trivial) (fun k j hm => hl k (hw (k, j) hm)) (suc (kc_q153_ok l G lam hl) sun) ic_2 (cAs := [vR (lam 0), vI 0]) (hh := h) ⟨rfl, ⟨0, rfl, inb_J (by decide) (by decide)⟩, trivial⟩ hC trivial
      have pB := im0_B l G hl hC
      rw [e0] at p1 pB
      refine ⟨_, PMet_and p1 pB, ?_⟩
      rintro r h' ⟨hq, r2, h2, hCP, hE, -, -⟩
      obtain ⟨⟨z0, rfl, q1⟩, q2, q3⟩ := p2 r h' hq
      have hz0 : z0 = nI 1 := inb_nIe (n := 1) (by decide) q1
      subst hz0
      have hF : FRG lam [(2, 2), (2, 3), (2, 4), (2, 5), (2, 6), (2, 7), (2, 8), (2, 9), (3, 999), (4, 999), (6, 999), (7, 999), (12, 1), (13, 999), (14, 1), (15, 999), (16, 1), (17, 999), (18, 1), (19, 999), (20, 1), (21, 999), (22, 1), (23, 999), (24, 1), (25, 999), (26, 1), (27, 999), (28, 1), (29, 999), (59, 2)] h h' := FRG.of (fun q hq => hq) q2
      obtain ⟨o1, o2, o3⟩ := oth_c hF hd hM hX hx
      have hC' : HOK (fun k => lam (imgQ k)) [] (TBc 1) h' := HOK_ren (n := 127) (by decide +kernel) rn_2 q3
      have h103' : ∀ k, k < 103 → lam (imgQ k) = nc + k := fun k hk => by rw [imgQ_1 k hk]; exact h103 k hk
      have hd' : ∀ k j, j < 43 → lam (imgQ k) ≠ nm + j := fun k j hj => hd (imgQ k) j hj
      have hl' := LAMC_s imgQ_1 imgQ_2 hl
      refine ⟨nI 1, rfl, md_of o1, ?_⟩
      obtain ⟨Φ1, P1, Q1⟩ := img_ex l G (b := 1) (b' := 1) (Or.inr rfl) (Or.inr rfl) hl' h103' hC' o1 o2 o3 hd' false (by decide) rfl
      refine ⟨Φ1, P1, fun r1 h1 hr1 => ?_⟩
      obtain ⟨rfl, L, hcl, z, f, zr, fr, R0, R1, -, ix⟩ := Q1 r1 h1 hr1
      obtain ⟨i1, i2, i3⟩ := ix rfl
      have eX : f 42 = X := by
        obtain ⟨n2, -, a2⟩ := LR_row R0 41 (by decide)
        exact (row_eq a2 ((kr_c hF hd (q := (42, 999)) (by decide)).2 rfl _ _ d2)).2
      obtain ⟨rb1, rb2⟩ := RL_b (b := 1) (by decide) h103' hC'
      obtain ⟨z', f', hCT, hob⟩ := CT_of rb1
      have hag : ∀ i, i < 9 → z' i = zi i ∧ ∀ m, m ≤ rmT i → zi i = nI m → ∀ j, j < m → f' i j = fi i j := fun i hi => by
        obtain ⟨x, ax⟩ := hob i hi
        exact CPD.read (B := 41) (B' := 12) (N := rmT i) h103 rfl hi (by
          have := hCP i hi
          rw [show 41 + 1 + 2 * i = 42 + 2 * i by omega, show 12 + 1 + 2 * i = 13 + 2 * i by omega]
          exact this) (by decide) (by decide) d1 hE ax (hCT i hi).2
      have k42 : ∀ p, p < 2439 → fr 42 p = X p := fun p hp => by rw [i1 p hp, eX]
      have okI : okFC [(41, 1), (42, 999), (43, 1), (44, 999), (45, 1), (46, 999), (47, 1), (48, 999), (49, 1), (50, 999), (51, 1), (52, 999), (53, 1), (54, 999), (55, 1), (56, 999), (57, 1), (58, 999)] [(2, 2), (2, 3), (2, 4), (2, 5), (2, 6), (2, 7), (2, 8), (2, 9), (3, 999), (4, 999), (6, 999), (7, 999), (12, 1), (13, 999), (14, 1), (15, 999), (16, 1), (17, 999), (18, 1), (19, 999), (20, 1), (21, 999), (22, 1), (23, 999), (24, 1), (25, 999), (26, 1), (27, 999), (28, 1), (29, 999), (59, 2)] = true := by decide +kernel
      refine ⟨rfl, _, 1, L, ⟨z', f', zr, fr, fun i hi => ⟨(hcl (12 + 2 * i) (by omega) 1).1 _ (hCT i hi).1, (hcl (12 + 1 + 2 * i) (by omega) 999).2 rfl _ _ (hCT i hi).2⟩, MT_rep R1, ?_⟩, fun _ => ⟨zi, fi, 2900, fr 42, fun i hi => ?_, ?_, ?_⟩⟩
      · refine d3.cong (fun i hi => (hag i hi).1) (fun i hi => (hag i hi).2) (fun q hq => ?_) (fun k N hk j hj => ?_)
        · rw [i2 q hq, eX]
          rfl
        · rw [i3 k N hk j hj, eX]
          rfl
      · obtain ⟨m1, m2⟩ := imgL i hi
        exact ⟨(hcl (41 + 2 * i) (by omega) 1).1 _ ((kc_c hF hl h103 (okFC_ok okI m1).1 (okFC_ok okI m1).2).1 _ (d1 i hi).1), (hcl (41 + 1 + 2 * i) (by omega) 999).2 rfl _ _ ((kc_c hF hl h103 (okFC_ok okI m2).1 (okFC_ok okI m2).2).2 rfl _ _ (d1 i hi).2)⟩
      · obtain ⟨n2, e2, a2⟩ := LR_row R1 41 (by decide)
        cases e2.symm.trans (show nth lenR 41 = some 2900 from rfl)
        exact a2
      · exact d3.cong (fun _ _ => rfl) (fun _ _ _ _ _ _ _ => rfl) (fun q hq => k42 _ (pz_lay q hq).1) (fun k N hk j hj => k42 _ (pk_lay _ hk j hj).1)
  · have hw : ∀ q, q ∈ ([(0, 2), (31, 2), (31, 3), (31, 4), (31, 5), (31, 6), (31, 7), (31, 8), (31, 9), (32, 999), (33, 999), (35, 999), (36, 999), (41, 1), (42, 999), (43, 1), (44, 999), (45, 1), (46, 999), (47, 1), (48, 999), (49, 1), (50, 999), (51, 1), (52, 999), (53, 1), (54, 999), (55, 1), (56, 999), (57, 1), (58, 999)] : List (Nat × Nat)) → wrC q.1 = true := by decide
    obtain ⟨Φ, p1, p2⟩ := chkE_ok (EX := EXT) (l := l) (G := G) (lam := lam) MT_ok (fun _ _ _ _ => trivial) (fun k j hm => hl k (hw (k, j) hm)) (suc (kc_q154_ok l G lam hl) sun) ic_1 (cAs := [vR (lam 0), vI 1]) (hh := h) ⟨rfl, ⟨1, rfl, inb_J (by decide) (by decide)⟩, trivial⟩ hT trivial
    have pB := im1_B l G hl hT
    rw [e0] at p1 pB
    refine ⟨_, PMet_and p1 pB, ?_⟩
    rintro r h' ⟨hq, r2, h2, hCP, hE, -, -⟩
    obtain ⟨⟨z0, rfl, q1⟩, q2, q3⟩ := p2 r h' hq
    have hz0 : z0 = nI 1 := inb_nIe (n := 1) (by decide) q1
    subst hz0
    have hF : FRG lam [(0, 2), (31, 2), (31, 3), (31, 4), (31, 5), (31, 6), (31, 7), (31, 8), (31, 9), (32, 999), (33, 999), (35, 999), (36, 999), (41, 1), (42, 999), (43, 1), (44, 999), (45, 1), (46, 999), (47, 1), (48, 999), (49, 1), (50, 999), (51, 1), (52, 999), (53, 1), (54, 999), (55, 1), (56, 999), (57, 1), (58, 999)] h h' := FRG.of (fun q hq => hq) q2
    obtain ⟨o1, o2, o3⟩ := oth_c hF hd hM hX hx
    have hC' : HOK (fun k => lam (imgP k)) [] (TBc 1) h' := HOK_ren (n := 127) (by decide +kernel) rn_1 q3
    have h103' : ∀ k, k < 103 → lam (imgP k) = nc + k := fun k hk => by rw [imgP_1 k hk]; exact h103 k hk
    have hd' : ∀ k j, j < 43 → lam (imgP k) ≠ nm + j := fun k j hj => hd (imgP k) j hj
    have hl' := LAMC_s imgP_1 imgP_2 hl
    refine ⟨nI 1, rfl, md_of o1, ?_⟩
    obtain ⟨Φ1, P1, Q1⟩ := img_ex l G (b := b) (b' := 1) hb (Or.inr rfl) hl' h103' hC' o1 o2 o3 hd' true ⟨fun q => absurd q (by decide), fun q => absurd q.1 (by decide)⟩ rfl
    refine ⟨Φ1, P1, fun r1 h1 hr1 => ?_⟩
    obtain ⟨rfl, L, hcl, z, f, zr, fr, R0, R1, ix, -⟩ := Q1 r1 h1 hr1
    obtain ⟨i1, i2, i3⟩ := ix rfl
    have c2' : MT2 nm h' zm fm := ⟨fun q hq => (kr_c hF hd (q := (0, q)) (show (0 : Nat) < 43 by decide)).1 _ (c2.1 q hq), fun k N hk => (kr_c hF hd (q := (k, 999)) (by have := (MK_len _ hk).2.1; have : k ≤ 42 := this; show k < 43; omega)).2 rfl _ _ (c2.2 k N hk)⟩
    obtain ⟨y1, y2⟩ := MT_inj (MT_rep R0) c2'
    obtain ⟨rb1, rb2⟩ := RL_b (b := 1) (by decide) h103' hC'
    obtain ⟨z', f', hCT, hob⟩ := CT_of rb2
    have hag : ∀ i, i < 9 → z' i = zc i ∧ ∀ m, m ≤ rmT i → zc i = nI m → ∀ j, j < m → f' i j = fc i j := fun i hi => by
      obtain ⟨x, ax⟩ := hob i hi
      exact CPD.read (B := 12) (B' := 41) (N := rmT i) h103 rfl hi (by
        have := hCP i hi
        rw [show 41 + 1 + 2 * i = 42 + 2 * i by omega, show 12 + 1 + 2 * i = 13 + 2 * i by omega]
        exact this) (by decide) (by decide) c1 hE ax (hCT i hi).2
    have okN : okFC [(12, 1), (13, 999), (14, 1), (15, 999), (16, 1), (17, 999), (18, 1), (19, 999), (20, 1), (21, 999), (22, 1), (23, 999), (24, 1), (25, 999), (26, 1), (27, 999), (28, 1), (29, 999)] [(0, 2), (31, 2), (31, 3), (31, 4), (31, 5), (31, 6), (31, 7), (31, 8), (31, 9), (32, 999), (33, 999), (35, 999), (36, 999), (41, 1), (42, 999), (43, 1), (44, 999), (45, 1), (46, 999), (47, 1), (48, 999), (49, 1), (50, 999), (51, 1), (52, 999), (53, 1), (54, 999), (55, 1), (56, 999), (57, 1), (58, 999)] = true := by decide +kernel
    refine ⟨rfl, _, 1, L, ⟨zc, fc, zr, fr, fun i hi => ?_, MT_rep R1, c3.cong (fun _ _ => rfl) (fun _ _ _ _ _ _ _ => rfl) (fun q hq => (i1 q hq).trans (y1 q hq)) (fun k N hk j hj => by rw [i2 k N hk j hj, y2 k N hk])⟩, fun _ => ⟨z', f', 2900, fr 42, fun i hi => ⟨(hcl (41 + 2 * i) (by omega) 1).1 _ (hCT i hi).1, (hcl (41 + 1 + 2 * i) (by omega) 999).2 rfl _ _ (hCT i hi).2⟩, ?_, ?_⟩⟩
    · obtain ⟨m1, m2⟩ := nowL i hi
      exact ⟨(hcl (12 + 2 * i) (by omega) 1).1 _ ((kc_c hF hl h103 (okFC_ok okN m1).1 (okFC_ok okN m1).2).1 _ (c1 i hi).1), (hcl (12 + 1 + 2 * i) (by omega) 999).2 rfl _ _ ((kc_c hF hl h103 (okFC_ok okN m2).1 (okFC_ok okN m2).2).2 rfl _ _ (c1 i hi).2)⟩
    · obtain ⟨n2, e2, a2⟩ := LR_row R1 41 (by decide)
      cases e2.symm.trans (show nth lenR 41 = some 2900 from rfl)
      exact a2
    · refine c3.cong (fun i hi => (hag i hi).1) (fun i hi => (hag i hi).2) (fun q hq => ?_) (fun k N hk j hj => ?_)
      · show fr 42 (pz q) = zm q
        rw [i3 _ (pz_lay q hq).1, (pz_lay q hq).2, RDs_0]
        exact y1 q hq
      · show fr 42 (pk k j) = fm k j
        have mk : k ≠ 0 := (show ∀ e, e ∈ MKt → e.1 ≠ 0 by decide) _ hk
        obtain ⟨a, b⟩ := pk_lay _ hk j hj
        have a : pk k j < 2439 := a
        have b : layp (pk k j) = (k, j) := b
        rw [i3 _ a, b, RDs_r mk, y2 k N hk]
