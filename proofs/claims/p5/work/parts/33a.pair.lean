/-! pairs of calls over the told lists: exact runs beside what the checker says -/
theorem LT_cells {lam : Nat → Nat} {H h : PH} {u : Nat → Option Nat} {z : Nat → Int32} {f : Nat → FA} (hR : Rep rdF H (lbT lam) 24 (LT u z f) h) : ∀ i, i < 9 → h[lam (12 + 2 * i)]? = some (eO 9 [vR (lam (13 + 2 * i)), vI (z (3 + 2 * i))]) ∧ h[lam (13 + 2 * i)]? = some (eI (rmT i) (f (4 + 2 * i))) := by
  intro i hi
  match i, hi with
  | 0, _ => exact ⟨hR.2.1 3 _ rfl, hR.2.1 4 _ rfl⟩
  | 1, _ => exact ⟨hR.2.1 5 _ rfl, hR.2.1 6 _ rfl⟩
  | 2, _ => exact ⟨hR.2.1 7 _ rfl, hR.2.1 8 _ rfl⟩
  | 3, _ => exact ⟨hR.2.1 9 _ rfl, hR.2.1 10 _ rfl⟩
  | 4, _ => exact ⟨hR.2.1 11 _ rfl, hR.2.1 12 _ rfl⟩
  | 5, _ => exact ⟨hR.2.1 13 _ rfl, hR.2.1 14 _ rfl⟩
  | 6, _ => exact ⟨hR.2.1 15 _ rfl, hR.2.1 16 _ rfl⟩
  | 7, _ => exact ⟨hR.2.1 17 _ rfl, hR.2.1 18 _ rfl⟩
  | 8, _ => exact ⟨hR.2.1 19 _ rfl, hR.2.1 20 _ rfl⟩
  | n + 9, hi => exact absurd hi (by omega)
theorem CT_rep {lam : Nat → Nat} {nc : Nat} {H h : PH} {u : Nat → Option Nat} {z : Nat → Int32} {f : Nat → FA} (h103 : ∀ k, k < 103 → lam k = nc + k) (hR : Rep rdF H (lbT lam) 24 (LT u z f) h) : CT 12 nc h (fun i => z (3 + 2 * i)) (fun i => f (4 + 2 * i)) := fun i hi => by
  obtain ⟨h1, h2⟩ := LT_cells hR i hi
  rw [h103 (12 + 2 * i) (by omega)] at h1
  rw [h103 (13 + 2 * i) (by omega)] at h2
  exact ⟨⟨9, _, h1, rfl⟩, by rw [show nc + (12 + 1 + 2 * i) = nc + (13 + 2 * i) by omega]; exact h2⟩
theorem CT_inj {B nc : Nat} {h : PH} {z z' : Nat → Int32} {f f' : Nat → FA} (h1 : CT B nc h z f) (h2 : CT B nc h z' f') : ∀ i, i < 9 → z i = z' i ∧ f i = f' i := fun i hi => ⟨FLD.inj (h1 i hi).1 (h2 i hi).1, (row_eq (h1 i hi).2 (h2 i hi).2).2⟩
theorem MK_len : ∀ e, e ∈ MKt → 1 ≤ e.1 ∧ e.1 ≤ 42 ∧ nth lenR (e.1 - 1) = some e.2 := by decide +kernel
theorem MT_rep {nm : Nat} {H h : PH} {z : Nat → Int32} {f : Nat → FA} (hR : Rep rdF H (lamM nm) 43 (LR z f) h) : MT2 nm h z f := by
  refine ⟨fun q hq => LR_fl hR ?_, fun k N hk => ?_⟩
  · have : ∀ q, q ∈ MZ → q ∈ 12 :: KZ := by decide
    exact this q hq
  · obtain ⟨k1, k2, k3⟩ := MK_len _ hk
    have k1 : 1 ≤ k := k1
    have k2 : k ≤ 42 := k2
    obtain ⟨k, rfl⟩ : ∃ k', k = k' + 1 := ⟨k - 1, by omega⟩
    obtain ⟨n, hn, h1⟩ := LR_row hR k (by omega)
    have k3 : nth lenR k = some N := k3
    cases hn.symm.trans k3
    exact h1
theorem MT_inj {nm : Nat} {h : PH} {z z' : Nat → Int32} {f f' : Nat → FA} (h1 : MT2 nm h z f) (h2 : MT2 nm h z' f') : (∀ q, q ∈ MZ → z q = z' q) ∧ ∀ k N, (k, N) ∈ MKt → f k = f' k := ⟨fun q hq => FLD.inj (h1.1 q hq) (h2.1 q hq), fun k N hk => (row_eq (h1.2 k N hk) (h2.2 k N hk)).2⟩
theorem LR_at0 {nm : Nat} {H h : PH} {z : Nat → Int32} {f : Nat → FA} (hR : Rep rdF H (lamM nm) 43 (LR z f) h) {j : Nat} (hj : j ∈ 12 :: KZ) : ∃ fs, h[nm]? = some (eO 12 fs) ∧ fs[j]? = some (vI (z j)) := by
  have h0 := hR.2.1 0 _ rfl
  refine ⟨_, h0, ?_⟩
  have key : j = 12 ∨ j = 6 ∨ j = 43 ∨ j = 46 ∨ j = 50 ∨ j = 52 ∨ j = 54 ∨ j = 57 ∨ j = 61 ∨ j = 63 ∨ j = 65 ∨ j = 73 := by
    simpa [KZ] using hj
  rcases key with rfl | rfl | rfl | rfl | rfl | rfl | rfl | rfl | rfl | rfl | rfl | rfl <;> rfl
/-- two readings of the reference that say the same of numbers -/
theorem LR_eqv {nm : Nat} {H H' h h2 : PH} {z z' : Nat → Int32} {f f' : Nat → FA} (hE : EQV h h2) (h1 : Rep rdF H (lamM nm) 43 (LR z f) h) (h3 : Rep rdF H' (lamM nm) 43 (LR z' f') h2) : (∀ q, q ∈ 12 :: KZ → z q = z' q) ∧ ∀ k, k < 42 → ∀ n, nth lenR k = some n → ∀ j, j < n → f (k + 1) j = f' (k + 1) j := by
  refine ⟨fun q hq => ?_, fun k hk n hn j hj => ?_⟩
  · obtain ⟨fs, g1, g2⟩ := LR_at0 h1 hq
    obtain ⟨fs', g3, g4⟩ := LR_at0 h3 hq
    have h76 : ∀ q, q ∈ 12 :: KZ → q < 76 := by decide
    exact hE.2 _ _ _ _ q _ _ (RX12, TX12, 76) g1 g3 rfl (h76 q hq) g2 g4
  · obtain ⟨n1, e1, a1⟩ := LR_row h1 k hk
    obtain ⟨n2, e2, a2⟩ := LR_row h3 k hk
    cases hn.symm.trans e1
    cases hn.symm.trans e2
    exact (hE.1 _ _ _ _ _ a1 a2).2 j hj
theorem LR_eqvK {nm : Nat} {H H' h h2 : PH} {z z' : Nat → Int32} {f f' : Nat → FA} (hE : EQV h h2) (h1 : Rep rdF H (lamM nm) 43 (LR z f) h) (h3 : Rep rdF H' (lamM nm) 43 (LR z' f') h2) : (∀ q, q ∈ MZ → z q = z' q) ∧ ∀ k N, (k, N) ∈ MKt → ∀ j, j < N → f k j = f' k j := by
  have h := LR_eqv hE h1 h3
  refine ⟨fun q hq => h.1 q ((show ∀ q, q ∈ MZ → q ∈ 12 :: KZ by decide) q hq), fun k N hk j hj => ?_⟩
  obtain ⟨k1, k2, k3⟩ := MK_len _ hk
  have k1 : 1 ≤ k := k1
  have k2 : k ≤ 42 := k2
  obtain ⟨k, rfl⟩ : ∃ k', k = k' + 1 := ⟨k - 1, by omega⟩
  exact h.2 k (by omega) N k3 j hj
/-- what holds between two rounds, read as exact heaps -/
theorem TP_link {nc nm : Nat} {h : PH} (hI : LIY TP nc nm h) : ∃ lam b u z f zm fm, LIB lam b nc nm h ∧ Rep rdF h (lbT lam) 24 (LT u z f) h ∧ Rep rdF h (lamM nm) 43 (LR zm fm) h ∧ TA (fun i => z (3 + 2 * i)) (fun i => f (4 + 2 * i)) zm fm ∧ (b = 1 → ∃ zi fi N X, CT 41 nc h zi fi ∧ h[nm + 42]? = some (eI N X) ∧ TA zi fi (imz X) (imf X)) := by
  obtain ⟨lam, b, hB, hP⟩ := hI
  have hb1 : b ≤ 1 := by have := hB.1; omega
  obtain ⟨u, z, f, hR, -, -⟩ := LT_rep hb1 hB.2.2.2.1
  obtain ⟨zm, fm, hM⟩ := LR_rep hB.2.2.2.2.1
  obtain ⟨⟨zc, fc, zm0, fm0, h1, h2, h3⟩, h4⟩ := hP
  refine ⟨lam, b, u, z, f, zm, fm, hB, hR, hM, ?_, h4⟩
  have c1 := CT_inj h1 (CT_rep hB.2.2.1 hR)
  have c2 := MT_inj h2 (MT_rep hM)
  exact h3.cong (fun i hi => (c1 i hi).1.symm) (fun i hi m _ _ j _ => by rw [(c1 i hi).2]) (fun q hq => (c2.1 q hq).symm) (fun k N hk j _ => by rw [c2.2 k N hk])
theorem EQV_CT {lam : Nat → Nat} {nc : Nat} {h h2 : PH} {H : PH} {u : Nat → Option Nat} {z : Nat → Int32} {f : Nat → FA} {z' : Nat → Int32} {f' : Nat → FA} (hE : EQV h h2) (h103 : ∀ k, k < 103 → lam k = nc + k) (h1 : ∀ i, i < 9 → ∃ x g, h[nc + (12 + 2 * i)]? = some (eO 9 [x, vI (z' i)]) ∧ h[nc + (13 + 2 * i)]? = some (eI (rmT i) g) ∧ g = f' i) (hR : Rep rdF H (lbT lam) 24 (LT u z f) h2) : ∀ i, i < 9 → z' i = z (3 + 2 * i) ∧ ∀ j, j < rmT i → f' i j = f (4 + 2 * i) j := fun i hi => by
  obtain ⟨x, g, a1, a2, rfl⟩ := h1 i hi
  obtain ⟨b1, b2⟩ := LT_cells hR i hi
  rw [h103 (12 + 2 * i) (by omega)] at b1
  rw [h103 (13 + 2 * i) (by omega)] at b2
  exact ⟨hE.2 _ _ _ _ 1 _ _ (RX9, TX9, 2) a1 b1 rfl (by decide) rfl rfl, (hE.1 _ _ _ _ _ a2 b2).2⟩
theorem imgL : ∀ i, i < 9 → (41 + 2 * i, 1) ∈ ([(41, 1), (42, 999), (43, 1), (44, 999), (45, 1), (46, 999), (47, 1), (48, 999), (49, 1), (50, 999), (51, 1), (52, 999), (53, 1), (54, 999), (55, 1), (56, 999), (57, 1), (58, 999)] : List (Nat × Nat)) ∧ (41 + 1 + 2 * i, 999) ∈ ([(41, 1), (42, 999), (43, 1), (44, 999), (45, 1), (46, 999), (47, 1), (48, 999), (49, 1), (50, 999), (51, 1), (52, 999), (53, 1), (54, 999), (55, 1), (56, 999), (57, 1), (58, 999)] : List (Nat × Nat)) := by decide
/-- a pair of calls by its exact runs -/
theorem tp_pair (l : Launch) (G : PG) {lam : Nat → Nat} {b nc nm : Nat} {h : PH} {u : Nat → Option Nat} {z z1 : Nat → Int32} {f f1 : Nat → FA} {zm zm1 : Nat → Int32} {fm fm1 : Nat → FA} (hB : LIB lam b nc nm h) (hR : Rep rdF h (lbT lam) 24 (LT u z f) h) (hM : Rep rdF h (lamM nm) 43 (LR zm fm) h) (hX : b = 1 → ∃ zi fi N X, CT 41 nc h zi fi ∧ h[nm + 42]? = some (eI N X) ∧ TA zi fi (imz X) (imf X))
    {sc sr : SU} (hSc : SUOK lam TCl EXT l G sc) (hSr : SUOK (lamM nm) TRf (EXR (lamM nm)) l G sr) {As : List Int32} {v : Int32}
    (hc : mcall sc.2.1 sc.1 (vR 0 :: As.map vI) (LT u z f) = some (some (vI v), LT u z1 f1)) (hr : mcall sr.2.1 sr.1 (vR 0 :: As.map vI) (LR zm fm) = some (some (vI v), LR zm1 fm1)) (hT : TA (fun i => z1 (3 + 2 * i)) (fun i => f1 (4 + 2 * i)) zm1 fm1)
    (ec : (sc.2.2.2.2.all (fun e => !(e.1 == 0 && e.2 == 2)) && okFC [(41, 1), (42, 999), (43, 1), (44, 999), (45, 1), (46, 999), (47, 1), (48, 999), (49, 1), (50, 999), (51, 1), (52, 999), (53, 1), (54, 999), (55, 1), (56, 999), (57, 1), (58, 999)] sc.2.2.2.2) = true) (er : (sr.2.2.2.2.all (fun e => wrR e.1 && !(e.1 == 0 && e.2 == 73)) && okFR [(42, 999)] sr.2.2.2.2) = true)
    (aC : R2 (vRel lam []) sc.2.2.1 (vR nc :: As.map vI)) (aR : R2 (vRel (lamM nm) []) sr.2.2.1 (vR nm :: As.map vI)) (rc : sc.2.2.2.1.isSome = true) : PRY TP l G nc nm h sc.1 sc.2.1 sr.1 sr.2.1 (As.map vI) := by
  rw [Bool.and_eq_true] at ec er
  obtain ⟨hb, hl, h103, hC, hMo, hXr, hx, hd⟩ := hB
  have hB : LIB lam b nc nm h := ⟨hb, hl, h103, hC, hMo, hXr, hx, hd⟩
  obtain ⟨Φ0, p1, q1⟩ := lib_c l G sc hB hSc ec.1 (As.map vI) aC
  have p2 := pm_t hl hc hR (l := l) (G := G)
  have eA : ∀ (lb : Nat → Nat) (x : Nat), (vR 0 :: As.map vI).map (sv lb) = vR (lb 0) :: As.map vI := fun lb _ => by
    show vR (lb 0) :: (As.map vI).map (sv lb) = _
    rw [List.map_map]
    rfl
  rw [eA (lbT lam) 0, show lbT lam 0 = nc from (lbT_s (by decide)).trans (h103 0 (by decide))] at p2
  refine ⟨_, PMet_and p1 p2, ?_⟩
  rintro r h1 ⟨w1, r2, h2, ⟨rfl, w2⟩, hE, -, hrr⟩
  obtain ⟨k1, k2, k3⟩ := q1 r h1 w1
  have hrr : some (Value.int v) = r.map (pr G) := hrr
  obtain rfl := prI_inj hrr.symm
  refine ⟨v, rfl, md_of k2.2.2.2.2.1, ?_⟩
  obtain ⟨hb1, hl1, h1031, hC1, hM1, hX1, hx1, hd1⟩ := k2
  have k2 : LIB lam b nc nm h1 := ⟨hb1, hl1, h1031, hC1, hM1, hX1, hx1, hd1⟩
  have kr : ∀ k, k < 43 → ∀ j, KPT h h1 (nm + k) j := fun k hk j => kr_c k3 hd (q := (k, j)) hk
  have hMh : Rep rdF h1 (lamM nm) 43 (LR zm fm) h1 := by
    refine ⟨rfl, fun k x hk => ?_, rfl, fun _ _ => rfl⟩
    have hk43 : k < 43 := (List.getElem?_eq_some_iff.mp hk).1
    have g1 := hM.2.1 k x hk
    obtain ⟨y, hy, hky⟩ := k3.2 _ _ g1
    have e : y = se rdF (lamM nm) x := kpt_all hky (fun j ⟨k', _, e⟩ => hd k' k hk43 e)
    rw [← e]
    exact hy
  obtain ⟨Φ1, p3, q3⟩ := lib_r l G sr k2 hSr er.1 (As.map vI) aR
  have p4 := pm_of (lamM_i nm) hr hMh (l := l) (G := G)
  rw [eA (lamM nm) 0] at p4
  refine ⟨_, PMet_and p3 p4, ?_⟩
  rintro r h3 ⟨w3, r4, h4, ⟨rfl, w4⟩, hE2, -, hrr2⟩
  obtain ⟨m1, m2, m3⟩ := q3 r h3 w3
  have hrr2 : some (Value.int v) = r.map (pr G) := hrr2
  obtain rfl := prI_inj hrr2.symm
  refine ⟨rfl, lam, b, m2, ?_, fun hb1 => ?_⟩
  · have hb1 : b ≤ 1 := by omega
    obtain ⟨u3, z3, f3, hR3, -, -⟩ := LT_rep hb1 hC1
    obtain ⟨zr3, fr3, hM3⟩ := LR_rep m2.2.2.2.2.1
    have hw : ∀ e, e ∈ sr.2.2.2.2 → e.1 < 43 := fun e h => by
      have := wrR_lt ((Bool.and_eq_true _ _).mp (List.all_eq_true.mp er.1 e h)).1
      omega
    have c3 := CT_rep h103 hR3
    have c3' : CT 12 nc h3 (fun i => z3 (3 + 2 * i)) (fun i => f3 (4 + 2 * i)) := fun i hi => ⟨(kc_r m3 h103 hd hw (q := (12 + 2 * i, 1)) (show 12 + 2 * i < 103 by omega)).1 _ (c3 i hi).1, (kc_r m3 h103 hd hw (q := (12 + 1 + 2 * i, 999)) (show 12 + 1 + 2 * i < 103 by omega)).2 rfl _ _ (c3 i hi).2⟩
    have ev := EQV_CT (z' := fun i => z3 (3 + 2 * i)) (f' := fun i => f3 (4 + 2 * i)) hE h103 (fun i hi => by
      obtain ⟨a1, a2⟩ := LT_cells hR3 i hi
      rw [h103 (12 + 2 * i) (by omega)] at a1
      rw [h103 (13 + 2 * i) (by omega)] at a2
      exact ⟨_, _, a1, a2, rfl⟩) w2
    refine ⟨_, _, zr3, fr3, c3', MT_rep hM3, hT.cong (fun i hi => (ev i hi).1) (fun i hi m hm _ j hj => (ev i hi).2 j (by omega)) (fun q hq => ?_) (fun k N hk j hj => ?_)⟩
    · exact (LR_eqvK hE2 hM3 w4).1 q hq
    · exact (LR_eqvK hE2 hM3 w4).2 k N hk j hj
  · obtain ⟨zi, fi, N, X, g1, g2, g3⟩ := hX hb1
    have hw : ∀ e, e ∈ sr.2.2.2.2 → e.1 < 43 := fun e h => by
      have := wrR_lt ((Bool.and_eq_true _ _).mp (List.all_eq_true.mp er.1 e h)).1
      omega
    refine ⟨zi, fi, N, X, fun i hi => ⟨?_, ?_⟩, ?_, g3⟩
    · have a1 := (kc_c k3 hl h103 (okFC_ok ec.2 (imgL i hi).1).1 (okFC_ok ec.2 (imgL i hi).1).2).1 _ (g1 i hi).1
      exact (kc_r m3 h103 hd hw (q := (41 + 2 * i, 1)) (show 41 + 2 * i < 103 by omega)).1 _ a1
    · have a1 := (kc_c k3 hl h103 (okFC_ok ec.2 (imgL i hi).2).1 (okFC_ok ec.2 (imgL i hi).2).2).2 rfl _ _ (g1 i hi).2
      exact (kc_r m3 h103 hd hw (q := (41 + 1 + 2 * i, 999)) (show 41 + 1 + 2 * i < 103 by omega)).2 rfl _ _ a1
    · have a1 := (kr 42 (by decide) 999).2 rfl _ _ g2
      exact (kr_r m3 (okFR_ok er.2 (List.mem_singleton.mpr rfl))).2 rfl _ _ a1
