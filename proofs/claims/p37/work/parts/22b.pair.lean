theorem LR_same {z z' : Nat → Int32} {f : Nat → FA} {W f' : FA} (k : Nat) (k0 : k ≠ 0) (k40 : k ≠ 40) (k41 : k ≠ 41) (hk : k < 43) : (LR z f)[k]? = (LR z' (uA (uA f 40 W) 41 f'))[k]? := by
  match k, k0, k40, k41, hk with
  | 0, k0, _, _, _ => exact absurd rfl k0
  | 40, _, k, _, _ => exact absurd rfl k
  | 41, _, _, k, _ => exact absurd rfl k
  | 1, _, _, _, _ => rfl
  | 2, _, _, _, _ => rfl
  | 3, _, _, _, _ => rfl
  | 4, _, _, _, _ => rfl
  | 5, _, _, _, _ => rfl
  | 6, _, _, _, _ => rfl
  | 7, _, _, _, _ => rfl
  | 8, _, _, _, _ => rfl
  | 9, _, _, _, _ => rfl
  | 10, _, _, _, _ => rfl
  | 11, _, _, _, _ => rfl
  | 12, _, _, _, _ => rfl
  | 13, _, _, _, _ => rfl
  | 14, _, _, _, _ => rfl
  | 15, _, _, _, _ => rfl
  | 16, _, _, _, _ => rfl
  | 17, _, _, _, _ => rfl
  | 18, _, _, _, _ => rfl
  | 19, _, _, _, _ => rfl
  | 20, _, _, _, _ => rfl
  | 21, _, _, _, _ => rfl
  | 22, _, _, _, _ => rfl
  | 23, _, _, _, _ => rfl
  | 24, _, _, _, _ => rfl
  | 25, _, _, _, _ => rfl
  | 26, _, _, _, _ => rfl
  | 27, _, _, _, _ => rfl
  | 28, _, _, _, _ => rfl
  | 29, _, _, _, _ => rfl
  | 30, _, _, _, _ => rfl
  | 31, _, _, _, _ => rfl
  | 32, _, _, _, _ => rfl
  | 33, _, _, _, _ => rfl
  | 34, _, _, _, _ => rfl
  | 35, _, _, _, _ => rfl
  | 36, _, _, _, _ => rfl
  | 37, _, _, _, _ => rfl
  | 38, _, _, _, _ => rfl
  | 39, _, _, _, _ => rfl
  | 42, _, _, _, _ => rfl
  | k + 43, _, _, _, hk => omega
set_option maxRecDepth 100000 in
/-- the class's side -/
theorem game_cx (l : Launch) (G : PG) {lam : Nat → Nat} {b nc nm : Nat} {h : PH} (hB : LIB lam b nc nm h) (hG : GK nc h) (x y : Int32) : ∃ Φ0, PMet l G (mY 34) (mC 34) (mN 34) (mR 34) 24 0 0 [vR nc, vI x, vI y] h Φ0 ∧ ∀ r h', Φ0 r h' → r = some (vI (sp_game x y)) ∧ LIB lam b nc nm h' ∧ GK nc h' := by
  obtain ⟨hb, hl, h103, hC, hM, hX, hx, hd⟩ := hB
  obtain ⟨K0, hK0, hKI⟩ := hG
  obtain ⟨z, f, hR, hz⟩ := LG_rep hC
  have c0 : h[lam 0]? = some (eO 11 [vR (lam 1), vR (lam 30), vI (z 0), vR (lam 59), vR (lam 79), vR (lam 83), vR (lam 95), vR (lam 99), vR (lam 86), vR (lam 89), vR (lam 92)]) := hR.2.1 0 _ rfl
  have c1 : h[lam 92]? = some (eO 2 [vR (lam 93), vR (lam 94), vI (z 1), vI (z 2)]) := hR.2.1 1 _ rfl
  have c2 : h[lam 93]? = some (eI 1231 (f 2)) := hR.2.1 2 _ rfl
  have c3 : h[lam 94]? = some (eI 9 (f 3)) := hR.2.1 3 _ rfl
  rw [h103 0 (by decide), h103 1 (by decide), h103 30 (by decide), h103 59 (by decide), h103 79 (by decide), h103 83 (by decide), h103 95 (by decide), h103 99 (by decide), h103 86 (by decide), h103 89 (by decide), h103 92 (by decide)] at c0
  rw [h103 92 (by decide), h103 93 (by decide), h103 94 (by decide)] at c1
  rw [h103 93 (by decide)] at c2
  rw [h103 94 (by decide)] at c3
  have eK : K0 = f 2 := by
    have e := Option.some.inj (hK0.symm.trans c2)
    injection e with e
    injection e with e
    exact (Prod.mk.inj (Prod.mk.inj e).2).2
  subst eK
  have R : Rep rdF h (lbP pm_g nc) 4 (gL (z 0) (f 2) (f 3) (z 1) (z 2)) h := by
    refine ⟨rfl, fun k v hk => ?_, rfl, fun _ _ => rfl⟩
    have hk4 : k < 4 := (List.getElem?_eq_some_iff.mp hk).1
    match k, hk4, hk with
    | 0, _, hk => have hk := Option.some.inj hk; subst hk; exact c1
    | 1, _, hk => have hk := Option.some.inj hk; subst hk; exact c2
    | 2, _, hk => have hk := Option.some.inj hk; subst hk; exact c3
    | 3, _, hk => have hk := Option.some.inj hk; subst hk; exact c0
  obtain ⟨K', f', s', l', hK', N, hN⟩ := gm_all (bb := z 0) (g := f 3) (s0 := z 1) (l0 := z 2) hKI x y
  refine ⟨_, ev_ok wrF_ok fzF_ok li_g N 24 34 [vR 3, vI x, vI y] _ _ _ (hN N (Nat.le_refl _)) h R, ?_⟩
  rintro r h1 ⟨rfl, R1⟩
  have d0 : h1[nc + 0]? = some (eO 11 [vR (nc + 1), vR (nc + 30), vI (z 0), vR (nc + 59), vR (nc + 79), vR (nc + 83), vR (nc + 95), vR (nc + 99), vR (nc + 86), vR (nc + 89), vR (nc + 92)]) := R1.2.1 3 _ rfl
  have d1 : h1[nc + 92]? = some (eO 2 [vR (nc + 93), vR (nc + 94), vI s', vI l']) := R1.2.1 0 _ rfl
  have d2 : h1[nc + 93]? = some (eI 1231 K') := R1.2.1 1 _ rfl
  have d3 : h1[nc + 94]? = some (eI 9 f') := R1.2.1 2 _ rfl
  have d2' := d2
  rw [← h103 0 (by decide), ← h103 1 (by decide), ← h103 30 (by decide), ← h103 59 (by decide), ← h103 79 (by decide), ← h103 83 (by decide), ← h103 95 (by decide), ← h103 99 (by decide), ← h103 86 (by decide), ← h103 89 (by decide), ← h103 92 (by decide)] at d0
  rw [← h103 92 (by decide), ← h103 93 (by decide), ← h103 94 (by decide)] at d1
  rw [← h103 93 (by decide)] at d2
  rw [← h103 94 (by decide)] at d3
  have R2 : Rep rdF h (lbG lam) 4 (LG (fun k => match k with | 0 => z 0 | 1 => s' | _ => l') (fun k => match k with | 2 => K' | _ => f')) h1 := by
    refine ⟨rfl, fun k v hk => ?_, R1.2.2.1, fun a ha => R1.2.2.2 a (fun k hk e => ?_)⟩
    · have hk4 : k < 4 := (List.getElem?_eq_some_iff.mp hk).1
      match k, hk4, hk with
      | 0, _, hk => have hk := Option.some.inj hk; subst hk; exact d0
      | 1, _, hk => have hk := Option.some.inj hk; subst hk; exact d1
      | 2, _, hk => have hk := Option.some.inj hk; subst hk; exact d2
      | 3, _, hk => have hk := Option.some.inj hk; subst hk; exact d3
    · match k, hk with
      | 0, _ => exact ha 1 (by decide) (e.trans (h103 92 (by decide)).symm)
      | 1, _ => exact ha 2 (by decide) (e.trans (h103 93 (by decide)).symm)
      | 2, _ => exact ha 3 (by decide) (e.trans (h103 94 (by decide)).symm)
      | 3, _ => exact ha 0 (by decide) (e.trans (h103 0 (by decide)).symm)
  have hF : FRG lam [(92, 2), (92, 3), (93, 999), (94, 999)] h h1 := FRG.of (fun q hq => hq) (LG_frm hl hR R2 rfl)
  obtain ⟨o1, o2, o3⟩ := oth_c hF hd hM hX hx
  exact ⟨rfl, ⟨hb, hl, h103, LG_hok hl hC R2 hz, o1, o2, o3, hd⟩, K', d2', hK'⟩
set_option maxRecDepth 100000 in
set_option maxHeartbeats 4000000 in
/-- the reference's side -/
theorem game_rx (l : Launch) (G : PG) {lam : Nat → Nat} {b nc nm : Nat} {h : PH} (hB : LIB lam b nc nm h) (hG : GK nc h) (x y : Int32) : ∃ Φ0, PMet l G (mY 69) (mC 69) (mN 69) (mR 69) 6 0 0 [vR nm, vI x, vI y] h Φ0 ∧ ∀ r h', Φ0 r h' → r = some (vI (sp_game x y)) ∧ LIB lam b nc nm h' ∧ GK nc h' := by
  obtain ⟨z, f, hr⟩ := LR_rep hB.2.2.2.2.1
  have c0 := hr.2.1 0 _ rfl
  have c1 : h[nm + 40]? = some (eI 19683 (f 40)) := hr.2.1 40 _ rfl
  have c2 : h[nm + 41]? = some (eI 9 (f 41)) := hr.2.1 41 _ rfl
  have R : Rep rdF h (lbP pm_r nm) 3 (mL0 (z 0) z (z 70) (z 71) (f 40) (f 41)) h := by
    refine ⟨rfl, fun k v hk => ?_, rfl, fun _ _ => rfl⟩
    have hk3 : k < 3 := (List.getElem?_eq_some_iff.mp hk).1
    match k, hk3, hk with
    | 0, _, hk => have hk := Option.some.inj hk; subst hk; exact c0
    | 1, _, hk => have hk := Option.some.inj hk; subst hk; exact c1
    | 2, _, hk => have hk := Option.some.inj hk; subst hk; exact c2
  obtain ⟨U', E', W', f', N, hN⟩ := gr_all (zz := z) (t0 := z 0) (U := z 70) (E := z 71) (W := f 40) (f := f 41) x y
  refine ⟨_, ev_ok wrF_ok fzF_ok li_r N 6 69 [vR 0, vI x, vI y] _ _ _ (hN N (Nat.le_refl _)) h R, ?_⟩
  rintro r h1 ⟨rfl, R1⟩
  have hout : ∀ a, a ≠ nm → a ≠ nm + 40 → a ≠ nm + 41 → h1[a]? = h[a]? := fun a a0 a1 a2 => R1.2.2.2 a (fun k hk e => by
    match k, hk with
    | 0, _ => exact a0 e
    | 1, _ => exact a1 e
    | 2, _ => exact a2 e)
  have d0 := R1.2.1 0 _ rfl
  have d1 : h1[nm + 40]? = some (eI 19683 W') := R1.2.1 1 _ rfl
  have d2 : h1[nm + 41]? = some (eI 9 f') := R1.2.1 2 _ rfl
  have R2 : Rep rdF h (lamM nm) 43 (LR (uZ (uZ (uZ z 0 0) 70 U') 71 E') (uA (uA f 40 W') 41 f')) h1 := by
    refine ⟨rfl, fun k v hk => ?_, R1.2.2.1, fun a ha => hout a (ha 0 (by decide)) (ha 40 (by decide)) (ha 41 (by decide))⟩
    have hk43 : k < 43 := (List.getElem?_eq_some_iff.mp hk).1
    by_cases k0 : k = 0
    · subst k0
      have hk := Option.some.inj hk
      subst hk
      exact d0
    by_cases k40 : k = 40
    · subst k40
      have hk := Option.some.inj hk
      subst hk
      exact d1
    by_cases k41 : k = 41
    · subst k41
      have hk := Option.some.inj hk
      subst hk
      exact d2
    rw [hout (lamM nm k) (by show nm + k ≠ nm; omega) (by show nm + k ≠ nm + 40; omega) (by show nm + k ≠ nm + 41; omega)]
    refine hr.2.1 k v ?_
    rw [← hk]
    exact LR_same k k0 k40 k41 hk43
  have hz := BNDz_of hB.2.2.2.2.1 hr
  have hBf := BNDf_of hB.2.2.2.2.1 hr
  have hE := EXF_of hB.2.2.2.2.2.1 hr
  have ez : ∀ j, j ≠ 0 → j ≠ 70 → j ≠ 71 → (uZ (uZ (uZ z 0 0) 70 U') 71 E') j = z j := fun j j0 j1 j2 => by
    rw [uZ_n j2, uZ_n j1, uZ_n j0]
  have b1 : BNDz (uZ (uZ (uZ z 0 0) 70 U') 71 E') := by
    intro e he
    have key : ∀ e, e ∈ FBl → e.1 ≠ 0 ∧ e.1 ≠ 70 ∧ e.1 ≠ 71 := by decide
    obtain ⟨k0, k1, k2⟩ := key e he
    rw [ez e.1 k0 k1 k2]
    exact hz e he
  have b2 : BNDf (uA (uA f 40 W') 41 f') := by
    intro k k1 k2
    by_cases c1 : k = 41
    · subst c1
      exact ⟨⟨fun j _ => inb_top _, trivial⟩, PRD_0⟩
    by_cases c0 : k = 40
    · subst c0
      exact ⟨⟨fun j _ => inb_top _, trivial⟩, PRD_0⟩
    rw [uA_ne c1, uA_ne c0]
    exact hBf k k1 k2
  have b3 : EXF (uA (uA f 40 W') 41 f') := by
    refine hE.tr (fun k hk => ?_)
    have key : ∀ k, k ∈ XR → k ≠ 41 ∧ k ≠ 40 := by decide
    rw [uA_ne (key k hk).1, uA_ne (key k hk).2]
  exact ⟨rfl, lib_of_r hB hr R2 b1 b2 b3 (ez 73 (by decide) (by decide) (by decide)), hG.x (lam := lam) (b := b) hB.2.2.2.2.2.2.2 hB.2.2.1 R2⟩
theorem game_pair (l : Launch) (G : PG) {nc nm : Nat} {h : PH} (hI : LIG nc nm h) (x y : Int32) : PRG l G nc nm h 34 24 69 6 [vI x, vI y] := by
  obtain ⟨⟨lam, b, hB, -⟩, hG⟩ := hI
  obtain ⟨Φ0, hP, hQ⟩ := game_cx l G hB hG x y
  refine ⟨Φ0, hP, fun r h' hr => ?_⟩
  obtain ⟨rfl, L, hG'⟩ := hQ r h' hr
  obtain ⟨Φ1, hP1, hQ1⟩ := game_rx l G L hG' x y
  refine ⟨_, rfl, md_of L.2.2.2.2.1, Φ1, hP1, fun r1 h1 hr1 => ?_⟩
  obtain ⟨rfl, L1, hG1⟩ := hQ1 r1 h1 hr1
  exact ⟨rfl, lix0 L1, hG1⟩
theorem img_g (l : Launch) (G : PG) {lam : Nat → Nat} {b b' nc nm : Nat} {h' : PH} (hb : b = 0 ∨ b = 1) (hb' : b' = 0 ∨ b' = 1) (hl : LAMC lam) (h103 : ∀ k, k < 103 → lam k = nc + k) (hC : HOK lam [] (TBc b') h') (hM : HOK (lamM nm) [] TRf h') (hX : EXR (lamM nm) h') (h73 : FLD h' nm 73 (nI b)) (hd : ∀ k j, j < 43 → lam k ≠ nm + j) (x : Int32) (hxx : x = 0 ∨ x = 1) (hbb : b' = 0 ↔ x = 0 ∧ b = 0) (hG : GK nc h') : ∃ Φ1, PMet l G (mY 219) (mC 219) (mN 219) (mR 219) 3 0 0 [vR nm, vI x] h' Φ1 ∧ ∀ r1 h1, Φ1 r1 h1 → r1 = some (vI (nI b')) ∧ LIG nc nm h1 := by
  obtain ⟨Φ1, P1, Q1⟩ := img_r l G hb hb' hl h103 hC hM hX h73 hd x hxx hbb
  refine ⟨Φ1, P1, fun r1 h1 hr1 => ?_⟩
  obtain ⟨rfl, L, hcl, z, f, z', f', R0, R1, ix, z73⟩ := Q1 r1 h1 hr1
  exact ⟨rfl, lix0 L, hG.x (lam := lam) (b := b) hd h103 R1⟩
theorem img_row (l : Launch) (G : PG) {nc nm : Nat} {h : PH} (hI : LIG nc nm h) (x : Int32) (hxx : x = 0 ∨ x = 1) : PRG l G nc nm h 165 4 219 3 [vI x] := by
  obtain ⟨⟨lam, b, hB, -⟩, hG⟩ := hI
  obtain ⟨hb, hl, h103, hC, hM, hX, hx, hd⟩ := hB
  have hb1 : b ≤ 1 := by omega
  have hT : HOK lam [] TCl h := TB_TC hb1 hC
  have e0 : lam 0 = nc := h103 0 (by decide)
  rcases hxx with rfl | rfl
  · rcases hb with rfl | rfl
    · obtain ⟨Φ, p1, p2⟩ := chkE_ok (EX := EXT) (l := l) (G := G) (lam := lam) MT_ok (fun _ _ _ _ => trivial) (fun k j hm => by cases hm) sun ic_3 (cAs := [vR (lam 0), vI 0]) (hh := h) ⟨rfl, ⟨0, rfl, inb_J (by decide) (by decide)⟩, trivial⟩ hC trivial
      rw [e0] at p1
      refine ⟨Φ, p1, fun r h' hq => ?_⟩
      obtain ⟨⟨z0, rfl, q1⟩, q2, q3⟩ := p2 r h' hq
      have hz0 : z0 = nI 0 := inb_nIe (n := 0) (by decide) q1
      subst hz0
      have hF : FRG lam [] h h' := FRG.of (fun q hq => hq) q2
      obtain ⟨o1, o2, o3⟩ := oth_c hF hd hM hX hx
      refine ⟨nI 0, rfl, md_of o1, ?_⟩
      exact img_g l G (b := 0) (b' := 0) (Or.inl rfl) (Or.inl rfl) hl h103 q3 o1 o2 o3 hd 0 (Or.inl rfl) (by decide) (hG.c hF hl h103 (by decide))
    · have hw : ∀ q, q ∈ ([(2, 2), (2, 3), (2, 4), (2, 5), (2, 6), (2, 7), (2, 8), (2, 9), (3, 999), (4, 999), (6, 999), (7, 999), (12, 1), (13, 999), (14, 1), (15, 999), (16, 1), (17, 999), (18, 1), (19, 999), (20, 1), (21, 999), (22, 1), (23, 999), (24, 1), (25, 999), (26, 1), (27, 999), (28, 1), (29, 999), (59, 2)] : List (Nat × Nat)) → wrC q.1 = true := by decide
      obtain ⟨Φ, p1, p2⟩ := chkE_ok (EX := EXT) (l := l) (G := G) (lam := lam) MT_ok (fun _ _ _ _ => trivial) (fun k j hm => hl k (hw (k, j) hm)) (suc (kc_q153_ok l G lam hl) sun) ic_2 (cAs := [vR (lam 0), vI 0]) (hh := h) ⟨rfl, ⟨0, rfl, inb_J (by decide) (by decide)⟩, trivial⟩ hC trivial
      rw [e0] at p1
      refine ⟨Φ, p1, fun r h' hq => ?_⟩
      obtain ⟨⟨z0, rfl, q1⟩, q2, q3⟩ := p2 r h' hq
      have hz0 : z0 = nI 1 := inb_nIe (n := 1) (by decide) q1
      subst hz0
      have hF : FRG lam [(2, 2), (2, 3), (2, 4), (2, 5), (2, 6), (2, 7), (2, 8), (2, 9), (3, 999), (4, 999), (6, 999), (7, 999), (12, 1), (13, 999), (14, 1), (15, 999), (16, 1), (17, 999), (18, 1), (19, 999), (20, 1), (21, 999), (22, 1), (23, 999), (24, 1), (25, 999), (26, 1), (27, 999), (28, 1), (29, 999), (59, 2)] h h' := FRG.of (fun q hq => hq) q2
      obtain ⟨o1, o2, o3⟩ := oth_c hF hd hM hX hx
      refine ⟨nI 1, rfl, md_of o1, ?_⟩
      exact img_g l G (b := 1) (b' := 1) (Or.inr rfl) (Or.inr rfl) (LAMC_s imgQ_1 imgQ_2 hl) (fun k hk => by rw [imgQ_1 k hk]; exact h103 k hk) (HOK_ren (n := 127) (by decide +kernel) rn_2 q3) o1 o2 o3 (fun k j hj => hd (imgQ k) j hj) 0 (Or.inl rfl) (by decide) (hG.c hF hl h103 (by decide))
  · have hw : ∀ q, q ∈ ([(0, 2), (31, 2), (31, 3), (31, 4), (31, 5), (31, 6), (31, 7), (31, 8), (31, 9), (32, 999), (33, 999), (35, 999), (36, 999), (41, 1), (42, 999), (43, 1), (44, 999), (45, 1), (46, 999), (47, 1), (48, 999), (49, 1), (50, 999), (51, 1), (52, 999), (53, 1), (54, 999), (55, 1), (56, 999), (57, 1), (58, 999)] : List (Nat × Nat)) → wrC q.1 = true := by decide
    obtain ⟨Φ, p1, p2⟩ := chkE_ok (EX := EXT) (l := l) (G := G) (lam := lam) MT_ok (fun _ _ _ _ => trivial) (fun k j hm => hl k (hw (k, j) hm)) (suc (kc_q154_ok l G lam hl) sun) ic_1 (cAs := [vR (lam 0), vI 1]) (hh := h) ⟨rfl, ⟨1, rfl, inb_J (by decide) (by decide)⟩, trivial⟩ hT trivial
    rw [e0] at p1
    refine ⟨Φ, p1, fun r h' hq => ?_⟩
    obtain ⟨⟨z0, rfl, q1⟩, q2, q3⟩ := p2 r h' hq
    have hz0 : z0 = nI 1 := inb_nIe (n := 1) (by decide) q1
    subst hz0
    have hF : FRG lam [(0, 2), (31, 2), (31, 3), (31, 4), (31, 5), (31, 6), (31, 7), (31, 8), (31, 9), (32, 999), (33, 999), (35, 999), (36, 999), (41, 1), (42, 999), (43, 1), (44, 999), (45, 1), (46, 999), (47, 1), (48, 999), (49, 1), (50, 999), (51, 1), (52, 999), (53, 1), (54, 999), (55, 1), (56, 999), (57, 1), (58, 999)] h h' := FRG.of (fun q hq => hq) q2
    obtain ⟨o1, o2, o3⟩ := oth_c hF hd hM hX hx
    refine ⟨nI 1, rfl, md_of o1, ?_⟩
    exact img_g l G (b := b) (b' := 1) hb (Or.inr rfl) (LAMC_s imgP_1 imgP_2 hl) (fun k hk => by rw [imgP_1 k hk]; exact h103 k hk) (HOK_ren (n := 127) (by decide +kernel) rn_1 q3) o1 o2 o3 (fun k j hj => hd (imgP k) j hj) 1 (Or.inr rfl) ⟨fun q => absurd q (by decide), fun q => absurd q.1 (by decide)⟩ (hG.c hF hl h103 (by decide))
