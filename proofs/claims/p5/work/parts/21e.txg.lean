/-! texts and the game between rounds -/
theorem LR_fl {nm : Nat} {H h : PH} {z : Nat → Int32} {f : Nat → FA} (hR : Rep rdF H (lamM nm) 43 (LR z f) h) {j : Nat} (hj : j ∈ 12 :: KZ) : FLD h nm j (z j) := by
  have h0 := hR.2.1 0 _ rfl
  refine ⟨12, _, h0, ?_⟩
  have key : j = 12 ∨ j = 6 ∨ j = 43 ∨ j = 46 ∨ j = 50 ∨ j = 52 ∨ j = 54 ∨ j = 57 ∨ j = 61 ∨ j = 63 ∨ j = 65 ∨ j = 73 := by
    simpa [KZ] using hj
  rcases key with rfl | rfl | rfl | rfl | rfl | rfl | rfl | rfl | rfl | rfl | rfl | rfl <;> rfl
theorem LR_at {nm : Nat} {H h : PH} {z : Nat → Int32} {f : Nat → FA} (hR : Rep rdF H (lamM nm) 43 (LR z f) h) (p : Nat) : ATP h (nm + 42) p (f 42 p) := ⟨_, _, hR.2.1 42 _ (LR_X z f 42 (by decide)), rfl⟩
theorem ATP.inj {h : PH} {a p : Nat} {x y : Int32} (h1 : ATP h a p x) (h2 : ATP h a p y) : x = y := by
  obtain ⟨N, f, e1, e2⟩ := h1
  obtain ⟨N', f', e3, e4⟩ := h2
  have e := Option.some.inj (e1.symm.trans e3)
  have e5 : f = f' := by
    injection e with e
    injection e with e
    exact (Prod.mk.inj (Prod.mk.inj e).2).2
  subst e5
  exact e2.symm.trans e4
theorem lib_of_r {lam : Nat → Nat} {b nc nm : Nat} {h h' : PH} {z z' : Nat → Int32} {f f' : Nat → FA} (hI : LIB lam b nc nm h) (hR : Rep rdF h (lamM nm) 43 (LR z f) h) (hR1 : Rep rdF h (lamM nm) 43 (LR z' f') h') (hz : BNDz z') (hB : BNDf f') (hE : EXF f') (h73 : z' 73 = z 73) : LIB lam b nc nm h' := by
  obtain ⟨hb, hl, h103, hC, hM, hX, hx, hd⟩ := hI
  refine ⟨hb, hl, h103, fun k c hc => ?_, HOK_of hR1 hz hB, EXR_of hR1 hE, ?_, hd⟩
  · obtain ⟨x, hx, hcx⟩ := hC k c hc
    exact ⟨x, by rw [hR1.2.2.2 (lam k) (fun j hj => hd k j hj)]; exact hx, hcx⟩
  · have e := FLD.inj hx (LR_fl hR (j := 73) (by decide))
    rw [e, ← h73]
    exact LR_fl hR1 (by decide)
/-- cells of the class over an exact run of the reference -/
theorem cl_of_r {lam : Nat → Nat} {b nc nm : Nat} {h h' : PH} {L : QH FA} (hI : LIB lam b nc nm h) (hR1 : Rep rdF h (lamM nm) 43 L h') {k j : Nat} {x : Int32} (hk : k < 103) (hx : FLD h (nc + k) j x) : FLD h' (nc + k) j x := by
  obtain ⟨c, fs, h1, h2⟩ := hx
  refine ⟨c, fs, ?_, h2⟩
  rw [hR1.2.2.2 (nc + k) (fun j hj e => hI.2.2.2.2.2.2.2 k j hj ((hI.2.2.1 k hk).trans e))]
  exact h1
def okK (ps : List (Nat × Nat × Nat)) : Bool := ps.all (fun p => Nat.blt p.1 103 && KZ.contains p.2.2)
theorem rlx_of_r {ps qs : List (Nat × Nat × Nat)} {lam : Nat → Nat} {b nc nm : Nat} {h h' : PH} {z z' : Nat → Int32} {f f' : Nat → FA} (hI : LIB lam b nc nm h) (hR : RLX ps qs b nc nm h) (hr : Rep rdF h (lamM nm) 43 (LR z f) h) (hr1 : Rep rdF h (lamM nm) 43 (LR z' f') h') (hps : okK ps = true) (hqs : qs.all (fun p => Nat.blt p.1 103) = true) (hk : TKp z f z' f') : RLX ps qs b nc nm h' := by
  refine ⟨fun p hp => ?_, fun hb p hp => ?_⟩
  · have h1 := List.all_eq_true.mp hps p hp
    rw [Bool.and_eq_true] at h1
    have h2 : p.2.2 ∈ KZ := List.contains_iff_mem.mp h1.2
    obtain ⟨x, g1, g2⟩ := hR.1 p hp
    refine ⟨x, cl_of_r hI hr1 (Nat.blt_eq.mp h1.1) g1, ?_⟩
    have e := FLD.inj g2 (LR_fl hr (List.mem_cons_of_mem _ h2))
    rw [e, ← hk.1 _ h2]
    exact LR_fl hr1 (List.mem_cons_of_mem _ h2)
  · obtain ⟨x, g1, g2⟩ := hR.2 hb p hp
    refine ⟨x, cl_of_r hI hr1 (Nat.blt_eq.mp (List.all_eq_true.mp hqs p hp)) g1, ?_⟩
    have e := ATP.inj g2 (LR_at hr p.2.2)
    rw [e, ← hk.2]
    exact LR_at hr1 p.2.2
theorem lx_text_c {ps qs : List (Nat × Nat × Nat)} (l : Launch) (G : PG) {nc nm : Nat} {h : PH} (hI : LIX ps qs nc nm h) (h1 : okC ps txE = true) (h2 : okC qs txE = true) (kd : Int32) : ∃ Φ0, PMet l G yX11_text cX11_text 3 (some .int) 31 3 488 [vR nc, vI kd] h Φ0 ∧ ∀ r h', Φ0 r h' → (∃ x, r = some (vI x)) ∧ LIX ps qs nc nm h' := by
  obtain ⟨lam, b, hB, hR⟩ := hI
  have hB' := hB
  obtain ⟨hb, hl, h103, hC, hM, hX, hx, hd⟩ := hB
  have hb1 : b ≤ 1 := by omega
  have e0 : lam 0 = nc := h103 0 (by decide)
  have hP := text_ok l G lam hl (kd := kd) (TB_TC hb1 hC)
  rw [e0] at hP
  refine ⟨_, hP, ?_⟩
  rintro r h' ⟨x, rfl, lam', hl', hH', hF, hk, hk103⟩
  have hlt : ∀ j, j < 43 → nm + j < h.length := fun j hj => by
    have hc : ∃ c, nth TRf j = some c := by
      rw [nth_eq]
      exact ⟨_, List.getElem?_eq_getElem (by rw [TRf_len]; exact hj)⟩
    obtain ⟨c, hc⟩ := hc
    obtain ⟨y, hy, -⟩ := hM j c hc
    exact (List.getElem?_eq_some_iff.mp hy).1
  obtain ⟨o1, o2, o3⟩ := oth_c hF hd hM hX hx
  have hd' : ∀ k j, j < 43 → lam' k ≠ nm + j := fun k j hj z => by
    rcases hk k with e | e
    · exact hd k j hj (e ▸ z)
    · have := hlt j hj
      omega
  exact ⟨⟨x, rfl⟩, lam', b, ⟨hb, hl', fun k hk => (hk103 k hk).trans (h103 k hk), TC_TB hl hC hH' (hk103 0 (by decide)) hF (by decide), o1, o2, o3, hd'⟩, hR.c hF hl h103 hd h1 h2⟩
theorem lx_text_r {ps qs : List (Nat × Nat × Nat)} (l : Launch) (G : PG) {nc nm : Nat} {h : PH} (hI : LIX ps qs nc nm h) (hps : okK ps = true) (hqs : qs.all (fun p => Nat.blt p.1 103) = true) (x : Int32) : CQX ps qs l G nc nm h (mY 280) (mC 280) (mN 280) (mR 280) 11 [vR nm, vI x] := by
  obtain ⟨lam, b, hB, hR⟩ := hI
  obtain ⟨z, f, hr⟩ := LR_rep hB.2.2.2.2.1
  obtain ⟨r, z', f', hc, g1, g2, g3, g4, g5⟩ := text_x 0 x (BNDz_of hB.2.2.2.2.1 hr) (BNDf_of hB.2.2.2.2.1 hr) (EXF_of hB.2.2.2.2.2.1 hr)
  refine ⟨_, pm_of (lamM_i nm) hc hr, ?_⟩
  rintro r1 h1 ⟨rfl, hR1⟩
  exact ⟨⟨r, rfl⟩, lam, b, lib_of_r hB hr hR1 g1 g2 g3 (g4.1 73 (by decide)), rlx_of_r hB hR hr hR1 hps hqs g4⟩
theorem lx_game_c {ps qs : List (Nat × Nat × Nat)} (l : Launch) (G : PG) {nc nm : Nat} {h : PH} (hI : LIX ps qs nc nm h) (h1 : okC ps [(92, 2), (92, 3), (93, 999), (94, 999)] = true) (h2 : okC qs [(92, 2), (92, 3), (93, 999), (94, 999)] = true) (x y : Int32) : CQX ps qs l G nc nm h (mY 34) (mC 34) (mN 34) (mR 34) 22 [vR nc, vI x, vI y] := by
  obtain ⟨lam, b, hB, hR⟩ := hI
  have hB' := hB
  obtain ⟨hb, hl, h103, hC, hM, hX, hx, hd⟩ := hB
  have e0 : lam 0 = nc := h103 0 (by decide)
  obtain ⟨Φ0, hP, hQ⟩ := game_c l G hl hC x y
  rw [e0] at hP
  refine ⟨Φ0, hP, fun r h' hr => ?_⟩
  obtain ⟨q1, q2, q3⟩ := hQ r h' hr
  have hF := FRG.of (fun q hq => hq) q3
  obtain ⟨o1, o2, o3⟩ := oth_c hF hd hM hX hx
  exact ⟨q1, lam, b, ⟨hb, hl, h103, q2, o1, o2, o3, hd⟩, hR.c hF hl h103 hd h1 h2⟩
theorem lx_game_r {ps qs : List (Nat × Nat × Nat)} (l : Launch) (G : PG) {nc nm : Nat} {h : PH} (hI : LIX ps qs nc nm h) (hps : okK ps = true) (hqs : qs.all (fun p => Nat.blt p.1 103) = true) (x y : Int32) : CQX ps qs l G nc nm h (mY 69) (mC 69) (mN 69) (mR 69) 5 [vR nm, vI x, vI y] := by
  obtain ⟨lam, b, hI, hR⟩ := hI
  obtain ⟨z, f, hr⟩ := LR_rep hI.2.2.2.2.1
  obtain ⟨r, z', f', hc, g1, g2⟩ := game_r 0 x y z f
  have hz := BNDz_of hI.2.2.2.2.1 hr
  have hB := BNDf_of hI.2.2.2.2.1 hr
  have hE := EXF_of hI.2.2.2.2.2.1 hr
  refine ⟨_, pm_of (lamM_i nm) hc hr, ?_⟩
  rintro r1 h1 ⟨rfl, hR1⟩
  have ez : ∀ j, j ≠ 0 → j ≠ 70 → j ≠ 71 → z' j = z j := fun j j0 j1 j2 => by
    rw [g1 j j1 j2]
    exact if_neg j0
  have b1 : BNDz z' := by
    intro e he
    have key : ∀ e, e ∈ FBl → e.1 ≠ 0 ∧ e.1 ≠ 70 ∧ e.1 ≠ 71 := by decide
    obtain ⟨k0, k1, k2⟩ := key e he
    rw [ez e.1 k0 k1 k2]
    exact hz e he
  have b2 : BNDf f' := by
    intro k k1 k2
    by_cases c0 : k = 40
    · subst c0
      exact ⟨⟨fun j _ => inb_top _, trivial⟩, PRD_0⟩
    by_cases c1 : k = 41
    · subst c1
      exact ⟨⟨fun j _ => inb_top _, trivial⟩, PRD_0⟩
    rw [g2 k c0 c1]
    exact hB k k1 k2
  have b3 : EXF f' := by
    refine hE.tr (fun k hk => g2 k ?_ ?_)
    · rintro rfl
      revert hk
      decide
    · rintro rfl
      revert hk
      decide
  exact ⟨⟨r, rfl⟩, lam, b, lib_of_r hI hr hR1 b1 b2 b3 (ez 73 (by decide) (by decide) (by decide)), rlx_of_r hI hR hr hR1 hps hqs ⟨fun j hj => ez j (kzn hj rfl) (kzn hj rfl) (kzn hj rfl), g2 42 (by decide) (by decide)⟩⟩
set_option maxRecDepth 100000 in
theorem LIX.cl {ps qs : List (Nat × Nat × Nat)} {nc nm : Nat} {h : PH} (hI : LIX ps qs nc nm h) : ∃ fs, h[nc]? = some (eO 11 fs) := by
  obtain ⟨lam, b, ⟨hb, hl, h103, hC, -⟩, -⟩ := hI
  obtain ⟨x, hx, g⟩ := hC 0 _ rfl
  obtain ⟨fs, rfl, -⟩ := g
  rw [h103 0 (by decide)] at hx
  exact ⟨fs, hx⟩
set_option maxRecDepth 100000 in
theorem LIX.md {ps qs : List (Nat × Nat × Nat)} {nc nm : Nat} {h : PH} (hI : LIX ps qs nc nm h) : ∃ fs, h[nm]? = some (eO 12 fs) := by
  obtain ⟨lam, b, ⟨hb, hl, h103, hC, hM, -⟩, -⟩ := hI
  obtain ⟨x, hx, g⟩ := hM 0 _ rfl
  obtain ⟨fs, rfl, -⟩ := g
  exact ⟨fs, hx⟩
set_option maxRecDepth 100000 in
theorem md_of {nm : Nat} {h : PH} (hM : HOK (lamM nm) [] TRf h) : ∃ fs, h[nm]? = some (eO 12 fs) := by
  obtain ⟨x, hx, g⟩ := hM 0 _ rfl
  obtain ⟨fs, rfl, -⟩ := g
  exact ⟨fs, hx⟩
