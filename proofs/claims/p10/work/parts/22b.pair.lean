/-! feed, end, text and image over the tape -/
theorem lib_cT {lam : Nat → Nat} {b nc nm : Nat} {h h' : PH} {eff : List (Nat × Nat)} (hI : LIB lam b nc nm h) (hw : eff.all (fun e => !(e.1 == 0 && e.2 == 2)) = true) (q2 : FRM lam eff h h') (q3 : HOK lam [] TCl h') : LIB lam b nc nm h' ∧ FRG lam eff h h' := by
  obtain ⟨hb, hl, h103, hC, hM, hX, hx, hd⟩ := hI
  have hF : FRG lam eff h h' := FRG.of (fun q hq => hq) q2
  obtain ⟨o1, o2, o3⟩ := oth_c hF hd hM hX hx
  refine ⟨⟨hb, hl, h103, TC_TB hl hC q3 rfl hF (fun z => ?_), o1, o2, o3, hd⟩, hF⟩
  have := List.all_eq_true.mp hw _ z
  exact absurd this (by decide)
theorem lib_rT {lam : Nat → Nat} {b nc nm : Nat} {h h' : PH} {eff : List (Nat × Nat)} (hI : LIB lam b nc nm h) (hw : eff.all (fun e => wrR e.1 && !(e.1 == 0 && e.2 == 73)) = true) (q2 : FRM (lamM nm) eff h h') (q3 : HOK (lamM nm) [] TRf h') : LIB lam b nc nm h' ∧ FRG (lamM nm) eff h h' := by
  obtain ⟨hb, hl, h103, hC, hM, hX, hx, hd⟩ := hI
  have hw1 : ∀ q, q ∈ eff → wrR q.1 = true ∧ q ≠ (0, 73) := fun q hq => by
    have := List.all_eq_true.mp hw q hq
    simp only [Bool.and_eq_true, Bool.not_eq_true', Bool.and_eq_false_iff, beq_eq_false_iff_ne] at this
    refine ⟨this.1, fun z => ?_⟩
    subst z
    rcases this.2 with t | t <;> exact t rfl
  have hwa : eff.all (fun e => wrR e.1) = true := List.all_eq_true.mpr (fun q hq => (hw1 q hq).1)
  have hF : FRG (lamM nm) eff h h' := FRG.of (fun q hq => hq) q2
  have hn : ∀ k j, (k, j) ∈ eff → ∀ k', k' < 127 → lamM nm k ≠ lam k' := fun k j hm k' hk' z => hd k' k (by have := wrR_lt (hw1 _ hm).1; omega) z.symm
  refine ⟨⟨hb, hl, h103, HOK_other hF (fun k j hm k' hk' => hn k j hm k' (by rw [TBc_len] at hk'; exact hk')) hC, q3, EXK_of (lamM_r nm) eff hwa h h' hX q2, hx.keep hF (fun k hm e => ?_), hd⟩, hF⟩
  have e1 : k = 0 := by
    have : nm + k = nm := e
    omega
  subst e1
  exact (hw1 _ hm).2 rfl
/-- one side of a pair over the tape -/
def TPC (l : Launch) (G : PG) (lam : Nat → Nat) (b nc nm : Nat) (h : PH) (k d : Nat) (As : List PV) (x' v : Int32) : Prop := ∃ Φ0, PMet l G (mY k) (mC k) (mN k) (mR k) d 0 0 (vR nc :: As) h Φ0 ∧ ∀ r h', Φ0 r h' → r = some (vI v) ∧ LIB lam b nc nm h' ∧ (∃ W, FRG lam W h h') ∧ FLD h' (nc + 79) 1 x'
def TPR (l : Launch) (G : PG) (lam : Nat → Nat) (b nc nm : Nat) (h : PH) (k d : Nat) (As : List PV) (x' v : Int32) : Prop := ∃ Φ0, PMet l G (mY k) (mC k) (mN k) (mR k) d 0 0 (vR nm :: As) h Φ0 ∧ ∀ r h', Φ0 r h' → r = some (vI v) ∧ LIB lam b nc nm h' ∧ (∃ W, W.all (fun e => wrR e.1) = true ∧ FRG (lamM nm) W h h') ∧ FLD h' nm 12 x'
theorem tp_cl {lam : Nat → Nat} {b nc nm : Nat} {h h' : PH} {W : List (Nat × Nat)} {k j : Nat} {x : Int32} (hI : LIB lam b nc nm h) (hw : W.all (fun e => wrR e.1) = true) (hF : FRG (lamM nm) W h h') (hk : k < 103) (hx : FLD h (nc + k) j x) : FLD h' (nc + k) j x := hx.keep hF (fun k' hm e => hI.2.2.2.2.2.2.2 k k' (by have := wrR_lt (List.all_eq_true.mp hw _ hm); omega) ((hI.2.2.1 k hk).trans e.symm))
theorem tp_lix {lam : Nat → Nat} {b nc nm : Nat} {h : PH} {x : Int32} (hI : LIB lam b nc nm h) (h1 : FLD h (nc + 79) 1 x) (h2 : FLD h nm 12 x) : LIX pS qS nc nm h := ⟨lam, b, hI, fun p hp => by obtain rfl := List.mem_singleton.mp hp; exact ⟨x, h1, h2⟩, fun _ p hp => by cases hp⟩
theorem tp_pair (l : Launch) (G : PG) {lam : Nat → Nat} {b nc nm kc dc kr dr : Nat} {h : PH} {As : List PV} {x x' v : Int32} (hI : LIB lam b nc nm h) (hn : FLD h nm 12 x) (hc : TPC l G lam b nc nm h kc dc As x' v) (hr : ∀ h', LIB lam b nc nm h' → FLD h' nm 12 x → TPR l G lam b nc nm h' kr dr As x' v) : PRX pS qS l G nc nm h kc dc kr dr As := by
  obtain ⟨Φ0, hP, hQ⟩ := hc
  refine ⟨Φ0, hP, fun r h' hr0 => ?_⟩
  obtain ⟨rfl, q2, ⟨W, q3⟩, q4⟩ := hQ r h' hr0
  have hn' : FLD h' nm 12 x := hn.other q3 (fun k => hI.2.2.2.2.2.2.2 k 0 (by decide))
  refine ⟨v, rfl, md_of q2.2.2.2.2.1, ?_⟩
  obtain ⟨Φ1, hP1, hQ1⟩ := hr h' q2 hn'
  refine ⟨Φ1, hP1, fun r1 h1' hr1 => ?_⟩
  obtain ⟨rfl, p2, ⟨Wr, hw, p3⟩, p4⟩ := hQ1 r1 h1' hr1
  exact ⟨rfl, tp_lix p2 (tp_cl q2 hw p3 (by decide) q4) p4⟩
theorem tp_n {lam : Nat → Nat} {b nc nm : Nat} {h : PH} {x : Int32} (hB : LIB lam b nc nm h) (g1 : FLD h (nc + 79) 1 x) : HOK lam [] TCl h ∧ lam 79 = nc + 79 ∧ lam 0 = nc ∧ ∃ n, n ≤ 400 ∧ x = nI n := by
  have hb1 : b ≤ 1 := by have := hB.1; omega
  have hC : HOK lam [] TCl h := TB_TC hb1 hB.2.2.2.1
  have ecc : lam 79 = nc + 79 := hB.2.2.1 79 (by decide)
  refine ⟨hC, ecc, hB.2.2.1 0 (by decide), ?_⟩
  obtain ⟨fs, q1, rr⟩ := rt_cell hC
  obtain ⟨y, gy, z, rfl, hz⟩ := R2.get (j := 1) rr rfl
  rw [ecc] at q1
  cases FLD.inj g1 ⟨_, _, q1, gy⟩
  exact nI_of_inb (by decide) hz
theorem feed_pair (l : Launch) (G : PG) {nc nm : Nat} {h : PH} (hI : LIX pS qS nc nm h) (a1 a2 a3 a4 a5 : Int32) : PRX pS qS l G nc nm h 160 2 211 2 [vI a1, vI a2, vI a3, vI a4, vI a5] := by
  obtain ⟨lam, b, hB, hR⟩ := hI
  obtain ⟨x, g1, g2⟩ := hR.1 (79, 1, 12) (List.mem_singleton.mpr rfl)
  obtain ⟨hC, ecc, e0, n, hn, rfl⟩ := tp_n hB g1
  have hl := hB.2.1
  by_cases c : n ≤ 380
  · have hin : inb 2147483648 2147484028 (nI n) := ⟨by rw [ky_nI (by omega)]; omega, by rw [ky_nI (by omega)]; omega⟩
    have hE : EnvOK [((2147483648, 2147484028, 9, 0, 0) : SE)] [nI n] := ⟨⟨hin, fun q => absurd q (by decide)⟩, trivial⟩
    refine tp_pair l G (x := nI n) (x' := nI n + nI 20) (v := nI n + nI 20) hB g2 ?_ (fun h2 hB2 hn2 => ?_)
    · have hw : ∀ q, q ∈ ([(79, 1), (80, 999)] : List (Nat × Nat)) → wrC q.1 = true := by decide
      obtain ⟨Φ0, hP, hQ⟩ := chkA_ok (x0 := nI n) (EX := EXT) (l := l) (G := G) (lam := lam) MT2_ok (fun _ _ _ _ => trivial) (fun k j hm => hl k (hw (k, j) hm)) ff_1 (cAs := [vR nc, vI a1, vI a2, vI a3, vI a4, vI a5]) (hh := h) hE ⟨by rw [← e0]; rfl, ⟨_, rfl, inb_top _⟩, ⟨_, rfl, inb_top _⟩, ⟨_, rfl, inb_top _⟩, ⟨_, rfl, inb_top _⟩, ⟨_, rfl, inb_top _⟩, trivial⟩ (HOK_fixF (HOK_up1 hC) (by rw [ecc]; exact g1) ⟨_, val_s, rfl⟩) trivial
      refine ⟨Φ0, hP, fun r h' hr => ?_⟩
      obtain ⟨q1, q2, q3, q4⟩ := hQ r h' hr
      obtain ⟨L, F⟩ := lib_cT hB (by decide) q2 q3
      exact ⟨q1, L, ⟨_, F⟩, by rw [← ecc]; exact q4⟩
    · have hwa : ([(0, 0), (0, 12), (8, 999)] : List (Nat × Nat)).all (fun e => wrR e.1) = true := by decide
      obtain ⟨Φ0, hP, hQ⟩ := chkA_ok (x0 := nI n) (EX := EXR (lamM nm)) (l := l) (G := G) (lam := lamM nm) MT_ok (EXK_of (lamM_r nm) _ hwa) (fun k j hm => lamM_r nm k (List.all_eq_true.mp hwa (k, j) hm)) fr_1 (cAs := [vR nm, vI a1, vI a2, vI a3, vI a4, vI a5]) (hh := h2) hE ⟨rfl, ⟨_, rfl, inb_top _⟩, ⟨_, rfl, inb_top _⟩, ⟨_, rfl, inb_top _⟩, ⟨_, rfl, inb_top _⟩, ⟨_, rfl, inb_top _⟩, trivial⟩ (HOK_fixF (HOK_up1 hB2.2.2.2.2.1) (k := 0) hn2 ⟨_, val_s, rfl⟩) hB2.2.2.2.2.2.1
      refine ⟨Φ0, hP, fun r h' hr => ?_⟩
      obtain ⟨q1, q2, q3, q4⟩ := hQ r h' hr
      obtain ⟨L, F⟩ := lib_rT hB2 (by decide) q2 q3
      exact ⟨q1, L, ⟨_, hwa, F⟩, q4⟩
  · have hin : inb 2147484029 2147484048 (nI n) := ⟨by rw [ky_nI (by omega)]; omega, by rw [ky_nI (by omega)]; omega⟩
    refine tp_pair l G (x := nI n) (x' := nI n) (v := -1) hB g2 ?_ (fun h2 hB2 hn2 => ?_)
    · obtain ⟨Φ0, hP, hQ⟩ := ow_c1 l G (As := [vI a1, vI a2, vI a3, vI a4, vI a5]) ff_2 rfl sb_C hB (HOK_fixF hC (by rw [ecc]; exact g1) ⟨_, rfl, hin⟩) ⟨by rw [← e0]; rfl, ⟨_, rfl, inb_top _⟩, ⟨_, rfl, inb_top _⟩, ⟨_, rfl, inb_top _⟩, ⟨_, rfl, inb_top _⟩, ⟨_, rfl, inb_top _⟩, trivial⟩
      refine ⟨Φ0, hP, fun r h' hr => ?_⟩
      obtain ⟨⟨z, rfl, hz⟩, q2, q3, q4⟩ := hQ r h' hr
      have hF : FRG lam [] h h' := FRG.of (fun q hq => hq) q3
      exact ⟨by rw [inb_m1 hz], q2, ⟨_, hF⟩, g1.keep hF (fun k hm => by cases hm)⟩
    · obtain ⟨Φ0, hP, hQ⟩ := ow_r1 l G (As := [vI a1, vI a2, vI a3, vI a4, vI a5]) fr_2 (by decide) sb_R hB2 (HOK_fixF hB2.2.2.2.2.1 (k := 0) hn2 ⟨_, rfl, hin⟩) ⟨rfl, ⟨_, rfl, inb_top _⟩, ⟨_, rfl, inb_top _⟩, ⟨_, rfl, inb_top _⟩, ⟨_, rfl, inb_top _⟩, ⟨_, rfl, inb_top _⟩, trivial⟩
      refine ⟨Φ0, hP, fun r h' hr => ?_⟩
      obtain ⟨⟨z, rfl, hz⟩, q2, q3, q4⟩ := hQ r h' hr
      have hF : FRG (lamM nm) [(0, 0)] h2 h' := FRG.of (fun q hq => hq) q3
      refine ⟨by rw [inb_m1 hz], q2, ⟨_, by decide, hF⟩, hn2.keep hF (fun k hm => ?_)⟩
      have := List.mem_singleton.mp hm
      cases this
theorem end_pair (l : Launch) (G : PG) {nc nm : Nat} {h : PH} (hI : LIX pS qS nc nm h) (y : Int32) : PRX pS qS l G nc nm h 158 1 206 2 [vI y] := by
  obtain ⟨lam, b, hB, hR⟩ := hI
  obtain ⟨x, g1, g2⟩ := hR.1 (79, 1, 12) (List.mem_singleton.mpr rfl)
  obtain ⟨hC, ecc, e0, n, hn, rfl⟩ := tp_n hB g1
  have hl := hB.2.1
  have ly := ky_lim y
  have out : ∀ lo hi : Nat, inb lo hi y → chkE TCl TCl TCl [] MT 20000 (158, 1, [.inr (.inl (some 0)), .inr (.inr (.inr (lo, hi)))], some (2147483648, 2147483648), []) = true → chkE TRf TRf TRf [] MT 20000 (206, 2, [.inr (.inl (some 0)), .inr (.inr (.inr (lo, hi)))], some (2147483648, 2147483648), [(0, 0)]) = true → PRX pS qS l G nc nm h 158 1 206 2 [vI y] := by
    intro lo hi hb f1 f2
    refine tp_pair l G (x := nI n) (x' := nI n) (v := nI 0) hB g2 ?_ (fun h2 hB2 hn2 => ?_)
    · obtain ⟨Φ0, hP, hQ⟩ := ow_c1 l G (As := [vI y]) f1 rfl sb_C hB hC ⟨by rw [← e0]; rfl, ⟨_, rfl, hb⟩, trivial⟩
      refine ⟨Φ0, hP, fun r h' hr => ?_⟩
      obtain ⟨⟨z, rfl, hz⟩, q2, q3, q4⟩ := hQ r h' hr
      have hF : FRG lam [] h h' := FRG.of (fun q hq => hq) q3
      exact ⟨by rw [inb_nIe (n := 0) (by decide) hz], q2, ⟨_, hF⟩, g1.keep hF (fun k hm => by cases hm)⟩
    · obtain ⟨Φ0, hP, hQ⟩ := ow_r1 l G (As := [vI y]) f2 (by decide) sb_R hB2 hB2.2.2.2.2.1 ⟨rfl, ⟨_, rfl, hb⟩, trivial⟩
      refine ⟨Φ0, hP, fun r h' hr => ?_⟩
      obtain ⟨⟨z, rfl, hz⟩, q2, q3, q4⟩ := hQ r h' hr
      have hF : FRG (lamM nm) [(0, 0)] h2 h' := FRG.of (fun q hq => hq) q3
      refine ⟨by rw [inb_nIe (n := 0) (by decide) hz], q2, ⟨_, by decide, hF⟩, hn2.keep hF (fun k hm => ?_)⟩
      have := List.mem_singleton.mp hm
      cases this
  by_cases c1 : ky y ≤ 2147483647
  · exact out 0 2147483647 ⟨Nat.zero_le _, c1⟩ ee_3 er_3
  by_cases c2 : 2147484049 ≤ ky y
  · exact out 2147484049 4294967295 ⟨c2, by omega⟩ ee_4 er_4
  have hiy : inb 2147483648 2147484048 y := ⟨by omega, by omega⟩
  have hin : inb 2147483648 2147484048 (nI n) := ⟨by rw [ky_nI (by omega)]; omega, by rw [ky_nI (by omega)]; omega⟩
  have hE : EnvOK [((2147483648, 2147484048, 9, 0, 0) : SE), (2147483648, 2147484048, 9, 0, 0)] [y, nI n] := ⟨⟨hiy, fun q => absurd q (by decide)⟩, ⟨hin, fun q => absurd q (by decide)⟩, trivial⟩
  have up2 : ∀ {mu : Nat → Nat} {T : List AC} {h2 : PH}, HOK mu [] T h2 → HOK mu [y, nI n] T h2 := fun hH k c hc => by
    obtain ⟨w, hw, hcw⟩ := hH k c hc
    exact ⟨w, hw, hcw.up [y, nI n]⟩
  have hw : ∀ q, q ∈ ([(79, 1)] : List (Nat × Nat)) → wrC q.1 = true := by decide
  obtain ⟨Φ0, hP, hQ⟩ := chkW_ok (x := nI n) (y := y) (EX := EXT) (l := l) (G := G) (lam := lam) MT_ok (fun _ _ _ _ => trivial) (fun k j hm => hl k (hw (k, j) hm)) ee_1 (cAs := [vR nc, vI y]) (hh := h) rfl hE ⟨by rw [← e0]; rfl, ⟨y, val_2.2, rfl⟩, trivial⟩ (HOK_fixF (up2 hC) (by rw [ecc]; exact g1) ⟨_, val_2.1, rfl⟩) trivial
  refine ⟨Φ0, hP, fun r h' hr => ?_⟩
  obtain ⟨q1, q2, q3⟩ := hQ r h' hr
  obtain ⟨L, F⟩ := lib_cT hB (by decide) q2 q3
  have hn' : FLD h' nm 12 (nI n) := g2.other F (fun k => hB.2.2.2.2.2.2.2 k 0 (by decide))
  have hwa : ([(0, 0), (0, 12)] : List (Nat × Nat)).all (fun e => wrR e.1) = true := by decide
  obtain ⟨Φ1, hP1, hQ1⟩ := chkW_ok (x := nI n) (y := y) (EX := EXR (lamM nm)) (l := l) (G := G) (lam := lamM nm) MT_ok (EXK_of (lamM_r nm) _ hwa) (fun k j hm => lamM_r nm k (List.all_eq_true.mp hwa (k, j) hm)) er_1 (cAs := [vR nm, vI y]) (hh := h') rfl hE ⟨rfl, ⟨y, val_2.2, rfl⟩, trivial⟩ (HOK_fixF (up2 L.2.2.2.2.1) (k := 0) hn' ⟨_, val_2.1, rfl⟩) L.2.2.2.2.2.1
  rcases q1 with ⟨rfl, k1, k2⟩ | ⟨rfl, k1, k2⟩
  · refine ⟨nI 1, rfl, md_of L.2.2.2.2.1, Φ1, hP1, fun r1 h1 hr1 => ?_⟩
    obtain ⟨p1, p2, p3⟩ := hQ1 r1 h1 hr1
    obtain ⟨L1, F1⟩ := lib_rT L (by decide) p2 p3
    rcases p1 with ⟨rfl, j1, j2⟩ | ⟨rfl, j1, j2⟩
    · rw [ecc] at k2
      exact ⟨rfl, tp_lix L1 (tp_cl L hwa F1 (by decide) k2) j2⟩
    · omega
  · refine ⟨nI 0, rfl, md_of L.2.2.2.2.1, Φ1, hP1, fun r1 h1 hr1 => ?_⟩
    obtain ⟨p1, p2, p3⟩ := hQ1 r1 h1 hr1
    obtain ⟨L1, F1⟩ := lib_rT L (by decide) p2 p3
    rcases p1 with ⟨rfl, j1, j2⟩ | ⟨rfl, j1, j2⟩
    · omega
    · rw [ecc] at k2
      exact ⟨rfl, tp_lix L1 (tp_cl L hwa F1 (by decide) k2) j2⟩
/-- text: both tapes are empty then -/
theorem text_pair (l : Launch) (G : PG) {nc nm : Nat} {h : PH} (hI : LIX pS qS nc nm h) (kd : Int32) : ∃ Φ0, PMet l G yX11_text cX11_text 3 (some .int) 31 3 488 [vR nc, vI kd] h Φ0 ∧ ∀ r h', Φ0 r h' → (∃ v, r = some (vI v)) ∧ (∃ fs, h'[nm]? = some (eO 12 fs)) ∧ ∃ Φ1, PMet l G (mY 280) (mC 280) (mN 280) (mR 280) 11 0 0 [vR nm, vI kd] h' Φ1 ∧ ∀ r1 h1, Φ1 r1 h1 → (∃ v, r1 = some (vI v)) ∧ LIX pS qS nc nm h1 := by
  obtain ⟨lam, b, hB, hR⟩ := hI
  obtain ⟨hb, hl, h103, hC, hM, hX, hx, hd⟩ := hB
  have hb1 : b ≤ 1 := by omega
  have e0 : lam 0 = nc := h103 0 (by decide)
  have hP := text_ok l G lam hl (kd := kd) (TB_TC hb1 hC)
  rw [e0] at hP
  refine ⟨_, hP, ?_⟩
  rintro r h' ⟨x, rfl, lam', hl', hH', hF, hk, hk103, hZ⟩
  have hlt : ∀ j, j < 43 → nm + j < h.length := fun j hj => by
    have hc : ∃ c, nth TRf j = some c := by
      rw [nth_eq]
      exact ⟨_, List.getElem?_eq_getElem (by rw [TRf_len]; exact hj)⟩
    obtain ⟨c, hc⟩ := hc
    obtain ⟨y, hy, -⟩ := hM j c hc
    exact (List.getElem?_eq_some_iff.mp hy).1
  obtain ⟨o1, o2, o3⟩ := oth_c hF hd hM hX hx
  have hd' : ∀ k j, j < 43 → lam' k ≠ nm + j := fun k j hj z => by
    rcases hk k with e | e
    · exact hd k j hj (e ▸ z)
    · have := hlt j hj
      omega
  have L : LIB lam' b nc nm h' := ⟨hb, hl', fun k hk => (hk103 k hk).trans (h103 k hk), TC_TB hl hC hH' (hk103 0 (by decide)) hF (by decide), o1, o2, o3, hd'⟩
  have g79 : FLD h' (nc + 79) 1 0 := by
    obtain ⟨fs, z1, z2⟩ := hZ
    rw [h103 79 (by decide)] at z1
    exact ⟨_, _, z1, z2⟩
  refine ⟨⟨x, rfl⟩, md_of o1, ?_⟩
  obtain ⟨z, f, hr⟩ := LR_rep L.2.2.2.2.1
  obtain ⟨r1, z', f', hc, k1, k2, k3, k4, k5⟩ := text_x 0 kd (BNDz_of L.2.2.2.2.1 hr) (BNDf_of L.2.2.2.2.1 hr) (EXF_of L.2.2.2.2.2.1 hr)
  refine ⟨_, pm_of (lamM_i nm) hc hr, ?_⟩
  rintro r2 h1 ⟨rfl, hR1⟩
  have g12 : FLD h1 nm 12 (z' 12) := LR_fl hR1 (by decide)
  rw [k5] at g12
  exact ⟨⟨r1, rfl⟩, tp_lix (lib_of_r L hr hR1 k1 k2 k3 (k4.1 73 (by decide))) (cl_of_r L hR1 (by decide) g79) g12⟩
theorem lx_game_rT (l : Launch) (G : PG) {nc nm : Nat} {h : PH} (hI : LIX pS qS nc nm h) (x y : Int32) : CQX pS qS l G nc nm h (mY 69) (mC 69) (mN 69) (mR 69) 5 [vR nm, vI x, vI y] := by
  obtain ⟨lam, b, hI, hR⟩ := hI
  obtain ⟨w, g1, g2⟩ := hR.1 (79, 1, 12) (List.mem_singleton.mpr rfl)
  obtain ⟨z, f, hr⟩ := LR_rep hI.2.2.2.2.1
  obtain ⟨r, z', f', hc, g3, g4⟩ := game_r 0 x y z f
  have hz := BNDz_of hI.2.2.2.2.1 hr
  have hB := BNDf_of hI.2.2.2.2.1 hr
  have hE := EXF_of hI.2.2.2.2.2.1 hr
  refine ⟨_, pm_of (lamM_i nm) hc hr, ?_⟩
  rintro r1 h1 ⟨rfl, hR1⟩
  have ez : ∀ j, j ≠ 0 → j ≠ 70 → j ≠ 71 → z' j = z j := fun j j0 j1 j2 => by
    rw [g3 j j1 j2]
    exact if_neg j0
  have b1 : BNDz z' := by
    intro e he
    have key : ∀ e, e ∈ FBl → e.1 ≠ 0 ∧ e.1 ≠ 70 ∧ e.1 ≠ 71 := by decide
    obtain ⟨k0, k1, k2⟩ := key e he
    rw [ez e.1 k0 k1 k2]
    exact hz e he
  have b2 : BNDf f' := by
    intro k k1 k2
    by_cases c0 : k = 40
    · subst c0
      exact ⟨⟨fun j _ => inb_top _, trivial⟩, PRD_0⟩
    by_cases c1 : k = 41
    · subst c1
      exact ⟨⟨fun j _ => inb_top _, trivial⟩, PRD_0⟩
    rw [g4 k c0 c1]
    exact hB k k1 k2
  have b3 : EXF f' := by
    refine hE.tr (fun k hk => g4 k ?_ ?_)
    · rintro rfl
      revert hk
      decide
    · rintro rfl
      revert hk
      decide
  have e := FLD.inj g2 (LR_fl hr (j := 12) (by decide))
  have g12 : FLD h1 nm 12 w := by
    rw [e, ← ez 12 (by decide) (by decide) (by decide)]
    exact LR_fl hR1 (by decide)
  exact ⟨⟨r, rfl⟩, tp_lix (lib_of_r hI hr hR1 b1 b2 b3 (ez 73 (by decide) (by decide) (by decide))) (cl_of_r hI hR1 (by decide) g1) g12⟩
theorem lay_12 : ∀ p, p < 2439 → layp p ≠ (0, 12) := by decide +kernel
/-- after the class's image: the reference's -/
theorem img_t (l : Launch) (G : PG) {lam : Nat → Nat} {b b' nc nm : Nat} {h' : PH} {w : Int32} (hb : b = 0 ∨ b = 1) (hb' : b' = 0 ∨ b' = 1) (hl : LAMC lam) (h103 : ∀ k, k < 103 → lam k = nc + k) (hC : HOK lam [] (TBc b') h') (hM : HOK (lamM nm) [] TRf h') (hX : EXR (lamM nm) h') (h73 : FLD h' nm 73 (nI b)) (hd : ∀ k j, j < 43 → lam k ≠ nm + j) (x : Int32) (hxx : x = 0 ∨ x = 1) (hbb : b' = 0 ↔ x = 0 ∧ b = 0) (g1 : FLD h' (nc + 79) 1 w) (g2 : FLD h' nm 12 w) : ∃ Φ1, PMet l G (mY 219) (mC 219) (mN 219) (mR 219) 3 0 0 [vR nm, vI x] h' Φ1 ∧ ∀ r1 h1, Φ1 r1 h1 → r1 = some (vI (nI b')) ∧ LIX pS qS nc nm h1 := by
  obtain ⟨Φ1, P1, Q1⟩ := img_r l G hb hb' hl h103 hC hM hX h73 hd x hxx hbb
  refine ⟨Φ1, P1, fun r1 h1 hr1 => ?_⟩
  obtain ⟨rfl, L, hcl, z, f, z', f', R0, R1, ix, z73⟩ := Q1 r1 h1 hr1
  have e := FLD.inj g2 (LR_fl R0 (j := 12) (by decide))
  have e12 : z' 12 = z 12 := by
    rcases hxx with rfl | rfl
    · rcases hb with rfl | rfl
      · exact (ix.1 rfl (z73.trans rfl)).1 12 (by decide)
      · exact (ix.2.2 rfl (by rw [z73]; decide)).2.2 12 (by decide) (by decide) (by decide) (by decide) (by decide) lay_12
    · exact (ix.2.1 rfl).1 12 (by decide) (by decide) (by decide) (by decide)
  refine ⟨rfl, tp_lix L (hcl 79 1 w (by decide) g1) ?_⟩
  rw [e, ← e12]
  exact LR_fl R1 (by decide)
theorem img_row (l : Launch) (G : PG) {nc nm : Nat} {h : PH} (hI : LIX pS qS nc nm h) (x : Int32) (hxx : x = 0 ∨ x = 1) : PRX pS qS l G nc nm h 165 4 219 3 [vI x] := by
  obtain ⟨lam, b, hB, hR⟩ := hI
  obtain ⟨w, g1, g2⟩ := hR.1 (79, 1, 12) (List.mem_singleton.mpr rfl)
  obtain ⟨hb, hl, h103, hC, hM, hX, hx, hd⟩ := hB
  have hb1 : b ≤ 1 := by omega
  have hT : HOK lam [] TCl h := TB_TC hb1 hC
  have e0 : lam 0 = nc := h103 0 (by decide)
  rcases hxx with rfl | rfl
  · rcases hb with rfl | rfl
    · obtain ⟨Φ, p1, p2⟩ := chkE_ok (EX := EXT) (l := l) (G := G) (lam := lam) MT_ok (fun _ _ _ _ => trivial) (fun k j hm => by cases hm) sun ic_3 (cAs := [vR (lam 0), vI 0]) (hh := h) ⟨rfl, ⟨0, rfl, inb_J (by decide) (by decide)⟩, trivial⟩ hC trivial
      rw [e0] at p1
      refine ⟨Φ, p1, fun r h' hq => ?_⟩
      obtain ⟨⟨z0, rfl, q1⟩, q2, q3⟩ := p2 r h' hq
      have hz0 : z0 = nI 0 := inb_nIe (n := 0) (by decide) q1
      subst hz0
      have hF : FRG lam [] h h' := FRG.of (fun q hq => hq) q2
      obtain ⟨o1, o2, o3⟩ := oth_c hF hd hM hX hx
      refine ⟨nI 0, rfl, md_of o1, ?_⟩
      exact img_t l G (b := 0) (b' := 0) (Or.inl rfl) (Or.inl rfl) hl h103 q3 o1 o2 o3 hd 0 (Or.inl rfl) (by decide) (g1.keep hF (fun k hm => by cases hm)) (g2.other hF (fun k => hd k 0 (by decide)))
    · have hw : ∀ q, q ∈ ([(2, 2), (2, 3), (2, 4), (2, 5), (2, 6), (2, 7), (2, 8), (2, 9), (3, 999), (4, 999), (6, 999), (7, 999), (12, 1), (13, 999), (14, 1), (15, 999), (16, 1), (17, 999), (18, 1), (19, 999), (20, 1), (21, 999), (22, 1), (23, 999), (24, 1), (25, 999), (26, 1), (27, 999), (28, 1), (29, 999), (59, 2)] : List (Nat × Nat)) → wrC q.1 = true := by decide
      obtain ⟨Φ, p1, p2⟩ := chkE_ok (EX := EXT) (l := l) (G := G) (lam := lam) MT_ok (fun _ _ _ _ => trivial) (fun k j hm => hl k (hw (k, j) hm)) (suc (kc_q153_ok l G lam hl) sun) ic_2 (cAs := [vR (lam 0), vI 0]) (hh := h) ⟨rfl, ⟨0, rfl, inb_J (by decide) (by decide)⟩, trivial⟩ hC trivial
      rw [e0] at p1
      refine ⟨Φ, p1, fun r h' hq => ?_⟩
      obtain ⟨⟨z0, rfl, q1⟩, q2, q3⟩ := p2 r h' hq
      have hz0 : z0 = nI 1 := inb_nIe (n := 1) (by decide) q1
      subst hz0
      have hF : FRG lam [(2, 2), (2, 3), (2, 4), (2, 5), (2, 6), (2, 7), (2, 8), (2, 9), (3, 999), (4, 999), (6, 999), (7, 999), (12, 1), (13, 999), (14, 1), (15, 999), (16, 1), (17, 999), (18, 1), (19, 999), (20, 1), (21, 999), (22, 1), (23, 999), (24, 1), (25, 999), (26, 1), (27, 999), (28, 1), (29, 999), (59, 2)] h h' := FRG.of (fun q hq => hq) q2
      obtain ⟨o1, o2, o3⟩ := oth_c hF hd hM hX hx
      refine ⟨nI 1, rfl, md_of o1, ?_⟩
      exact img_t l G (b := 1) (b' := 1) (Or.inr rfl) (Or.inr rfl) (LAMC_s imgQ_1 imgQ_2 hl) (fun k hk => by rw [imgQ_1 k hk]; exact h103 k hk) (HOK_ren (n := 127) (by decide +kernel) rn_2 q3) o1 o2 o3 (fun k j hj => hd (imgQ k) j hj) 0 (Or.inl rfl) (by decide) (cl_keep hF hl h103 (by decide) (by decide) g1) (g2.other hF (fun k => hd k 0 (by decide)))
  · have hw : ∀ q, q ∈ ([(0, 2), (31, 2), (31, 3), (31, 4), (31, 5), (31, 6), (31, 7), (31, 8), (31, 9), (32, 999), (33, 999), (35, 999), (36, 999), (41, 1), (42, 999), (43, 1), (44, 999), (45, 1), (46, 999), (47, 1), (48, 999), (49, 1), (50, 999), (51, 1), (52, 999), (53, 1), (54, 999), (55, 1), (56, 999), (57, 1), (58, 999)] : List (Nat × Nat)) → wrC q.1 = true := by decide
    obtain ⟨Φ, p1, p2⟩ := chkE_ok (EX := EXT) (l := l) (G := G) (lam := lam) MT_ok (fun _ _ _ _ => trivial) (fun k j hm => hl k (hw (k, j) hm)) (suc (kc_q154_ok l G lam hl) sun) ic_1 (cAs := [vR (lam 0), vI 1]) (hh := h) ⟨rfl, ⟨1, rfl, inb_J (by decide) (by decide)⟩, trivial⟩ hT trivial
    rw [e0] at p1
    refine ⟨Φ, p1, fun r h' hq => ?_⟩
    obtain ⟨⟨z0, rfl, q1⟩, q2, q3⟩ := p2 r h' hq
    have hz0 : z0 = nI 1 := inb_nIe (n := 1) (by decide) q1
    subst hz0
    have hF : FRG lam [(0, 2), (31, 2), (31, 3), (31, 4), (31, 5), (31, 6), (31, 7), (31, 8), (31, 9), (32, 999), (33, 999), (35, 999), (36, 999), (41, 1), (42, 999), (43, 1), (44, 999), (45, 1), (46, 999), (47, 1), (48, 999), (49, 1), (50, 999), (51, 1), (52, 999), (53, 1), (54, 999), (55, 1), (56, 999), (57, 1), (58, 999)] h h' := FRG.of (fun q hq => hq) q2
    obtain ⟨o1, o2, o3⟩ := oth_c hF hd hM hX hx
    refine ⟨nI 1, rfl, md_of o1, ?_⟩
    exact img_t l G (b := b) (b' := 1) hb (Or.inr rfl) (LAMC_s imgP_1 imgP_2 hl) (fun k hk => by rw [imgP_1 k hk]; exact h103 k hk) (HOK_ren (n := 127) (by decide +kernel) rn_1 q3) o1 o2 o3 (fun k j hj => hd (imgP k) j hj) 1 (Or.inr rfl) ⟨fun q => absurd q (by decide), fun q => absurd q.1 (by decide)⟩ (cl_keep hF hl h103 (by decide) (by decide) g1) (g2.other hF (fun k => hd k 0 (by decide)))
