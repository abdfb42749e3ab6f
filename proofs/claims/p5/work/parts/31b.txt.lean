/-! text of the reference, with the rows told that it leaves alone; texts and the game between rounds, over any relation -/
def TKq (z : Nat → Int32) (f : Nat → FA) (z' : Nat → Int32) (f' : Nat → FA) : Prop := (∀ j, j ∈ KZ → z' j = z j) ∧ ∀ k, (k < 10 ∨ 20 < k) → f' k = f k
def TXY (z : Nat → Int32) (f : Nat → FA) (z' : Nat → Int32) (f' : Nat → FA) : Prop := BNDz z' ∧ BNDf f' ∧ EXF f' ∧ TKq z f z' f' ∧ z' 12 = 0
theorem TKq.set {z z' : Nat → Int32} {f f' : Nat → FA} {a : Nat} {x : Int32} (h : TKq z f z' f') (ha : KZ.contains a = false) : TKq z f (uZ z' a x) f' := ⟨fun j hj => by rw [uZ_n (kzn hj ha)]; exact h.1 j hj, h.2⟩
theorem TKq.row {z z' : Nat → Int32} {f f' : Nat → FA} {r : Nat} {g : FA} (h : TKq z f z' f') (hr : 10 ≤ r ∧ r ≤ 20) : TKq z f z' (uA f' r g) := ⟨h.1, fun k hk => by rw [uA_ne (by omega)]; exact h.2 k hk⟩
/-- a text: from what its reader comes to, to the end -/
theorem ty_gx (d : Nat) {x1 : Int32} {z : Nat → Int32} {f : Nat → FA} {r : Int32} {z1 : Nat → Int32} {f1 : Nat → FA} (hx : 0 ≤ I x1 ∧ I x1 ≤ 3) (hr : mcall (d + 10) 270 [vR 0, vI x1] (LR (uZ (uZ (uZ (uZ (uZ (uZ z 0 0) 32 0) 33 (-1)) 13 0) 26 0) 27 0) f) = some (some (vI r), LR z1 f1)) (h1 : BNDz z1 ∧ BNDf f1 ∧ EXF f1 ∧ TKq z f z1 f1) (hk : ¬ r = -1 → ∃ z' f', RC (mcall (d + 10)) (mP 280) 41 [some (vR 0), some (vI x1), some (vI r)] [] (LR z1 f1) (some (vI r), LR z' f') ∧ TXY z f z' f') : ∃ r z' f', mcall (d + 11) 280 [vR 0, vI x1] (LR z f) = some (some (vI r), LR z' f') ∧ TXY z f z' f' := by
  have go : ∀ res, _ → mcall (d + 11) 280 [vR 0, vI x1] (LR z f) = some res := fun res H => mcall_i (mq280 (cu := [])).2.2 rfl (vc280_0 d x1 none z f res H)
  by_cases c : r = -1
  · subst c
    exact ⟨-1, _, f1, go _ ⟨fun _ => ⟨-1, z1, f1, hr, fun q => absurd rfl q, fun _ => tx_no d x1 _ f1⟩, fun q => absurd hx q⟩, b12 (bft h1.1), h1.2.1, h1.2.2.1, ((h1.2.2.2.set rfl).set rfl).set rfl, uZ_s⟩
  · obtain ⟨z', f', v1, v2⟩ := hk c
    exact ⟨r, z', f', go _ ⟨fun _ => ⟨r, z1, f1, hr, fun _ => v1, fun q => absurd q c⟩, fun q => absurd hx q⟩, v2⟩
theorem zky {z z1 z2 : Nat → Int32} {f f2 : Nat → FA} (h1 : RDZ (uZ (uZ (uZ (uZ (uZ (uZ (uZ z 0 0) 32 0) 33 (-1)) 13 0) 26 0) 27 0) 25 0) z1) (h2 : ∀ j, j ∈ KZ → z2 j = z1 j) (hf : ∀ k, (k < 10 ∨ 20 < k) → f2 k = f k) : TKq z f z2 f2 := by
  refine ⟨fun j hj => ?_, hf⟩
  rw [h2 j hj, h1 j (kzn hj rfl) (kzn hj rfl) (kzn hj rfl) (kzn hj rfl), uZ_n (kzn hj rfl), uZ_n (kzn hj rfl), uZ_n (kzn hj rfl), uZ_n (kzn hj rfl), uZ_n (kzn hj rfl), uZ_n (kzn hj rfl), uZ_n (kzn hj rfl)]
theorem text_y (d0 : Nat) {z : Nat → Int32} {f : Nat → FA} (x1 : Int32) (hz : BNDz z) (hB : BNDf f) (hE : EXF f) : ∃ r z' f', mcall (d0 + 11) 280 [vR 0, vI x1] (LR z f) = some (some (vI r), LR z' f') ∧ TXY z f z' f' := by
  by_cases cx : 0 ≤ I x1 ∧ I x1 ≤ 3
  · obtain ⟨t, a, z1, g1, g2, g3, g4⟩ := rt0 d0 hz hE
    have go : ∀ res, _ → mcall (d0 + 10) 270 [vR 0, vI x1] (LR (uZ (uZ (uZ (uZ (uZ (uZ z 0 0) 32 0) 33 (-1)) 13 0) 26 0) 27 0) f) = some res := fun res H => mcall_i (mq270 (cu := [])).2.2 rfl (vc270_0 d0 x1 (uZ (uZ (uZ (uZ (uZ (uZ z 0 0) 32 0) 33 (-1)) 13 0) 26 0) 27 0) f res H)
    by_cases c1 : x1 = 1
    · subst c1
      obtain ⟨r, z2, f2, a2, u1, u2, u3, u4, u5⟩ := readWays_r (d0 + 2) g4 g2 hB
      have hz2 := g4.rn u2.1 u3
      have h73 := zky g3 (fun j hj => u2.1 j (kzn hj rfl) (kzn hj rfl) (kzn hj rfl) (kzn hj rfl) (kzn hj rfl) (kzn hj rfl)) (fun k hk => u2.2.1 k (by omega))
      refine ty_gx d0 cx (go _ ⟨z1, f, g1, fun q => absurd rfl q, fun _ => ⟨r, z2, f2, u1, rfl⟩⟩) ⟨hz2, u4, EXF_b hE (Or.inl rfl) u2, h73⟩ (fun hr => ?_)
      obtain ⟨n, rfl, n16, hG⟩ := u5.resolve_left hr
      refine ⟨_, _, vcc41_280_41 _ _ _ _ _ _ ⟨fun _ => ⟨fun _ => ⟨_, _, takes1_r (d0 + 9) n n16 (uZ z2 12 0) f2, rfl⟩, fun q => absurd q (by decide)⟩, fun q => absurd q hr⟩, ?_, B_ways n16 u4 hG, (EXF_b hE (Or.inl rfl) u2).tr (fun k hk => uA_ne ?_), (((h73.set rfl).set rfl).set rfl).row (by decide), by rw [uZ_n (by decide), uZ_n (by decide), uZ_s]⟩
      · exact ((b12 hz2).set (b_in (a := 2147483648) (b := 2147483664) (by decide) (inb_nI (lo := 0) (hi := 16) (by omega) n16 (by omega)))).set (b_in (a := 2147483648) (b := 2147483654) (by decide) (inb_J (by decide) (by decide)))
      · have : ∀ k, k ∈ XR → k ≠ 18 := by decide
        exact this k hk
    · by_cases c2 : x1 = 2
      · subst c2
        obtain ⟨r, z2, f2, a2, u1, u2, u3, u4, u5⟩ := readSky_r (d0 + 1) g4 g2 hB
        have hz2 := g4.rn u2.1 u3
        have h73 := zky g3 (fun j hj => u2.1 j (kzn hj rfl) (kzn hj rfl) (kzn hj rfl) (kzn hj rfl) (kzn hj rfl) (kzn hj rfl)) (fun k hk => u2.2.1 k (by omega))
        have hE2 := EXF_19 hE u2
        refine ty_gx d0 cx (go _ ⟨z1, f, g1, fun _ => ⟨fun q => absurd rfl q, fun _ => ⟨r, z2, f2, u1, rfl⟩⟩, fun q => absurd q c1⟩) ⟨hz2, u4, hE2, h73⟩ (fun hr => ?_)
        obtain ⟨n, rfl, n16, hG⟩ := u5.resolve_left hr
        refine ⟨_, _, vcc41_280_41 _ _ _ _ _ _ ⟨fun _ => ⟨fun _ => ⟨_, _, takes2_r (d0 + 9) n n16 (uZ z2 12 0) f2, rfl⟩, fun q => absurd q (by decide)⟩, fun q => absurd q hr⟩, ?_, B_sky n16 u4 hG, ?_, (((h73.set rfl).set rfl).set rfl).row (by decide), by rw [uZ_n (by decide), uZ_n (by decide), uZ_s]⟩
        · exact ((b12 hz2).set (b_in (a := 2147483648) (b := 2147483664) (by decide) (inb_nI (lo := 0) (hi := 16) (by omega) n16 (by omega)))).set (b_in (a := 2147483648) (b := 2147483654) (by decide) (inb_J (by decide) (by decide)))
        · obtain ⟨e1, e2, e3, e4⟩ := hE2
          exact ⟨e1, e2, by rw [uA_self]; exact D_sky n16 e3 hG, e4⟩
      · by_cases c3 : x1 = 3
        · subst c3
          obtain ⟨r, z2, f2, a2, u1, u2, u3, u4, u5⟩ := readTwins_r (d0 + 2) g4 g2 hB
          have hz2 := g4.rn u2.1 u3
          have h73 := zky g3 (fun j hj => u2.1 j (kzn hj rfl) (kzn hj rfl) (kzn hj rfl) (kzn hj rfl) (kzn hj rfl) (kzn hj rfl)) (fun k hk => u2.2.1 k (by omega))
          refine ty_gx d0 cx (go _ ⟨z1, f, g1, fun _ => ⟨fun _ => ⟨fun q => absurd rfl q, fun _ => ⟨r, z2, f2, u1, rfl⟩⟩, fun q => absurd q c2⟩, fun q => absurd q c1⟩) ⟨hz2, u4, EXF_b hE (Or.inr rfl) u2, h73⟩ (fun hr => ?_)
          refine ⟨_, _, vcc41_280_41 _ _ _ _ _ _ ⟨fun _ => ⟨fun _ => ⟨_, _, takes3_r (d0 + 9) r (uZ z2 12 0) f2, rfl⟩, fun q => absurd q (by decide)⟩, fun q => absurd q hr⟩, ?_, ?_, (EXF_b hE (Or.inr rfl) u2).tr (fun k hk => uA_ne ?_), ((h73.set rfl).set rfl).row (by decide), by rw [uZ_n (by decide), uZ_s]⟩
          · exact (b12 hz2).set (b_no (by decide))
          · exact BNDf_row u4 rfl (fun _ _ j => by
              have : sgAt (sgOf 20) j = (0, 4294967295) := by
                show (if j < 40 then ((0, 4294967295) : Nat × Nat) else (0, 4294967295)) = _
                by_cases q : j < 40
                · rw [if_pos q]
                · rw [if_neg q]
              rw [this]
              exact inb_top _)
          · have : ∀ k, k ∈ XR → k ≠ 20 := by decide
            exact this k hk
        · have x0 : x1 = 0 := by
            have e1 : ¬ I x1 = 1 := fun q => c1 (Int32.toInt_inj.mp (q.trans (by decide)))
            have e2 : ¬ I x1 = 2 := fun q => c2 (Int32.toInt_inj.mp (q.trans (by decide)))
            have e3 : ¬ I x1 = 3 := fun q => c3 (Int32.toInt_inj.mp (q.trans (by decide)))
            have e0 : I x1 = 0 := by omega
            exact Int32.toInt_inj.mp (e0.trans (by decide))
          subst x0
          have k27 : z1 27 = nI 0 := by rw [g3 27 (by decide) (by decide) (by decide) (by decide), uZ_n (by decide), uZ_s]; rfl
          have k25 : z1 25 = 0 := by rw [g3 25 (by decide) (by decide) (by decide) (by decide), uZ_s]
          obtain ⟨p, p1, p2⟩ := g4.nat (j := 29) (hi := 40) (by decide)
          obtain ⟨r, z2, f2, u1, u2, u3, u4⟩ := readLaw_r d0 g2 k27 ⟨p, p1, p2⟩
          have hz2 := g4.law u2 u3
          have hB2 := BNDf_FRl hB u2
          have hE2 := EXF_law hE u2
          have h73 := zky g3 (fun j hj => u2.1 j (kzn hj rfl) (kzn hj rfl) (kzn hj rfl) (kzn hj rfl) (kzn hj rfl) (kzn hj rfl) (kzn hj rfl) (kzn hj rfl) (kzn hj rfl)) (fun k hk => u2.2.1 k (by omega))
          refine ty_gx d0 cx (go _ ⟨z1, f, g1, fun _ => ⟨fun _ => ⟨fun _ => ⟨r, z2, f2, u1, rfl⟩, fun q => absurd q c3⟩, fun q => absurd q c2⟩, fun q => absurd q c1⟩) ⟨hz2, hB2, hE2, h73⟩ (fun hr => ?_)
          obtain ⟨k, c, rfl, k16, c4, q26, hW⟩ := u4.resolve_left hr
          have q25 : z2 25 = 0 := (u2.1 25 (by decide) (by decide) (by decide) (by decide) (by decide) (by decide) (by decide) (by decide) (by decide)).trans k25
          refine ⟨_, _, vcc41_280_41 _ _ _ _ _ _ ⟨fun _ => ⟨fun q => absurd rfl q, fun _ => ⟨_, _, takesLaw_r (d0 + 9) c k (uZ z2 12 0) f2 (by rw [uZ_n (by decide)]; exact q25) (by rw [uZ_n (by decide)]; exact q26) c4 k16, rfl⟩⟩, fun q => absurd q hr⟩, b12 hz2, B_takes hB2 k16 c4, E_takes hE2 k16 c4 hW, ⟨(h73.set rfl).1, fun k hk => by rw [uA_ne (by omega), F2_o (by omega), F1_o (by omega)]; exact h73.2 k hk⟩, uZ_s⟩
  · have go : ∀ res, _ → mcall (d0 + 11) 280 [vR 0, vI x1] (LR z f) = some res := fun res H => mcall_i (mq280 (cu := [])).2.2 rfl (vc280_0 d0 x1 none z f res H)
    refine ⟨-1, _, f, go _ ⟨fun q => absurd q cx, fun _ => tx_no d0 x1 _ f⟩, b12 (zt0 hz), hB, hE, ⟨fun j hj => ?_, fun _ _ => rfl⟩, uZ_s⟩
    rw [uZ_n (kzn hj rfl), uZ_n (kzn hj rfl), uZ_n (kzn hj rfl), uZ_n (kzn hj rfl), uZ_n (kzn hj rfl), uZ_n (kzn hj rfl), uZ_n (kzn hj rfl)]
theorem LR_row {nm : Nat} {H h : PH} {z : Nat → Int32} {f : Nat → FA} (hR : Rep rdF H (lamM nm) 43 (LR z f) h) (k : Nat) (hk : k < 42) : ∃ n, nth lenR k = some n ∧ h[nm + (k + 1)]? = some (eI n (f (k + 1))) := by
  obtain ⟨n, hn⟩ := Option.isSome_iff_exists.mp ((show ∀ k, k < 42 → (nth lenR k).isSome = true by decide +kernel) k hk)
  have h1 : (LR z f)[k + 1]? = some (.inl (.inl (0, n, f (k + 1)))) := by
    rw [LR_get, hn]
    rfl
  exact ⟨n, hn, hR.2.1 (k + 1) _ h1⟩
theorem KPT_lr {nm : Nat} {h h' : PH} {z z' : Nat → Int32} {f f' : Nat → FA} (hR : Rep rdF h (lamM nm) 43 (LR z f) h) (hR1 : Rep rdF h (lamM nm) 43 (LR z' f') h') {k : Nat} (hk : 1 ≤ k ∧ k ≤ 42) (e : f' k = f k) : KPT h h' (nm + k) 999 := by
  obtain ⟨k, rfl⟩ : ∃ k', k = k' + 1 := ⟨k - 1, by omega⟩
  obtain ⟨n, hn, h1⟩ := LR_row hR k (by omega)
  obtain ⟨n', hn', h2⟩ := LR_row hR1 k (by omega)
  cases hn.symm.trans hn'
  rw [e] at h2
  exact KPT_same (h2.trans h1.symm)
theorem KPT_lz {nm : Nat} {h h' : PH} {z z' : Nat → Int32} {f f' : Nat → FA} (hR : Rep rdF h (lamM nm) 43 (LR z f) h) (hR1 : Rep rdF h (lamM nm) 43 (LR z' f') h') {j : Nat} (hj : j ∈ 12 :: KZ) (e : z' j = z j) : KPT h h' nm j := by
  refine ⟨fun x hx => ?_, fun q => ?_⟩
  · rw [FLD.inj hx (LR_fl hR hj), ← e]
    exact LR_fl hR1 hj
  · subst q
    exact absurd hj (by decide)
/-- cells that a text leaves alone -/
def tyF (q : Nat × Nat) : Bool := (Nat.beq q.1 0 && KZ.contains q.2) || (Nat.beq q.2 999 && (Nat.blt 20 q.1 && Nat.ble q.1 42) || (Nat.beq q.2 999 && (Nat.ble 1 q.1 && Nat.blt q.1 10)))
theorem KPT_tq {nm : Nat} {h h' : PH} {z z' : Nat → Int32} {f f' : Nat → FA} (hR : Rep rdF h (lamM nm) 43 (LR z f) h) (hR1 : Rep rdF h (lamM nm) 43 (LR z' f') h') (hk : TKq z f z' f') {q : Nat × Nat} (hq : tyF q = true) : KPT h h' (nm + q.1) q.2 := by
  obtain ⟨a, j⟩ := q
  unfold tyF at hq
  simp only [Bool.or_eq_true, Bool.and_eq_true, Nat.beq_eq, Nat.blt_eq, Nat.ble_eq] at hq
  rcases hq with ⟨e, hj⟩ | ⟨e, h1⟩ | ⟨e, h1⟩
  · have e : a = 0 := e
    subst e
    have hj : j ∈ KZ := List.contains_iff_mem.mp hj
    exact KPT_lz hR hR1 (List.mem_cons_of_mem _ hj) (hk.1 j hj)
  · have e : j = 999 := e
    have h1 : 20 < a ∧ a ≤ 42 := h1
    subst e
    exact KPT_lr hR hR1 (by omega) (hk.2 a (by omega))
  · have e : j = 999 := e
    have h1 : 1 ≤ a ∧ a < 10 := h1
    subst e
    exact KPT_lr hR hR1 (by omega) (hk.2 a (by omega))
theorem kc_rep {lam : Nat → Nat} {b nc nm : Nat} {h h' : PH} {L : QH FA} (hI : LIB lam b nc nm h) (hR1 : Rep rdF h (lamM nm) 43 L h') {q : Nat × Nat} (hq : q.1 < 103) : KPT h h' (nc + q.1) q.2 := KPT_same (hR1.2.2.2 (nc + q.1) (fun j hj e => hI.2.2.2.2.2.2.2 q.1 j hj ((hI.2.2.1 q.1 hq).trans e)))
theorem ly_text_c {P : Nat → Nat → Nat → PH → Prop} {FC FR : List (Nat × Nat)} (hP0 : STB FC FR P) (l : Launch) (G : PG) {nc nm : Nat} {h : PH} (hI : LIY P nc nm h) (h1 : okFC FC txE = true) (h2 : bFR FR = true) (kd : Int32) : ∃ Φ0, PMet l G yX11_text cX11_text 3 (some .int) 31 3 488 [vR nc, vI kd] h Φ0 ∧ ∀ r h', Φ0 r h' → (∃ x, r = some (vI x)) ∧ LIY P nc nm h' := by
  obtain ⟨lam, b, hB, hR⟩ := hI
  have hB' := hB
  obtain ⟨hb, hl, h103, hC, hM, hX, hx, hd⟩ := hB
  have hb1 : b ≤ 1 := by omega
  have e0 : lam 0 = nc := h103 0 (by decide)
  have hP := text_ok l G lam hl (kd := kd) (TB_TC hb1 hC)
  rw [e0] at hP
  refine ⟨_, hP, ?_⟩
  rintro r h' ⟨x, rfl, lam', hl', hH', hF, hk, hk103⟩
  have hlt : ∀ j, j < 43 → nm + j < h.length := fun j hj => by
    have hc : ∃ c, nth TRf j = some c := by
      rw [nth_eq]
      exact ⟨_, List.getElem?_eq_getElem (by rw [TRf_len]; exact hj)⟩
    obtain ⟨c, hc⟩ := hc
    obtain ⟨y, hy, -⟩ := hM j c hc
    exact (List.getElem?_eq_some_iff.mp hy).1
  obtain ⟨o1, o2, o3⟩ := oth_c hF hd hM hX hx
  have hd' : ∀ k j, j < 43 → lam' k ≠ nm + j := fun k j hj z => by
    rcases hk k with e | e
    · exact hd k j hj (e ▸ z)
    · have := hlt j hj
      omega
  exact ⟨⟨x, rfl⟩, lam', b, ⟨hb, hl', fun k hk => (hk103 k hk).trans (h103 k hk), TC_TB hl hC hH' (hk103 0 (by decide)) hF (by decide), o1, o2, o3, hd'⟩, hP0 b nc nm h h' hR (fun q hq => kc_c hF hl h103 (okFC_ok h1 hq).1 (okFC_ok h1 hq).2) (fun q hq => kr_c hF hd (bFR_ok h2 hq))⟩
theorem ly_text_r {P : Nat → Nat → Nat → PH → Prop} {FC FR : List (Nat × Nat)} (hP0 : STB FC FR P) (l : Launch) (G : PG) {nc nm : Nat} {h : PH} (hI : LIY P nc nm h) (h1 : bFC FC = true) (h2 : FR.all tyF = true) (x : Int32) : CQY P l G nc nm h (mY 280) (mC 280) (mN 280) (mR 280) 11 [vR nm, vI x] := by
  obtain ⟨lam, b, hB, hR⟩ := hI
  obtain ⟨z, f, hr⟩ := LR_rep hB.2.2.2.2.1
  obtain ⟨r, z', f', hc, g1, g2, g3, g4, g5⟩ := text_y 0 x (BNDz_of hB.2.2.2.2.1 hr) (BNDf_of hB.2.2.2.2.1 hr) (EXF_of hB.2.2.2.2.2.1 hr)
  refine ⟨_, pm_of (lamM_i nm) hc hr, ?_⟩
  rintro r1 h1' ⟨rfl, hR1⟩
  exact ⟨⟨r, rfl⟩, lam, b, lib_of_r hB hr hR1 g1 g2 g3 (g4.1 73 (by decide)), hP0 b nc nm h h1' hR (fun q hq => kc_rep hB hR1 (bFC_ok h1 hq)) (fun q hq => KPT_tq hr hR1 g4 (List.all_eq_true.mp h2 q hq))⟩
theorem ly_game_c {P : Nat → Nat → Nat → PH → Prop} {FC FR : List (Nat × Nat)} (hP0 : STB FC FR P) (l : Launch) (G : PG) {nc nm : Nat} {h : PH} (hI : LIY P nc nm h) (h1 : okFC FC [(92, 2), (92, 3), (93, 999), (94, 999)] = true) (h2 : bFR FR = true) (x y : Int32) : CQY P l G nc nm h (mY 34) (mC 34) (mN 34) (mR 34) 22 [vR nc, vI x, vI y] := by
  obtain ⟨lam, b, hB, hR⟩ := hI
  have hB' := hB
  obtain ⟨hb, hl, h103, hC, hM, hX, hx, hd⟩ := hB
  have e0 : lam 0 = nc := h103 0 (by decide)
  obtain ⟨Φ0, hP, hQ⟩ := game_c l G hl hC x y
  rw [e0] at hP
  refine ⟨Φ0, hP, fun r h' hr => ?_⟩
  obtain ⟨q1, q2, q3⟩ := hQ r h' hr
  have hF := FRG.of (fun q hq => hq) q3
  obtain ⟨o1, o2, o3⟩ := oth_c hF hd hM hX hx
  exact ⟨q1, lam, b, ⟨hb, hl, h103, q2, o1, o2, o3, hd⟩, hP0 b nc nm h h' hR (fun q hq => kc_c hF hl h103 (okFC_ok h1 hq).1 (okFC_ok h1 hq).2) (fun q hq => kr_c hF hd (bFR_ok h2 hq))⟩
theorem ly_game_r {P : Nat → Nat → Nat → PH → Prop} {FC FR : List (Nat × Nat)} (hP0 : STB FC FR P) (l : Launch) (G : PG) {nc nm : Nat} {h : PH} (hI : LIY P nc nm h) (h1 : bFC FC = true) (h2 : FR.all (fun q => tyF q && !(Nat.beq q.1 40 || Nat.beq q.1 41)) = true) (x y : Int32) : CQY P l G nc nm h (mY 69) (mC 69) (mN 69) (mR 69) 5 [vR nm, vI x, vI y] := by
  obtain ⟨lam, b, hI, hR⟩ := hI
  obtain ⟨z, f, hr⟩ := LR_rep hI.2.2.2.2.1
  obtain ⟨r, z', f', hc, g1, g2⟩ := game_r 0 x y z f
  have hz := BNDz_of hI.2.2.2.2.1 hr
  have hB := BNDf_of hI.2.2.2.2.1 hr
  have hE := EXF_of hI.2.2.2.2.2.1 hr
  refine ⟨_, pm_of (lamM_i nm) hc hr, ?_⟩
  rintro r1 h1' ⟨rfl, hR1⟩
  have ez : ∀ j, j ≠ 0 → j ≠ 70 → j ≠ 71 → z' j = z j := fun j j0 j1 j2 => by
    rw [g1 j j1 j2]
    exact if_neg j0
  have b1 : BNDz z' := by
    intro e he
    have key : ∀ e, e ∈ FBl → e.1 ≠ 0 ∧ e.1 ≠ 70 ∧ e.1 ≠ 71 := by decide
    obtain ⟨k0, k1, k2⟩ := key e he
    rw [ez e.1 k0 k1 k2]
    exact hz e he
  have b2 : BNDf f' := by
    intro k k1 k2
    by_cases c0 : k = 40
    · subst c0
      exact ⟨⟨fun j _ => inb_top _, trivial⟩, PRD_0⟩
    by_cases c1 : k = 41
    · subst c1
      exact ⟨⟨fun j _ => inb_top _, trivial⟩, PRD_0⟩
    rw [g2 k c0 c1]
    exact hB k k1 k2
  have b3 : EXF f' := by
    refine hE.tr (fun k hk => g2 k ?_ ?_)
    · rintro rfl
      revert hk
      decide
    · rintro rfl
      revert hk
      decide
  refine ⟨⟨r, rfl⟩, lam, b, lib_of_r hI hr hR1 b1 b2 b3 (ez 73 (by decide) (by decide) (by decide)), hP0 b nc nm h h1' hR (fun q hq => kc_rep hI hR1 (bFC_ok h1 hq)) (fun q hq => ?_)⟩
  have hq2 := List.all_eq_true.mp h2 q hq
  obtain ⟨a, j⟩ := q
  simp only [tyF, Bool.or_eq_true, Bool.and_eq_true, Bool.not_eq_true', Bool.or_eq_false_iff, Nat.beq_eq, Nat.blt_eq, Nat.ble_eq] at hq2
  obtain ⟨hq1, n40, n41⟩ := hq2
  have n40 : a ≠ 40 := fun e => by rw [e] at n40; exact absurd n40 (by decide)
  have n41 : a ≠ 41 := fun e => by rw [e] at n41; exact absurd n41 (by decide)
  rcases hq1 with ⟨e, hj⟩ | ⟨e, k1⟩ | ⟨e, k1⟩
  · have e : a = 0 := e
    subst e
    have hj : j ∈ KZ := List.contains_iff_mem.mp hj
    exact KPT_lz hr hR1 (List.mem_cons_of_mem _ hj) (ez j (kzn hj rfl) (kzn hj rfl) (kzn hj rfl))
  · have e : j = 999 := e
    have k1 : 20 < a ∧ a ≤ 42 := k1
    subst e
    exact KPT_lr hr hR1 (by omega) (g2 a n40 n41)
  · have e : j = 999 := e
    have k1 : 1 ≤ a ∧ a < 10 := k1
    subst e
    exact KPT_lr hr hR1 (by omega) (g2 a n40 n41)
