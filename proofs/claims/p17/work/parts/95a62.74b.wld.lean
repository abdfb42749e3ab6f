/-! the two worlds on the machine, and a pair of calls by exact runs -/
def tcW (k : Nat) : Nat := if k < 8 then k else if k < 12 then k + 87 else if k < 32 then k + 47 else if k < 35 then k + 51 else if k < 39 then k + 64 else k + 47
def tcI (i : Nat) : Nat := if i = 0 then 30 else if i = 1 then 79 else if i = 2 then 89 else if i = 3 then 92 else 8
/-- neither a cell that the class writes, nor the reference's -/
def OUT (nc nm a : Nat) : Prop := (∀ k, wrC k = true → a ≠ nc + k) ∧ ¬ (nm ≤ a ∧ a < nm + 43)
/-- places: the forty-two cells, what this heap doesn't hold, the texts -/
def LBW (lb : Nat → Nat) (nc nm n : Nat) : Prop := LbI lb (42 + n) ∧ (∀ k, k < 42 → lb k = nc + tcW k) ∧ (∀ i, i < 5 → lb (n + 242 + i) = nc + tcI i) ∧ ∀ k, 42 ≤ k → k < 42 + n → OUT nc nm (lb k)
def WLD (lb : Nat → Nat) (W : TXW) (z : Nat → Int32) (f : Nat → FA) (zr : Nat → Int32) (r : Nat → FA) (nc nm : Nat) (h : PH) : Prop := LBW lb nc nm (wL W).length ∧ Rep rdF h lb (42 + (wL W).length) (LW W z f) h ∧ Rep rdF h (lamM nm) 43 (LR zr r) h
theorem tcW_lt {k : Nat} (h : k < 42) : tcW k < 103 := by
  unfold tcW
  by_cases c1 : k < 8
  · rw [if_pos c1]; omega
  · rw [if_neg c1]
    by_cases c2 : k < 12
    · rw [if_pos c2]; omega
    · rw [if_neg c2]
      by_cases c3 : k < 32
      · rw [if_pos c3]; omega
      · rw [if_neg c3]
        by_cases c4 : k < 35
        · rw [if_pos c4]; omega
        · rw [if_neg c4]
          by_cases c5 : k < 39
          · rw [if_pos c5]; omega
          · rw [if_neg c5]; omega
/-- a world's places aren't the reference's -/
theorem LBW.nm {lb lam : Nat → Nat} {nc nm n : Nat} (h : LBW lb nc nm n) (h103 : ∀ k, k < 103 → lam k = nc + k) (hd : ∀ k j, j < 43 → lam k ≠ nm + j) : ∀ k, k < 42 + n → ∀ j, j < 43 → nm + j ≠ lb k := by
  intro k hk j hj e
  by_cases c : k < 42
  · rw [h.2.1 k c, ← h103 (tcW k) (tcW_lt c)] at e
    exact hd _ j hj e.symm
  · have o := (h.2.2.2 k (by omega) hk).2
    exact o ⟨by omega, by omega⟩
theorem Rep.same {H h h' : PH} {lb : Nat → Nat} {N : Nat} {L : QH FA} (hR : Rep rdF H lb N L h) (hs : ∀ k, k < N → h'[lb k]? = h[lb k]?) : Rep rdF h' lb N L h' := ⟨hR.1, fun k x hk => (hs k (by rw [← hR.1]; exact (List.getElem?_eq_some_iff.mp hk).1)).trans (hR.2.1 k x hk), rfl, fun _ _ => rfl⟩
theorem HOK.same {lam : Nat → Nat} {T : List AC} {h h' : PH} (hH : HOK lam [] T h) (hs : ∀ k, k < T.length → h'[lam k]? = h[lam k]?) : HOK lam [] T h' := fun k c hc => by
  obtain ⟨x, h1, h2⟩ := hH k c hc
  exact ⟨x, (hs k (List.getElem?_eq_some_iff.mp ((nth_eq T k).symm.trans hc)).1).trans h1, h2⟩
theorem okT_c {b : Nat} (hb : b = 0 ∨ b = 1) : ∀ k c, nth (TBc b) k = some c → okAC c = true := by
  rcases hb with rfl | rfl
  · exact okT_of okT_c0
  · exact okT_of okT_c1
theorem EXR_F {nm : Nat} {H h : PH} {zr : Nat → Int32} {r : Nat → FA} (hX : EXR (lamM nm) h) (hR : Rep rdF H (lamM nm) 43 (LR zr r) h) : EXF r := by
  obtain ⟨f, h1, h2⟩ := hX
  refine h2.tr (fun k hk => ?_)
  have e := h1 k hk
  rw [hR.2.1 k _ (LR_X zr r k hk)] at e
  have e : (some (.inl (.inl (0, szX k, r k))) : Option PE) = some (.inl (.inl (0, szX k, f k))) := e
  injection e with e
  injection e with e
  injection e with e
  injection e with e1 e
  injection e with e2 e
theorem EXR_R {nm : Nat} {H h : PH} {zr : Nat → Int32} {r : Nat → FA} (hX : EXF r) (hR : Rep rdF H (lamM nm) 43 (LR zr r) h) : EXR (lamM nm) h := ⟨r, fun k hk => hR.2.1 k _ (LR_X zr r k hk), hX⟩
theorem F73_R {nm : Nat} {H h : PH} {zr : Nat → Int32} {r : Nat → FA} (hR : Rep rdF H (lamM nm) 43 (LR zr r) h) : FLD h nm 73 (zr 73) := by
  obtain ⟨fs, g1, g2⟩ := LR_at0 hR (j := 73) (by decide)
  exact ⟨12, fs, g1, g2⟩
theorem room_up {s : State} {pl : Platform} {d d' mc ms : Nat} (hd : d ≤ d') (h : s.hasRoom pl (rmD d' mc ms) = true) : s.hasRoom pl (rmD d mc ms) = true := by
  simp only [State.hasRoom, Bool.and_eq_true, decide_eq_true_eq] at h ⊢
  obtain ⟨⟨⟨⟨a, b1, b2, b3, b4, b5⟩, c⟩, e⟩, g⟩ := h
  have a : s.localsInUse + 64 * d' + stackMargin ≤ realStackBytes / 8 := a
  have b1 : s.frames.length + d' ≤ pl.maxFrames := b1
  have b2 : s.frames.length + d' ≤ (pl.stackLimits s.me).1 := b2
  have b3 : s.localsInUse + 64 * d' ≤ pl.maxStackSlots := b3
  have b4 : s.localsInUse + 64 * d' ≤ (pl.stackLimits s.me).2 := b4
  exact ⟨⟨⟨⟨(show s.localsInUse + 64 * d + stackMargin ≤ realStackBytes / 8 by omega), (show s.frames.length + d ≤ pl.maxFrames by omega), (show s.frames.length + d ≤ (pl.stackLimits s.me).1 by omega), (show s.localsInUse + 64 * d ≤ pl.maxStackSlots by omega), (show s.localsInUse + 64 * d ≤ (pl.stackLimits s.me).2 by omega), b5⟩, c⟩, e⟩, g⟩
/-- a contract at a depth holds at any greater one -/
theorem PMet_up {l : Launch} {G : PG} {y : MethodName} {bytes : ByteArray} {maxL : Nat} {ret : Option FieldType} {d d' mc ms : Nat} {av : List PV} {h : PH} {Φ : Option PV → PH → Prop} (hM : PMet l G y bytes maxL ret d mc ms av h Φ) (hd : d ≤ d') : PMet l G y bytes maxL ret d' mc ms av h Φ := by
  intro p e ha hc1 hc2 s m args below hf hp hP hK
  obtain ⟨a1, a2, a3, a4, a5, a6, a7, a8⟩ := (Spec.appliesLoose_iff hf).mp hp
  exact hM p e ha hc1 hc2 s m args below hf ((Spec.appliesLoose_iff hf).mpr ⟨a1, a2, a3, a4, a5, a6, room_up hd a7, a8⟩) hP hK
/-- a pair of calls: the ends are those of the exact runs, and what the checker tells holds of them too; the class's heap is any part of its cells -/
theorem x_pair (l : Launch) (G : PG) {lam lb : Nat → Nat} {b nc nm N : Nat} {h : PH} {Lc Lc' : QH FA} {zr zr1 : Nat → Int32} {r r1 : Nat → FA} (hB : LIB lam b nc nm h) (hRw : Rep rdF h lb N Lc h) (hQ : Rep rdF h (lamM nm) 43 (LR zr r) h) (hSH : R2 SHQ Lc Lc') (hnm : ∀ k, k < N → ∀ j, j < 43 → nm + j ≠ lb k) {sc sr : SU} {dc dr : Nat} (hdc : sc.2.1 ≤ dc) (hdr : sr.2.1 ≤ dr) (hSc : SUOK lam TCl EXT l G sc) (hSr : SUOK (lamM nm) TRf (EXR (lamM nm)) l G sr) {As : List Int32} {v : Int32}
    (p2 : PMet l G (mY sc.1) (mC sc.1) (mN sc.1) (mR sc.1) dc 0 0 (vR nc :: As.map vI) h (fun r1 h1 => r1 = some (vI v) ∧ Rep rdF h lb N Lc' h1)) (hr : mcall dr sr.1 (vR 0 :: As.map vI) (LR zr r) = some (some (vI v), LR zr1 r1)) (hX : ∀ k, k ∈ XR → r1 k = r k) (h73 : zr1 73 = zr 73)
    (ec : sc.2.2.2.2.all (fun e => !(e.1 == 0 && e.2 == 2)) = true) (er : sr.2.2.2.2.all (fun e => wrR e.1 && !(e.1 == 0 && e.2 == 73)) = true)
    (aC : R2 (vRel lam []) sc.2.2.1 (vR nc :: As.map vI)) (aR : R2 (vRel (lamM nm) []) sr.2.2.1 (vR nm :: As.map vI)) {P : Nat → Nat → Nat → PH → Prop}
    (hP : ∀ h', LIB lam b nc nm h' → Rep rdF h' lb N Lc' h' → Rep rdF h' (lamM nm) 43 (LR zr1 r1) h' → (∀ a, (∀ k, k < N → a ≠ lb k) → (∀ j, j < 43 → a ≠ nm + j) → h'[a]? = h[a]?) → P b nc nm h') : PRY P l G nc nm h sc.1 dc sr.1 dr (As.map vI) := by
  obtain ⟨hb, hl, h103, hC, hM, hXr, hx, hd⟩ := hB
  have hB : LIB lam b nc nm h := ⟨hb, hl, h103, hC, hM, hXr, hx, hd⟩
  obtain ⟨Φ0, p1, q1⟩ := lib_c l G sc hB hSc ec (As.map vI) aC
  have eA : ∀ lb : Nat → Nat, (vR 0 :: As.map vI).map (sv lb) = vR (lb 0) :: As.map vI := fun lb => by
    show vR (lb 0) :: (As.map vI).map (sv lb) = _
    rw [List.map_map]
    rfl
  refine ⟨_, PMet_and p2 (PMet_up p1 hdc), ?_⟩
  rintro rr h1 ⟨⟨rfl, w2⟩, r2, h2, w1, hE, -, -⟩
  obtain ⟨k1, k2, k3⟩ := q1 r2 h2 w1
  have s1 : ∀ j, j < 43 → h1[nm + j]? = h[nm + j]? := fun j hj => w2.2.2.2 _ (fun k hk => hnm k hk j hj)
  have hC1 : HOK lam [] (TBc b) h1 := HOK_eqv (okT_c hb) hC k2.2.2.2.1 hE (Rep_sh hRw w2 hSH)
  have hM1 : HOK (lamM nm) [] TRf h1 := hM.same (fun k hk => s1 k (by rw [TRf_len] at hk; exact hk))
  have hX1 : EXR (lamM nm) h1 := by
    obtain ⟨g, g1, g2⟩ := hXr
    exact ⟨g, fun q hq => (s1 q (XR_lt q hq)).trans (g1 q hq), g2⟩
  have hx1 : FLD h1 nm 73 (nI b) := by
    obtain ⟨c, fs, g1, g2⟩ := hx
    exact ⟨c, fs, (s1 0 (by decide)).trans g1, g2⟩
  have k2 : LIB lam b nc nm h1 := ⟨hb, hl, h103, hC1, hM1, hX1, hx1, hd⟩
  refine ⟨v, rfl, md_of hM1, ?_⟩
  have hMh : Rep rdF h1 (lamM nm) 43 (LR zr r) h1 := hQ.same (fun k hk => s1 k hk)
  obtain ⟨Φ1, p3, q3⟩ := lib_r l G sr k2 hSr er (As.map vI) aR
  have p4 := pm_of (lamM_i nm) hr hMh (l := l) (G := G)
  rw [eA (lamM nm)] at p4
  refine ⟨_, PMet_and p4 (PMet_up p3 hdr), ?_⟩
  rintro rr h3 ⟨⟨rfl, w4⟩, r4, h4, w3, hE2, -, -⟩
  obtain ⟨m1, m2, m3⟩ := q3 r4 h4 w3
  have s3 : ∀ a, (∀ j, j < 43 → a ≠ nm + j) → h3[a]? = h1[a]? := fun a ha => w4.2.2.2 a ha
  have hM3 : HOK (lamM nm) [] TRf h3 := HOK_eqv (okT_of okT_r) hM1 m2.2.2.2.2.1 hE2 (Rep_sh hMh w4 (LR_sh zr zr1 r r1))
  have hC3 : HOK lam [] (TBc b) h3 := hC1.same (fun k _ => s3 _ (fun j hj => hd k j hj))
  have hX3 : EXR (lamM nm) h3 := EXR_R ((EXR_F hXr hQ).tr hX) w4
  have hx3 : FLD h3 nm 73 (nI b) := by
    have e : zr 73 = nI b := FLD.inj (F73_R hQ) hx
    rw [← e, ← h73]
    exact F73_R w4
  refine ⟨rfl, lam, b, ⟨hb, hl, h103, hC3, hM3, hX3, hx3, hd⟩, hP h3 ⟨hb, hl, h103, hC3, hM3, hX3, hx3, hd⟩ (w2.same (fun k hk => s3 _ (fun j hj e => hnm k hk j hj e.symm))) (w4.same (fun _ _ => rfl)) (fun a h1' h2' => (s3 a h2').trans (w2.2.2.2 a h1'))⟩
theorem w_pair (l : Launch) (G : PG) {lam lb : Nat → Nat} {b nc nm : Nat} {h : PH} {W : TXW} {z z1 zr zr1 : Nat → Int32} {f f1 r r1 : Nat → FA} (hB : LIB lam b nc nm h) (hW : WLD lb W z f zr r nc nm h) {sc sr : SU} {dc dr : Nat} (hdc : sc.2.1 ≤ dc) (hdr : sr.2.1 ≤ dr) (hSc : SUOK lam TCl EXT l G sc) (hSr : SUOK (lamM nm) TRf (EXR (lamM nm)) l G sr) {As : List Int32} {v : Int32}
    (hc : xcall dc sc.1 (vR 0 :: As.map vI) (LW W z f) = some (some (vI v), LW W z1 f1)) (hr : mcall dr sr.1 (vR 0 :: As.map vI) (LR zr r) = some (some (vI v), LR zr1 r1)) (hX : ∀ k, k ∈ XR → r1 k = r k) (h73 : zr1 73 = zr 73)
    (ec : sc.2.2.2.2.all (fun e => !(e.1 == 0 && e.2 == 2)) = true) (er : sr.2.2.2.2.all (fun e => wrR e.1 && !(e.1 == 0 && e.2 == 73)) = true)
    (aC : R2 (vRel lam []) sc.2.2.1 (vR nc :: As.map vI)) (aR : R2 (vRel (lamM nm) []) sr.2.2.1 (vR nm :: As.map vI)) {P : Nat → Nat → Nat → PH → Prop}
    (hP : ∀ h', LIB lam b nc nm h' → WLD lb W z1 f1 zr1 r1 nc nm h' → (∀ a, (∀ k, k < 42 + (wL W).length → a ≠ lb k) → (∀ j, j < 43 → a ≠ nm + j) → h'[a]? = h[a]?) → P b nc nm h') : PRY P l G nc nm h sc.1 dc sr.1 dr (As.map vI) := by
  obtain ⟨hL, hR, hQ⟩ := hW
  have hnm := hL.nm hB.2.2.1 hB.2.2.2.2.2.2.2
  have p2 := xcall_ok hL.1 dc sc.1 _ _ _ _ hc h hR (l := l) (G := G)
  have eA : (vR 0 :: As.map vI).map (sv lb) = vR (lb 0) :: As.map vI := by
    show vR (lb 0) :: (As.map vI).map (sv lb) = _
    rw [List.map_map]
    rfl
  rw [eA, show lb 0 = nc from hL.2.1 0 (by decide)] at p2
  exact x_pair l G hB hR hQ (LW_sh W z z1 f f1) hnm hdc hdr hSc hSr p2 hr hX h73 ec er aC aR (fun h' q1 q2 q3 q4 => hP h' q1 ⟨hL, q2, q3⟩ q4)
