/-! the law in force, deeds and images: what holds throughout; reads and lawTells as summaries -/
theorem obj_eq {lam : Nat → Nat} {z z' : Nat → Int32} {f f' : Nat → FA} {xs xs' : List PV} (h : (LR z f)[0]? = some (.inr (12, xs))) (h' : (LR z' f')[0]? = some (.inr (12, xs'))) {W : Nat → Prop} (hz : ∀ j, ¬ W j → z' j = z j) : ∀ j, ¬ W j → (xs.map (sv lam))[j]? = (xs'.map (sv lam))[j]? := by
  have h := Option.some.inj h
  have h' := Option.some.inj h'
  injection h with h
  injection h with _ h
  injection h' with h'
  injection h' with _ h'
  subst h
  subst h'
  exact fun j hj => match j, hj with
    | 0, hj => by show some (vI (z 0)) = some (vI (z' 0)); rw [hz 0 hj]
    | 1, _ => rfl
    | 2, _ => rfl
    | 3, hj => by show some (vI (z 3)) = some (vI (z' 3)); rw [hz 3 hj]
    | 4, _ => rfl
    | 5, hj => by show some (vI (z 5)) = some (vI (z' 5)); rw [hz 5 hj]
    | 6, hj => by show some (vI (z 6)) = some (vI (z' 6)); rw [hz 6 hj]
    | 7, _ => rfl
    | 8, _ => rfl
    | 9, _ => rfl
    | 10, _ => rfl
    | 11, _ => rfl
    | 12, hj => by show some (vI (z 12)) = some (vI (z' 12)); rw [hz 12 hj]
    | 13, hj => by show some (vI (z 13)) = some (vI (z' 13)); rw [hz 13 hj]
    | 14, hj => by show some (vI (z 14)) = some (vI (z' 14)); rw [hz 14 hj]
    | 15, hj => by show some (vI (z 15)) = some (vI (z' 15)); rw [hz 15 hj]
    | 16, hj => by show some (vI (z 16)) = some (vI (z' 16)); rw [hz 16 hj]
    | 17, _ => rfl
    | 18, _ => rfl
    | 19, _ => rfl
    | 20, _ => rfl
    | 21, _ => rfl
    | 22, _ => rfl
    | 23, _ => rfl
    | 24, _ => rfl
    | 25, hj => by show some (vI (z 25)) = some (vI (z' 25)); rw [hz 25 hj]
    | 26, hj => by show some (vI (z 26)) = some (vI (z' 26)); rw [hz 26 hj]
    | 27, hj => by show some (vI (z 27)) = some (vI (z' 27)); rw [hz 27 hj]
    | 28, _ => rfl
    | 29, hj => by show some (vI (z 29)) = some (vI (z' 29)); rw [hz 29 hj]
    | 30, hj => by show some (vI (z 30)) = some (vI (z' 30)); rw [hz 30 hj]
    | 31, hj => by show some (vI (z 31)) = some (vI (z' 31)); rw [hz 31 hj]
    | 32, hj => by show some (vI (z 32)) = some (vI (z' 32)); rw [hz 32 hj]
    | 33, hj => by show some (vI (z 33)) = some (vI (z' 33)); rw [hz 33 hj]
    | 34, hj => by show some (vI (z 34)) = some (vI (z' 34)); rw [hz 34 hj]
    | 35, _ => rfl
    | 36, hj => by show some (vI (z 36)) = some (vI (z' 36)); rw [hz 36 hj]
    | 37, _ => rfl
    | 38, hj => by show some (vI (z 38)) = some (vI (z' 38)); rw [hz 38 hj]
    | 39, _ => rfl
    | 40, _ => rfl
    | 41, _ => rfl
    | 42, _ => rfl
    | 43, hj => by show some (vI (z 43)) = some (vI (z' 43)); rw [hz 43 hj]
    | 44, _ => rfl
    | 45, _ => rfl
    | 46, hj => by show some (vI (z 46)) = some (vI (z' 46)); rw [hz 46 hj]
    | 47, _ => rfl
    | 48, _ => rfl
    | 49, _ => rfl
    | 50, hj => by show some (vI (z 50)) = some (vI (z' 50)); rw [hz 50 hj]
    | 51, _ => rfl
    | 52, hj => by show some (vI (z 52)) = some (vI (z' 52)); rw [hz 52 hj]
    | 53, _ => rfl
    | 54, hj => by show some (vI (z 54)) = some (vI (z' 54)); rw [hz 54 hj]
    | 55, _ => rfl
    | 56, _ => rfl
    | 57, hj => by show some (vI (z 57)) = some (vI (z' 57)); rw [hz 57 hj]
    | 58, _ => rfl
    | 59, _ => rfl
    | 60, _ => rfl
    | 61, hj => by show some (vI (z 61)) = some (vI (z' 61)); rw [hz 61 hj]
    | 62, _ => rfl
    | 63, hj => by show some (vI (z 63)) = some (vI (z' 63)); rw [hz 63 hj]
    | 64, _ => rfl
    | 65, hj => by show some (vI (z 65)) = some (vI (z' 65)); rw [hz 65 hj]
    | 66, _ => rfl
    | 67, _ => rfl
    | 68, _ => rfl
    | 69, _ => rfl
    | 70, hj => by show some (vI (z 70)) = some (vI (z' 70)); rw [hz 70 hj]
    | 71, hj => by show some (vI (z 71)) = some (vI (z' 71)); rw [hz 71 hj]
    | 72, hj => by show some (vI (z 72)) = some (vI (z' 72)); rw [hz 72 hj]
    | 73, hj => by show some (vI (z 73)) = some (vI (z' 73)); rw [hz 73 hj]
    | 74, hj => by show some (vI (z 74)) = some (vI (z' 74)); rw [hz 74 hj]
    | 75, _ => rfl
    | _ + 76, _ => rfl
theorem FRM_LR {lam : Nat → Nat} {h h1 : PH} {z z' : Nat → Int32} {f f' : Nat → FA} {eff : List (Nat × Nat)} (hR : Rep rdF h lam 43 (LR z f) h) (hR1 : Rep rdF h lam 43 (LR z' f') h1) (hz : ∀ j, (0, j) ∉ eff → z' j = z j) (hf : ∀ k, 1 ≤ k → (k, 999) ∉ eff → f' k = f k) : FRM lam eff h h1 := by
  obtain ⟨l1, l2, l3, l4⟩ := hR
  obtain ⟨m1, m2, m3, m4⟩ := hR1
  refine ⟨m3, fun a x0 hx0 => ?_⟩
  by_cases ha : ∃ k, k < 43 ∧ a = lam k
  · obtain ⟨k, hkN, rfl⟩ := ha
    cases k with
    | zero =>
      have e0 := l2 0 _ rfl
      have e1 := m2 0 _ rfl
      rw [hx0] at e0
      have e0 := Option.some.inj e0
      subst e0
      exact ⟨_, e1, rfl, rfl, obj_eq (z := z) (z' := z') (f := f) (f' := f') rfl rfl (fun j hj => hz j (fun hm => hj ⟨0, hm, rfl⟩))⟩
    | succ k =>
      have g0 := LR_get z f k
      have g1 := LR_get z' f' k
      have hlen : k + 1 < (LR z f).length := by rw [l1]; exact hkN
      cases hn : nth lenR k with
      | none =>
        rw [hn] at g0
        rw [List.getElem?_eq_getElem hlen] at g0
        cases g0
      | some n =>
        rw [hn] at g0 g1
        have e0 := l2 (k + 1) _ g0
        have e1 := m2 (k + 1) _ g1
        rw [hx0] at e0
        have e0 := Option.some.inj e0
        subst e0
        exact ⟨_, e1, rfl, rfl, fun hW => (hf (k + 1) (by omega) (fun hm => hW ⟨k + 1, hm, rfl⟩)).symm⟩
  · exact ⟨x0, by rw [m4 a (fun k hk e => ha ⟨k, hk, e⟩)]; exact hx0, kpt.refl _⟩
theorem pm_of {l : Launch} {G : PG} {lam : Nat → Nat} (hi : LbI lam 43) {H h : PH} {k d : Nat} {As : List PV} {L L' : QH FA} {r : Option PV} (hc : mcall d k As L = some (r, L')) (hR : Rep rdF H lam 43 L h) : PMet l G (mY k) (mC k) (mN k) (mR k) d 0 0 (As.map (sv lam)) h (fun r1 h1 => r1 = r.map (sv lam) ∧ Rep rdF H lam 43 L' h1) := mcall_ok hi d k As L r L' hc h hR
/-- the law is well formed -/
def LWF (f : Nat → FA) : Prop := ∃ m, f 10 0 = nI m ∧ m ≤ 16 ∧ LWm 0 m f
theorem LWF.tr {f f' : Nat → FA} (h : LWF f) (h10 : f' 10 0 = f 10 0) (hl : ∀ l, l < 16 → f' 12 l = f 12 l ∧ f' 13 l = f 13 l ∧ f' 14 l = f 14 l) (hc : ∀ j, j < 400 → f' 15 j = f 15 j ∧ f' 16 j = f 16 j) : LWF f' := by
  obtain ⟨m, h1, h2, h3⟩ := h
  refine ⟨m, h10.trans h1, h2, fun l hlm => ?_⟩
  obtain ⟨a, b, c, g1, g2, g3, g4, g5, g6, ⟨d1, g7⟩, d2, g8⟩ := h3 l hlm
  obtain ⟨e1, e2, e3⟩ := hl l (by omega)
  rw [Nat.mul_zero, Nat.zero_add] at g1 g2 g3
  rw [sh0, sh0] at g7 g8
  have dp : ∀ i n d, i + n ≤ 400 → DP (f 15) (f 16) i n = some d → DP (sh (400 * 0) (f' 15)) (sh (400 * 0) (f' 16)) i n = some d := by
    intro i n d hn hd
    rw [sh0, sh0, DP_eq (o' := f' 15) (a' := f' 16) (o := f 15) (a := f 16) n (fun j _ hj => hc j (by omega))]
    exact hd
  refine ⟨a, b, c, ?_, ?_, ?_, g4, g5, g6, ⟨d1, dp _ _ _ (by omega) g7⟩, d2, dp _ _ _ (by omega) g8⟩
  · rw [Nat.mul_zero, Nat.zero_add]; exact e1.trans g1
  · rw [Nat.mul_zero, Nat.zero_add]; exact e2.trans g2
  · rw [Nat.mul_zero, Nat.zero_add]; exact e3.trans g3
theorem DD.tr {g g' : FA} (h : DD g) (hg : ∀ j, j < 80 → g' j = g j) : DD g' := by
  intro j hj e
  rw [hg _ (by omega)] at e
  rw [hg _ (by omega), hg _ (by omega)]
  exact h j hj e
def fbAt (j : Nat) : Nat × Nat := match FBl.find? (fun e => e.1 == j) with
  | some e => e.2
  | none => (0, 4294967295)
theorem fbAt_ok {z : Nat → Int32} (h : BNDz z) (j : Nat) : inb (fbAt j).1 (fbAt j).2 (z j) := by
  unfold fbAt
  cases hf : FBl.find? (fun e => e.1 == j) with
  | none => exact inb_top _
  | some e =>
    have h1 := List.find?_some hf
    have h2 := List.mem_of_find?_eq_some hf
    have h1 : e.1 = j := by simpa using h1
    rw [← h1]
    exact h e h2
noncomputable def tb (q : Nat × Nat) : Nat × Nat := if q.1 = 0 then fbAt q.2 else sgAt (sgOf q.1) q.2
/-- what is kept is as it should be -/
def QST (z : Nat → Int32) (f : Nat → FA) : Prop := (∀ p, p < 2439 → inb (tb (layp p)).1 (tb (layp p)).2 (RDs z f (layp p))) ∧ LK (f 1) ∧ LWF f ∧ DD (f 19)
theorem QST.tr {z z' : Nat → Int32} {f f' : Nat → FA} (h : QST z f) (he : ∀ p, p < 2439 → RDs z' f' (layp p) = RDs z f (layp p)) : QST z' f' := by
  obtain ⟨h1, h2, h3, h4⟩ := h
  have e1 : ∀ x, x < 499 → f' 1 x = f 1 x := fun x hx => by
    have := he (0 + 1 * x + 0) (by omega)
    rw [ly_1 x hx] at this
    exact this
  have e10 : f' 10 0 = f 10 0 := by
    have := he (1574 + 1 * 0 + 0) (by omega)
    rw [ly_10 0 (by omega)] at this
    exact this
  have e12 : ∀ x, x < 16 → f' 12 x = f 12 x := fun x hx => by
    have := he (1575 + 4 * x + 1) (by omega)
    rw [ly_12 x hx] at this
    exact this
  have e13 : ∀ x, x < 16 → f' 13 x = f 13 x := fun x hx => by
    have := he (1575 + 4 * x + 2) (by omega)
    rw [ly_13 x hx] at this
    exact this
  have e14 : ∀ x, x < 16 → f' 14 x = f 14 x := fun x hx => by
    have := he (1575 + 4 * x + 3) (by omega)
    rw [ly_14 x hx] at this
    exact this
  have e15 : ∀ x, x < 400 → f' 15 x = f 15 x := fun x hx => by
    have := he (1639 + 2 * x + 0) (by omega)
    rw [ly_15 x hx] at this
    exact this
  have e16 : ∀ x, x < 400 → f' 16 x = f 16 x := fun x hx => by
    have := he (1639 + 2 * x + 1) (by omega)
    rw [ly_16 x hx] at this
    exact this
  have e19 : ∀ x, x < 80 → f' 19 x = f 19 x := fun x hx => by
    have := he (744 + 1 * x + 0) (by omega)
    rw [ly_19 x hx] at this
    exact this
  refine ⟨fun p hp => by rw [he p hp]; exact h1 p hp, fun c hc q => ?_, h3.tr e10 (fun l hl => ⟨e12 l hl, e13 l hl, e14 l hl⟩) (fun j hj => ⟨e15 j hj, e16 j hj⟩), h4.tr e19⟩
  rw [e1 _ (by omega)] at q
  rw [e1 _ (by omega)]
  exact h2 c hc q
def IMG (g : FA) : Prop := QST (fun j => g (posp (0, j))) (fun r j => g (posp (r, j)))
theorem RDs_img (g : FA) (q : Nat × Nat) : RDs (fun j => g (posp (0, j))) (fun r j => g (posp (r, j))) q = g (posp q) := by
  obtain ⟨r, j⟩ := q
  unfold RDs
  by_cases c : r = 0
  · subst c; rfl
  · rw [if_neg c]
/-- what holds of words, law, deeds, images -/
def EXF (f : Nat → FA) : Prop := f 9 132 = 32 ∧ LWF f ∧ DD (f 19) ∧ IMG (f 42)
def XR : List Nat := [9, 10, 11, 12, 13, 14, 15, 16, 19, 42]
def szX (k : Nat) : Nat := match k with
  | 9 => 133
  | 10 => 2
  | 15 => 1200
  | 16 => 1200
  | 19 => 160
  | 42 => 2900
  | _ => 48
def EXR (lam : Nat → Nat) (h : PH) : Prop := ∃ f : Nat → FA, (∀ k, k ∈ XR → h[lam k]? = some (eI (szX k) (f k))) ∧ EXF f
theorem EXF.tr {f f' : Nat → FA} (h : EXF f) (he : ∀ k, k ∈ XR → f' k = f k) : EXF f' := by
  obtain ⟨h1, h2, h3, h4⟩ := h
  exact ⟨by rw [he 9 (by decide)]; exact h1, h2.tr (by rw [he 10 (by decide)]) (fun l _ => ⟨by rw [he 12 (by decide)], by rw [he 13 (by decide)], by rw [he 14 (by decide)]⟩) (fun j _ => ⟨by rw [he 15 (by decide)], by rw [he 16 (by decide)]⟩), by rw [he 19 (by decide)]; exact h3, by rw [he 42 (by decide)]; exact h4⟩
theorem LR_X (z : Nat → Int32) (f : Nat → FA) : ∀ k, k ∈ XR → (LR z f)[k]? = some (.inl (.inl (0, szX k, f k))) := by
  intro k hk
  rcases List.mem_cons.mp hk with rfl | hk
  · rfl
  rcases List.mem_cons.mp hk with rfl | hk
  · rfl
  rcases List.mem_cons.mp hk with rfl | hk
  · rfl
  rcases List.mem_cons.mp hk with rfl | hk
  · rfl
  rcases List.mem_cons.mp hk with rfl | hk
  · rfl
  rcases List.mem_cons.mp hk with rfl | hk
  · rfl
  rcases List.mem_cons.mp hk with rfl | hk
  · rfl
  rcases List.mem_cons.mp hk with rfl | hk
  · rfl
  rcases List.mem_cons.mp hk with rfl | hk
  · rfl
  rcases List.mem_cons.mp hk with rfl | hk
  · rfl
  cases hk
theorem EXF_of {lam : Nat → Nat} {H h : PH} {z : Nat → Int32} {f : Nat → FA} (hX : EXR lam h) (hR : Rep rdF H lam 43 (LR z f) h) : EXF f := by
  obtain ⟨g, h1, h2⟩ := hX
  refine h2.tr (fun k hk => ?_)
  have e1 := h1 k hk
  have e2 := hR.2.1 k _ (LR_X z f k hk)
  rw [e1] at e2
  exact (eI_inj (Option.some.inj e2)).symm
theorem EXR_of {lam : Nat → Nat} {H h : PH} {z : Nat → Int32} {f : Nat → FA} (hR : Rep rdF H lam 43 (LR z f) h) (hE : EXF f) : EXR lam h := ⟨f, fun k hk => hR.2.1 k _ (LR_X z f k hk), hE⟩
theorem EXK_of {lam : Nat → Nat} (hl : LAMR lam) : EXK lam (EXR lam) := by
  intro eff he h0 h hX hF
  obtain ⟨f, h1, h2⟩ := hX
  refine ⟨f, fun k hk => ?_, h2⟩
  obtain ⟨x, g1, g2⟩ := hF.2 (lam k) _ (h1 k hk)
  have hw : ¬ ∃ k', (k', 999) ∈ eff ∧ lam k' = lam k := by
    rintro ⟨k', q1, q2⟩
    have q3 : wrR k' = true := List.all_eq_true.mp he (k', 999) q1
    have q4 := hl k' q3 k q2
    subst q4
    have : ∀ k, k ∈ XR → wrR k = false := by decide
    rw [this k' hk] at q3
    cases q3
  rw [g1]
  match x, g2 with
  | .inl (.inl b), g2 =>
    obtain ⟨b1, b2, b3⟩ := b
    obtain ⟨q1, q2, q3⟩ := g2
    have p1 : 0 = b1 := q1
    have p2 : szX k = b2 := q2
    have p3 : f k = b3 := q3 hw
    rw [← p1, ← p2, ← p3]
theorem BNDf_22 {f : Nat → FA} {g : FA} (h : BNDf f) : BNDf (uA f 22 g) := by
  intro k h1 h2
  by_cases e : k = 22
  · subst e
    rw [uA_self]
    exact ⟨⟨fun j _ => inb_top _, trivial⟩, PRD_0⟩
  · rw [uA_ne e]
    exact h k h1 h2
theorem inb_I {x : Int32} {lo hi : Nat} (h1 : (lo : Int) ≤ I x) (h2 : I x ≤ hi) : inb (2147483648 + lo) (2147483648 + hi) x := by
  have e := ky_toInt x
  have h1 : (lo : Int) ≤ x.toInt := h1
  have h2 : x.toInt ≤ hi := h2
  exact ⟨by omega, by omega⟩
theorem I_inb {x : Int32} {lo hi : Nat} (h : inb (2147483648 + lo) (2147483648 + hi) x) : (lo : Int) ≤ I x ∧ I x ≤ hi := by
  have e := ky_toInt x
  obtain ⟨h1, h2⟩ := h
  show (lo : Int) ≤ x.toInt ∧ x.toInt ≤ hi
  omega
theorem lawTells_ok (l : Launch) (G : PG) (lam : Nat → Nat) (hi : LbI lam 43) : SUOK lam TRf (EXR lam) l G kr_m2 := by
  intro cAs h hA hT hX
  obtain ⟨a0, r0, rfl, q0, hA1⟩ := R2.uncons hA
  obtain ⟨a1, r1, rfl, ⟨w, rfl, q1⟩, hA2⟩ := R2.uncons hA1
  obtain ⟨a2, r2, rfl, ⟨u, rfl, q2⟩, hA3⟩ := R2.uncons hA2
  obtain ⟨a3, r3, rfl, ⟨x, rfl, q3⟩, hA4⟩ := R2.uncons hA3
  have q0 : a0 = vR (lam 0) := q0
  subst q0
  cases r3 with
  | cons _ _ => cases hA4
  | nil =>
    obtain ⟨z, f, hR⟩ := LR_rep hT
    have hE := EXF_of hX hR
    have hz := BNDz_of hT hR
    have hf := BNDf_of hT hR
    have q3 := I_inb (lo := 0) (hi := 1000) q3
    obtain ⟨m, h10, hm, hW⟩ := hE.2.1
    obtain ⟨r, g, hc, g1, g2⟩ := lawTells_r 1 m w u x z f q3.1 hm h10 hW
    refine ⟨_, pm_of (As := [vR 0, vI w, vI u, vI x]) hi hc hR, ?_⟩
    rintro r' h1 ⟨rfl, hR1⟩
    refine ⟨⟨r, rfl, inb_I (lo := 0) (hi := 1000) g1 (by omega)⟩, FRM_LR hR hR1 (fun _ _ => rfl) (fun k _ hk => uA_ne ?_), HOK_of hR1 hz (BNDf_22 hf)⟩
    rintro rfl
    exact hk (by decide)
