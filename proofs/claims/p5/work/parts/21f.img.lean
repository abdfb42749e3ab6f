/-! the reference's image, after the class's -/
theorem img_r (l : Launch) (G : PG) {lam : Nat → Nat} {b b' nc nm : Nat} {h' : PH} (hb : b = 0 ∨ b = 1) (hb' : b' = 0 ∨ b' = 1) (hl : LAMC lam) (h103 : ∀ k, k < 103 → lam k = nc + k) (hC : HOK lam [] (TBc b') h') (hM : HOK (lamM nm) [] TRf h') (hX : EXR (lamM nm) h') (h73 : FLD h' nm 73 (nI b)) (hd : ∀ k j, j < 43 → lam k ≠ nm + j) (x : Int32) (hxx : x = 0 ∨ x = 1) (hbb : b' = 0 ↔ x = 0 ∧ b = 0) :
    ∃ Φ1, PMet l G (mY 219) (mC 219) (mN 219) (mR 219) 3 0 0 [vR nm, vI x] h' Φ1 ∧ ∀ r1 h1, Φ1 r1 h1 → r1 = some (vI (nI b')) ∧ LIB lam b' nc nm h1 ∧ (∀ k j y, k < 103 → FLD h' (nc + k) j y → FLD h1 (nc + k) j y) ∧ ∃ z f z' f', Rep rdF h' (lamM nm) 43 (LR z f) h' ∧ Rep rdF h' (lamM nm) 43 (LR z' f') h1 ∧ IMX x z f z' f' ∧ z 73 = nI b := by
  obtain ⟨z, f, hR⟩ := LR_rep hM
  have hz73 : z 73 = nI b := FLD.inj (LR_fl hR (j := 73) (by decide)) h73
  obtain ⟨r, z', f', hc, k1, k2, k3, k4, k5, k6⟩ := image_x 0 x hxx (BNDz_of hM hR) (BNDf_of hM hR) (EXF_of hX hR)
  have hrb : r = nI b' := by
    rw [k4, hz73]
    by_cases c : x = 0 ∧ b = 0
    · have e1 := hbb.mpr c
      rw [if_pos ⟨c.1, by rw [c.2]; rfl⟩, e1]
      rfl
    · have e1 : b' = 1 := by
        rcases hb' with e | e
        · exact absurd (hbb.mp e) c
        · exact e
      rw [if_neg, e1]
      · rfl
      · rintro ⟨c1, c2⟩
        refine c ⟨c1, ?_⟩
        rcases hb with e | e
        · exact e
        · rw [e] at c2
          exact absurd c2 (by decide)
  refine ⟨_, pm_of (lamM_i nm) hc hR, ?_⟩
  rintro r1 h1 ⟨rfl, hR1⟩
  have hcl : ∀ a, (∀ j, j < 43 → a ≠ nm + j) → h1[a]? = h'[a]? := fun a ha => hR1.2.2.2 a ha
  refine ⟨by rw [hrb]; rfl, ⟨hb', hl, h103, fun k c hc => ?_, HOK_of hR1 k1 k2, EXR_of hR1 k3, ?_, hd⟩, fun k j y hk hy => ?_, z, f, z', f', hR, hR1, k6, hz73⟩
  · obtain ⟨y, hy, hcy⟩ := hC k c hc
    exact ⟨y, by rw [hcl (lam k) (fun j hj => hd k j hj)]; exact hy, hcy⟩
  · rw [← hrb, ← k5]
    exact LR_fl hR1 (by decide)
  · obtain ⟨c, fs, g1, g2⟩ := hy
    refine ⟨c, fs, ?_, g2⟩
    rw [hcl (nc + k) (fun j hj e => hd k j hj ((h103 k hk).trans e))]
    exact g1
theorem val_s {x : Int32} : val [x] 4294967296 = some x := by
  unfold val
  rw [if_neg (by decide), if_pos (show 4294967296 - 4294967296 < [x].length from Nat.zero_lt_one)]
  rfl
theorem HOK_up1 {lam : Nat → Nat} {T : List AC} {h : PH} {x : Int32} (hH : HOK lam [] T h) : HOK lam [x] T h := fun k c hc => by
  obtain ⟨y, hy, hcy⟩ := hH k c hc
  exact ⟨y, hy, hcy.up [x]⟩
theorem HOK_getS {lam : Nat → Nat} {T : List AC} {h : PH} {k j : Nat} {x : Int32} (hH : HOK lam [x] (fixF T k j (.inl 4294967296)) h) (hf : isF T k j = true) : FLD h (lam k) j x := by
  obtain ⟨c, fs, y, h1, h2, z, e1, e2⟩ := HOK_getF hH hf
  rw [val_s] at e1
  have e1 := Option.some.inj e1
  subst e1
  exact ⟨c, fs, h1, e2 ▸ h2⟩
/-- a run told by its own templates, of the class -/
theorem ow_c1 (l : Launch) (G : PG) {lam : Nat → Nat} {b nc nm k ds r0 : Nat} {T0 T1 : List AC} {args : List AV} {eff : List (Nat × Nat)} {h : PH} {As : List PV} (hf : chkE T0 TCl T1 [] MT 20000 (k, ds, args, some (r0, r0), eff) = true) (hw : eff.all (fun e => wrC e.1 && !(e.1 == 0 && e.2 == 2)) = true) (hsb : sb2 (sbC 0 [] 0) TCl T1 = true) (hI : LIB lam b nc nm h) (hT : HOK lam [] T0 h) (hA : R2 (vRel lam []) args (vR nc :: As)) :
    ∃ Φ0, PMet l G (mY k) (mC k) (mN k) (mR k) ds 0 0 (vR nc :: As) h Φ0 ∧ ∀ r h', Φ0 r h' → (∃ z, r = some (vI z) ∧ inb r0 r0 z) ∧ LIB lam b nc nm h' ∧ FRM lam eff h h' ∧ HOK lam [] T1 h' := by
  obtain ⟨hb, hl, h103, hC, hM, hX, hx, hd⟩ := hI
  have hw1 : ∀ q, q ∈ eff → wrC q.1 = true ∧ q ≠ (0, 2) := fun q hq => by
    have := List.all_eq_true.mp hw q hq
    simp only [Bool.and_eq_true, Bool.not_eq_true', Bool.and_eq_false_iff, beq_eq_false_iff_ne] at this
    refine ⟨this.1, fun z => ?_⟩
    subst z
    rcases this.2 with t | t <;> exact t rfl
  obtain ⟨Φ0, hP, hQ⟩ := chkE_ok (EX := EXT) (l := l) (G := G) (lam := lam) MT_ok (fun _ _ _ _ => trivial) (fun k j hm => hl k (hw1 (k, j) hm).1) sun hf hA hT trivial
  refine ⟨Φ0, hP, fun r h' hr => ?_⟩
  obtain ⟨q1, q2, q3⟩ := hQ r h' hr
  have hF : FRG lam eff h h' := FRG.of (fun q hq => hq) q2
  obtain ⟨o1, o2, o3⟩ := oth_c hF hd hM hX hx
  have hT1 : HOK lam [] TCl h' := sbH_ok (n := 0) (env := []) (τ := []) (ρ1 := []) (n1 := 0) rfl trivial rfl hsb q3
  exact ⟨q1, ⟨hb, hl, h103, TC_TB hl hC hT1 rfl hF (fun z => (hw1 _ z).2 rfl), o1, o2, o3, hd⟩, q2, q3⟩
/-- and of the reference -/
theorem ow_r1 (l : Launch) (G : PG) {lam : Nat → Nat} {b nc nm k ds r0 : Nat} {T0 T1 : List AC} {args : List AV} {eff : List (Nat × Nat)} {h : PH} {As : List PV} (hf : chkE T0 TRf T1 [] MT 20000 (k, ds, args, some (r0, r0), eff) = true) (hw : eff.all (fun e => wrR e.1 && !(e.1 == 0 && e.2 == 73)) = true) (hsb : sb2 (sbC 0 [] 0) TRf T1 = true) (hI : LIB lam b nc nm h) (hT : HOK (lamM nm) [] T0 h) (hA : R2 (vRel (lamM nm) []) args (vR nm :: As)) :
    ∃ Φ0, PMet l G (mY k) (mC k) (mN k) (mR k) ds 0 0 (vR nm :: As) h Φ0 ∧ ∀ r h', Φ0 r h' → (∃ z, r = some (vI z) ∧ inb r0 r0 z) ∧ LIB lam b nc nm h' ∧ FRM (lamM nm) eff h h' ∧ HOK (lamM nm) [] T1 h' := by
  obtain ⟨hb, hl, h103, hC, hM, hX, hx, hd⟩ := hI
  have hw1 : ∀ q, q ∈ eff → wrR q.1 = true ∧ q ≠ (0, 73) := fun q hq => by
    have := List.all_eq_true.mp hw q hq
    simp only [Bool.and_eq_true, Bool.not_eq_true', Bool.and_eq_false_iff, beq_eq_false_iff_ne] at this
    refine ⟨this.1, fun z => ?_⟩
    subst z
    rcases this.2 with t | t <;> exact t rfl
  have hwa : eff.all (fun e => wrR e.1) = true := List.all_eq_true.mpr (fun q hq => (hw1 q hq).1)
  obtain ⟨Φ0, hP, hQ⟩ := chkE_ok (EX := EXR (lamM nm)) (l := l) (G := G) (lam := lamM nm) MT_ok (EXK_of (lamM_r nm) eff hwa) (fun k j hm => lamM_r nm k (hw1 (k, j) hm).1) sun hf hA hT hX
  refine ⟨Φ0, hP, fun r h' hr => ?_⟩
  obtain ⟨q1, q2, q3⟩ := hQ r h' hr
  have hF : FRG (lamM nm) eff h h' := FRG.of (fun q hq => hq) q2
  have hn : ∀ k j, (k, j) ∈ eff → ∀ k', k' < 127 → lamM nm k ≠ lam k' := fun k j hm k' hk' z => hd k' k (by have := wrR_lt (hw1 _ hm).1; omega) z.symm
  have hT1 : HOK (lamM nm) [] TRf h' := sbH_ok (n := 0) (env := []) (τ := []) (ρ1 := []) (n1 := 0) rfl trivial rfl hsb q3
  refine ⟨q1, ⟨hb, hl, h103, HOK_other hF (fun k j hm k' hk' => hn k j hm k' (by rw [TBc_len] at hk'; exact hk')) hC, hT1, EXK_of (lamM_r nm) eff hwa h h' hX q2, hx.keep hF (fun k hm e => ?_), hd⟩, q2, q3⟩
  have e1 : k = 0 := by
    have : nm + k = nm := e
    omega
  subst e1
  exact (hw1 _ hm).2 rfl
theorem inb_m1 {z : Int32} (h : inb 2147483647 2147483647 z) : z = -1 := by
  have := inb_c h
  rw [this]
  decide
