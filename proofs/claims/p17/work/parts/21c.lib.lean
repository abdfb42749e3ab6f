/-! what holds between two rounds, with all places told, and what agrees -/
def LIB (lam : Nat → Nat) (b nc nm : Nat) (h : PH) : Prop := (b = 0 ∨ b = 1) ∧ LAMC lam ∧ (∀ k, k < 103 → lam k = nc + k) ∧ HOK lam [] (TBc b) h ∧ HOK (lamM nm) [] TRf h ∧ EXR (lamM nm) h ∧ FLD h nm 73 (nI b) ∧ ∀ k j, j < 43 → lam k ≠ nm + j
theorem TRf_len : TRf.length = 43 := by decide +kernel
theorem TBc_len (b : Nat) : (TBc b).length = 127 := by
  rw [TBc, stl_eq, List.length_set]
  decide +kernel
theorem XR_lt : ∀ k, k ∈ XR → k < 43 := by decide
theorem wrR_lt {k : Nat} (h : wrR k = true) : k < 42 := by
  have := (Bool.and_eq_true _ _ ▸ h : Nat.blt k 42 = true ∧ _).1
  exact Nat.lt_of_succ_le (Nat.le_of_ble_eq_true this)
/-- a class's call leaves the reference alone -/
theorem oth_c {lam : Nat → Nat} {nm : Nat} {W : List (Nat × Nat)} {h h' : PH} {x : Int32} (hF : FRG lam W h h') (hd : ∀ k j, j < 43 → lam k ≠ nm + j) (hM : HOK (lamM nm) [] TRf h) (hX : EXR (lamM nm) h) (hx : FLD h nm 73 x) : HOK (lamM nm) [] TRf h' ∧ EXR (lamM nm) h' ∧ FLD h' nm 73 x := by
  refine ⟨HOK_other hF (fun k j hm k' hk' => hd k k' (by rw [TRf_len] at hk'; exact hk')) hM, ?_, hx.other hF (fun k => hd k 0 (by decide))⟩
  obtain ⟨f, h1, h2⟩ := hX
  exact ⟨f, fun q hq => hF.other (fun k j hm => hd k q (XR_lt q hq)) (h1 q hq), h2⟩
theorem lib_c (l : Launch) (G : PG) {lam : Nat → Nat} {b nc nm : Nat} {h : PH} (su : SU) (hI : LIB lam b nc nm h) (hS : SUOK lam TCl EXT l G su) (he : su.2.2.2.2.all (fun e => !(e.1 == 0 && e.2 == 2)) = true) (As : List PV) (hA : R2 (vRel lam []) su.2.2.1 (vR nc :: As)) :
    ∃ Φ0, PMet l G (mY su.1) (mC su.1) (mN su.1) (mR su.1) su.2.1 0 0 (vR nc :: As) h Φ0 ∧ ∀ r h', Φ0 r h' → RSO su.2.2.2.1 r ∧ LIB lam b nc nm h' ∧ FRG lam su.2.2.2.2 h h' := by
  obtain ⟨k, ds, ags, res, eff⟩ := su
  obtain ⟨hb, hl, h103, hC, hM, hX, hx, hd⟩ := hI
  have hb1 : b ≤ 1 := by omega
  obtain ⟨Φ0, hP, hQ⟩ := hS (vR nc :: As) h hA (TB_TC hb1 hC) trivial
  refine ⟨Φ0, hP, fun r h' hr => ?_⟩
  obtain ⟨q1, q2, q3⟩ := hQ r h' hr
  have hF : FRG lam eff h h' := FRG.of (fun q hq => hq) q2
  obtain ⟨o1, o2, o3⟩ := oth_c hF hd hM hX hx
  refine ⟨q1, ⟨hb, hl, h103, TC_TB hl hC q3 rfl hF (fun z => ?_), o1, o2, o3, hd⟩, hF⟩
  have := List.all_eq_true.mp he _ z
  exact absurd this (by decide)
theorem lib_r (l : Launch) (G : PG) {lam : Nat → Nat} {b nc nm : Nat} {h : PH} (su : SU) (hI : LIB lam b nc nm h) (hS : SUOK (lamM nm) TRf (EXR (lamM nm)) l G su) (he : su.2.2.2.2.all (fun e => wrR e.1 && !(e.1 == 0 && e.2 == 73)) = true) (As : List PV) (hA : R2 (vRel (lamM nm) []) su.2.2.1 (vR nm :: As)) :
    ∃ Φ0, PMet l G (mY su.1) (mC su.1) (mN su.1) (mR su.1) su.2.1 0 0 (vR nm :: As) h Φ0 ∧ ∀ r h', Φ0 r h' → RSO su.2.2.2.1 r ∧ LIB lam b nc nm h' ∧ FRG (lamM nm) su.2.2.2.2 h h' := by
  obtain ⟨k, ds, ags, res, eff⟩ := su
  obtain ⟨hb, hl, h103, hC, hM, hX, hx, hd⟩ := hI
  obtain ⟨Φ0, hP, hQ⟩ := hS (vR nm :: As) h hA hM hX
  refine ⟨Φ0, hP, fun r h' hr => ?_⟩
  obtain ⟨q1, q2, q3⟩ := hQ r h' hr
  have hF : FRG (lamM nm) eff h h' := FRG.of (fun q hq => hq) q2
  have hw : ∀ q, q ∈ eff → wrR q.1 = true ∧ q ≠ (0, 73) := fun q hq => by
    have := List.all_eq_true.mp he q hq
    simp only [Bool.and_eq_true, Bool.not_eq_true', Bool.and_eq_false_iff, beq_eq_false_iff_ne] at this
    refine ⟨this.1, fun z => ?_⟩
    subst z
    rcases this.2 with t | t <;> exact t rfl
  have hn : ∀ k j, (k, j) ∈ eff → ∀ k', k' < 127 → lamM nm k ≠ lam k' := fun k j hm k' hk' z => hd k' k (by have := wrR_lt (hw _ hm).1; omega) z.symm
  refine ⟨q1, ⟨hb, hl, h103, HOK_other hF (fun k j hm k' hk' => hn k j hm k' (by rw [TBc_len] at hk'; exact hk')) hC, q3, EXK_of (lamM_r nm) eff (List.all_eq_true.mpr (fun q hq => (hw q hq).1)) h h' hX q2, hx.keep hF (fun k hm e => ?_), hd⟩, hF⟩
  have e1 : k = 0 := by
    have : nm + k = nm := e
    omega
  subst e1
  exact (hw _ hm).2 rfl
/-- fields of the class that agree with fields of the reference; with the image's too, where there is one -/
def RLX (ps qs : List (Nat × Nat × Nat)) (b nc nm : Nat) (h : PH) : Prop := (∀ p, p ∈ ps → ∃ x, FLD h (nc + p.1) p.2.1 x ∧ FLD h nm p.2.2 x) ∧ (b = 1 → ∀ p, p ∈ qs → ∃ x, FLD h (nc + p.1) p.2.1 x ∧ ATP h (nm + 42) p.2.2 x)
def LIX (ps qs : List (Nat × Nat × Nat)) (nc nm : Nat) (h : PH) : Prop := ∃ lam b, LIB lam b nc nm h ∧ RLX ps qs b nc nm h
def okR (ps : List (Nat × Nat × Nat)) (W : List (Nat × Nat)) : Bool := ps.all (fun p => W.all (fun e => !(e.1 == 0 && e.2 == p.2.2)))
theorem okR_ok {ps : List (Nat × Nat × Nat)} {W : List (Nat × Nat)} (h : okR ps W = true) {p : Nat × Nat × Nat} (hp : p ∈ ps) : (0, p.2.2) ∉ W := by
  have h1 := List.all_eq_true.mp h p hp
  intro hm
  have h2 := List.all_eq_true.mp h1 _ hm
  simp at h2
theorem wrC_lt {k : Nat} (h : wrC k = true) : k < 103 := by
  have := (Bool.and_eq_true _ _ ▸ h : Nat.blt k 103 = true ∧ _).1
  exact Nat.lt_of_succ_le (Nat.le_of_ble_eq_true this)
theorem RLX.r {ps qs : List (Nat × Nat × Nat)} {lam : Nat → Nat} {W : List (Nat × Nat)} {b nc nm : Nat} {h h' : PH} (hR : RLX ps qs b nc nm h) (hF : FRG (lamM nm) W h h') (h103 : ∀ k, k < 103 → lam k = nc + k) (hd : ∀ k j, j < 43 → lam k ≠ nm + j) (hw : W.all (fun e => wrR e.1) = true) (hp1 : ∀ p, p ∈ ps → p.1 < 103) (hq1 : ∀ p, p ∈ qs → p.1 < 103) (h1 : okR ps W = true) : RLX ps qs b nc nm h' := by
  have hlt : ∀ k j, (k, j) ∈ W → k < 42 := fun k j hm => wrR_lt (List.all_eq_true.mp hw _ hm)
  have hcl : ∀ k, k < 103 → ∀ j x, FLD h (nc + k) j x → FLD h' (nc + k) j x := fun k hk j x hx => hx.keep hF (fun k' hm e => hd k k' (by have := hlt _ _ hm; omega) ((h103 k hk).trans e.symm))
  refine ⟨fun p hp => ?_, fun hb p hp => ?_⟩
  · obtain ⟨x, g1, g2⟩ := hR.1 p hp
    refine ⟨x, hcl _ (hp1 p hp) _ _ g1, g2.keep hF (fun k hm e => ?_)⟩
    have e1 : k = 0 := by
      have : nm + k = nm := e
      omega
    subst e1
    exact okR_ok h1 hp hm
  · obtain ⟨x, g1, g2⟩ := hR.2 hb p hp
    refine ⟨x, hcl _ (hq1 p hp) _ _ g1, g2.keep hF (fun k hm e => ?_)⟩
    have e1 : nm + k = nm + 42 := e
    have := hlt _ _ hm
    omega
theorem RSO_i {res : Option (Nat × Nat)} {r : Option PV} (h : RSO res r) (hs : res.isSome = true) : ∃ v, r = some (vI v) := by
  match res, h, hs with
  | some b, ⟨z, e, _⟩, _ => exact ⟨z, e⟩
