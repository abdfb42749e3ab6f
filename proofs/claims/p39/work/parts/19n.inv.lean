/-! what holds between two rounds of the law -/
def LIV (nc nm : Nat) (h : PH) : Prop := ∃ (lam : Nat → Nat) (b : Nat) (fs : List PV), (b = 0 ∨ b = 1) ∧ LAMC lam ∧ lam 0 = nc ∧ HOK lam [] (TBc b) h ∧ HOK (lamM nm) [] TRf h ∧ EXR (lamM nm) h ∧ (h[nm]? = some (eO 12 fs) ∧ fs[73]? = some (vI (nI b))) ∧ ∀ k j, j < 43 → lam k ≠ nm + j
theorem wrC_lt {k : Nat} (h : wrC k = true) : k < 103 := by
  have := (Bool.and_eq_true _ _ ▸ h : Nat.blt k 103 = true ∧ _).1
  exact Nat.lt_of_succ_le (Nat.le_of_ble_eq_true this)
theorem wrR_lt {k : Nat} (h : wrR k = true) : k < 42 := by
  have := (Bool.and_eq_true _ _ ▸ h : Nat.blt k 42 = true ∧ _).1
  exact Nat.lt_of_succ_le (Nat.le_of_ble_eq_true this)
theorem TRf_len : TRf.length = 43 := by decide +kernel
theorem TBc_len (b : Nat) : (TBc b).length = 127 := by
  rw [TBc, stl_eq, List.length_set]
  decide +kernel
theorem XR_lt : ∀ k, k ∈ XR → k < 43 := by decide
theorem inv_c (l : Launch) (G : PG) {nc nm : Nat} {h : PH} (su : SU) (hI : LIV nc nm h) (hS : ∀ lam, LAMC lam → SUOK lam TCl EXT l G su) (he : su.2.2.2.2.all (fun e => wrC e.1 && !(e.1 == 0 && e.2 == 2)) = true) (As : List PV) (hA : ∀ lam : Nat → Nat, lam 0 = nc → R2 (vRel lam []) su.2.2.1 (vR nc :: As)) :
    ∃ Φ0, PMet l G (mY su.1) (mC su.1) (mN su.1) (mR su.1) su.2.1 0 0 (vR nc :: As) h Φ0 ∧ ∀ r h', Φ0 r h' → RSO su.2.2.2.1 r ∧ LIV nc nm h' := by
  obtain ⟨k, ds, ags, res, eff⟩ := su
  obtain ⟨lam, b, fs, hb, hl, e0, hC, hM, hX, ⟨hx, hf⟩, hd⟩ := hI
  have hb1 : b ≤ 1 := by omega
  obtain ⟨Φ0, hP, hQ⟩ := hS lam hl (vR nc :: As) h (hA lam e0) (TB_TC hb1 hC) trivial
  refine ⟨Φ0, hP, fun r h' hr => ?_⟩
  obtain ⟨q1, q2, q3⟩ := hQ r h' hr
  have hF : FRG lam eff h h' := FRG.of (fun q hq => hq) q2
  have hw : ∀ q, q ∈ eff → wrC q.1 = true ∧ q ≠ (0, 2) := fun q hq => by
    have := List.all_eq_true.mp he q hq
    simp only [Bool.and_eq_true, Bool.not_eq_true', Bool.and_eq_false_iff, beq_eq_false_iff_ne] at this
    refine ⟨this.1, fun z => ?_⟩
    subst z
    rcases this.2 with t | t <;> exact t rfl
  have hn : ∀ k j, (k, j) ∈ eff → ∀ k', k' < 43 → lam k ≠ nm + k' := fun k j hm k' hk' => hd k k' hk'
  refine ⟨q1, lam, b, fs, hb, hl, e0, TC_TB hl hC q3 rfl hF (fun z => (hw _ z).2 rfl), HOK_other hF (fun k j hm k' hk' => hn k j hm k' (by rw [TRf_len] at hk'; exact hk')) hM, ?_, ⟨hF.other (fun k j hm => hn k j hm 0 (by decide)) hx, hf⟩, hd⟩
  obtain ⟨f, h1, h2⟩ := hX
  exact ⟨f, fun q hq => hF.other (fun k j hm => hn k j hm q (XR_lt q hq)) (h1 q hq), h2⟩
theorem inv_r (l : Launch) (G : PG) {nc nm : Nat} {h : PH} (su : SU) (hI : LIV nc nm h) (hS : SUOK (lamM nm) TRf (EXR (lamM nm)) l G su) (he : su.2.2.2.2.all (fun e => wrR e.1 && !(e.1 == 0 && e.2 == 73)) = true) (As : List PV) (hA : R2 (vRel (lamM nm) []) su.2.2.1 (vR nm :: As)) :
    ∃ Φ0, PMet l G (mY su.1) (mC su.1) (mN su.1) (mR su.1) su.2.1 0 0 (vR nm :: As) h Φ0 ∧ ∀ r h', Φ0 r h' → RSO su.2.2.2.1 r ∧ LIV nc nm h' := by
  obtain ⟨k, ds, ags, res, eff⟩ := su
  obtain ⟨lam, b, fs, hb, hl, e0, hC, hM, hX, ⟨hx, hf⟩, hd⟩ := hI
  obtain ⟨Φ0, hP, hQ⟩ := hS (vR nm :: As) h hA hM hX
  refine ⟨Φ0, hP, fun r h' hr => ?_⟩
  obtain ⟨q1, q2, q3⟩ := hQ r h' hr
  have hF : FRG (lamM nm) eff h h' := FRG.of (fun q hq => hq) q2
  have hw : ∀ q, q ∈ eff → wrR q.1 = true ∧ q ≠ (0, 73) := fun q hq => by
    have := List.all_eq_true.mp he q hq
    simp only [Bool.and_eq_true, Bool.not_eq_true', Bool.and_eq_false_iff, beq_eq_false_iff_ne] at this
    refine ⟨this.1, fun z => ?_⟩
    subst z
    rcases this.2 with t | t <;> exact t rfl
  have hn : ∀ k j, (k, j) ∈ eff → ∀ k', k' < 127 → lamM nm k ≠ lam k' := fun k j hm k' hk' z => hd k' k (by have := wrR_lt (hw _ hm).1; omega) z.symm
  obtain ⟨x, hx', hk⟩ := hF.2 _ _ hx
  have hxs : ∃ fs', x = eO 12 fs' ∧ fs'[73]? = fs[73]? := by
    match x, hk with
    | .inr a, hk =>
      refine ⟨a.2, ?_, (hk.2.2 73 ?_).symm⟩
      · obtain ⟨a1, a2⟩ := a
        have : 12 = a1 := hk.1
        subst this
        rfl
      · rintro ⟨k, hm, e⟩
        have e1 : k = 0 := by
          have : nm + k = nm := e
          omega
        subst e1
        exact (hw _ hm).2 rfl
    | .inl (.inl a), hk => cases hk
    | .inl (.inr a), hk => cases hk
  obtain ⟨fs', rfl, hf'⟩ := hxs
  exact ⟨q1, lam, b, fs', hb, hl, e0, HOK_other hF (fun k j hm k' hk' => hn k j hm k' (by rw [TBc_len] at hk'; exact hk')) hC, q3, EXK_of (lamM_r nm) eff (List.all_eq_true.mpr (fun q hq => (hw q hq).1)) h h' hX q2, ⟨hx', hf'.trans hf⟩, hd⟩
