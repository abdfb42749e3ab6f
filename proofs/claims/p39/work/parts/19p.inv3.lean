/-- a class's call leaves the reference alone -/
theorem oth_c {lam : Nat → Nat} {nm : Nat} {W : List (Nat × Nat)} {h h' : PH} {fs : List PV} (hF : FRG lam W h h') (hd : ∀ k j, j < 43 → lam k ≠ nm + j) (hM : HOK (lamM nm) [] TRf h) (hX : EXR (lamM nm) h) (hx : h[nm]? = some (eO 12 fs)) : HOK (lamM nm) [] TRf h' ∧ EXR (lamM nm) h' ∧ h'[nm]? = some (eO 12 fs) := by
  have hn : ∀ k j, (k, j) ∈ W → ∀ k', k' < 43 → lam k ≠ nm + k' := fun k j hm k' hk' => hd k k' hk'
  refine ⟨HOK_other hF (fun k j hm k' hk' => hn k j hm k' (by rw [TRf_len] at hk'; exact hk')) hM, ?_, hF.other (fun k j hm => hn k j hm 0 (by decide)) hx⟩
  obtain ⟨f, h1, h2⟩ := hX
  exact ⟨f, fun q hq => hF.other (fun k j hm => hn k j hm q (XR_lt q hq)) (h1 q hq), h2⟩
/-- an exact run of the reference leaves the class alone -/
theorem oth_r {lam : Nat → Nat} {nm b : Nat} {h h' : PH} {L : QH FA} (hR : Rep rdF h (lamM nm) 43 L h') (hd : ∀ k j, j < 43 → lam k ≠ nm + j) (hC : HOK lam [] (TBc b) h) : HOK lam [] (TBc b) h' := fun k c hc => by
  obtain ⟨x, hx, hcx⟩ := hC k c hc
  exact ⟨x, by rw [hR.2.2.2 (lam k) (fun j hj => hd k j hj)]; exact hx, hcx⟩
theorem LR_73 {nm : Nat} {H h : PH} {z : Nat → Int32} {f : Nat → FA} (hR : Rep rdF H (lamM nm) 43 (LR z f) h) : ∃ fs, h[nm]? = some (eO 12 fs) ∧ fs[73]? = some (vI (z 73)) := ⟨_, hR.2.1 0 _ rfl, rfl⟩
theorem inv_game_c (l : Launch) (G : PG) {nc nm : Nat} {h : PH} (hI : LIV nc nm h) (x y : Int32) : ∃ Φ0, PMet l G (mY 34) (mC 34) (mN 34) (mR 34) 22 0 0 [vR nc, vI x, vI y] h Φ0 ∧ ∀ r h', Φ0 r h' → (∃ v, r = some (vI v)) ∧ LIV nc nm h' := by
  obtain ⟨lam, b, fs, hb, hl, e0, hC, hM, hX, ⟨hx, hf⟩, hd⟩ := hI
  subst e0
  obtain ⟨Φ0, hP, hQ⟩ := game_c l G hl hC x y
  refine ⟨Φ0, hP, fun r h' hr => ?_⟩
  obtain ⟨q1, q2, q3⟩ := hQ r h' hr
  obtain ⟨o1, o2, o3⟩ := oth_c (FRG.of (fun q hq => hq) q3) hd hM hX hx
  exact ⟨q1, lam, b, fs, hb, hl, rfl, q2, o1, o2, ⟨o3, hf⟩, hd⟩
/-- an exact run of the reference that keeps bounds and hasImage -/
theorem inv_of_r {nc nm : Nat} {h h' : PH} {z z' : Nat → Int32} {f f' : Nat → FA} (hI : LIV nc nm h) (hR : Rep rdF h (lamM nm) 43 (LR z f) h) (hR1 : Rep rdF h (lamM nm) 43 (LR z' f') h') (hz : BNDz z') (hB : BNDf f') (hE : EXF f') (h73 : z' 73 = z 73) : LIV nc nm h' := by
  obtain ⟨lam, b, fs, hb, hl, e0, hC, hM, hX, ⟨hx, hf⟩, hd⟩ := hI
  obtain ⟨fs1, g1, g2⟩ := LR_73 hR
  cases hx.symm.trans g1
  obtain ⟨fs2, k1, k2⟩ := LR_73 hR1
  refine ⟨lam, b, fs2, hb, hl, e0, oth_r hR1 hd hC, HOK_of hR1 hz hB, EXR_of hR1 hE, ⟨k1, ?_⟩, hd⟩
  rw [k2, h73, ← g2]
  exact hf
theorem inv_text_r (l : Launch) (G : PG) {nc nm : Nat} {h : PH} (hI : LIV nc nm h) (x : Int32) : ∃ Φ0, PMet l G (mY 280) (mC 280) (mN 280) (mR 280) 11 0 0 [vR nm, vI x] h Φ0 ∧ ∀ r h', Φ0 r h' → (∃ v, r = some (vI v)) ∧ LIV nc nm h' := by
  have hI' := hI
  obtain ⟨lam, b, fs, hb, hl, e0, hC, hM, hX, ⟨hx, hf⟩, hd⟩ := hI
  obtain ⟨z, f, hR⟩ := LR_rep hM
  obtain ⟨r, z', f', hc, g1, g2, g3, g4⟩ := text_r 0 x (BNDz_of hM hR) (BNDf_of hM hR) (EXF_of hX hR)
  refine ⟨_, pm_of (lamM_i nm) hc hR, ?_⟩
  rintro r1 h1 ⟨rfl, hR1⟩
  exact ⟨⟨r, rfl⟩, inv_of_r hI' hR hR1 g1 g2 g3 g4⟩
/-- the pair of images: the same answer, and all goes on -/
theorem inv_image (l : Launch) (G : PG) {nc nm : Nat} {h : PH} (hI : LIV nc nm h) (x : Int32) (hxx : x = 0 ∨ x = 1) : ∃ Φ0, PMet l G (mY 165) (mC 165) (mN 165) (mR 165) 4 0 0 [vR nc, vI x] h Φ0 ∧ ∀ r h', Φ0 r h' → ∃ v, r = some (vI v) ∧ (∃ fs, h'[nm]? = some (eO 12 fs)) ∧ ∃ Φ1, PMet l G (mY 219) (mC 219) (mN 219) (mR 219) 3 0 0 [vR nm, vI x] h' Φ1 ∧ ∀ r1 h1, Φ1 r1 h1 → r1 = some (vI v) ∧ LIV nc nm h1 := by
  obtain ⟨lam, b, fs, hb, hl, e0, hC, hM, hX, ⟨hx, hf⟩, hd⟩ := hI
  subst e0
  obtain ⟨Φ0, hP, hQ⟩ := image_c l G hl hb hC x hxx
  refine ⟨Φ0, hP, fun r h' hr => ?_⟩
  obtain ⟨b', lam', hb', rfl, hbb, hl', h103, hin, hC', eff, hw, hF⟩ := hQ r h' hr
  obtain ⟨o1, o2, o3⟩ := oth_c (FRG.of (fun q hq => hq) hF) hd hM hX hx
  refine ⟨nI b', rfl, ⟨fs, o3⟩, ?_⟩
  obtain ⟨z, f, hR⟩ := LR_rep o1
  obtain ⟨fs1, g1, g2⟩ := LR_73 hR
  cases o3.symm.trans g1
  have hz73 : z 73 = nI b := by
    have := hf.symm.trans g2
    exact (Sum.inl.inj (Option.some.inj this)).symm
  obtain ⟨r, z', f', hc, k1, k2, k3, k4, k5⟩ := image_q 0 x hxx (BNDz_of o1 hR) (BNDf_of o1 hR) (EXF_of o2 hR)
  have hrb : r = nI b' := by
    rw [k4, hz73]
    by_cases c : x = 0 ∧ b = 0
    · have e1 := hbb.mpr c
      rw [if_pos ⟨c.1, by rw [c.2]; rfl⟩, e1]
      rfl
    · have e1 : b' = 1 := by
        rcases hb' with e | e
        · exact absurd (hbb.mp e) c
        · exact e
      rw [if_neg, e1]
      · rfl
      · rintro ⟨c1, c2⟩
        refine c ⟨c1, ?_⟩
        rcases hb with e | e
        · exact e
        · rw [e] at c2
          exact absurd c2 (by decide)
  refine ⟨_, pm_of (lamM_i nm) hc hR, ?_⟩
  rintro r1 h1 ⟨rfl, hR1⟩
  refine ⟨by rw [hrb]; rfl, ?_⟩
  obtain ⟨fs2, m1, m2⟩ := LR_73 hR1
  have hd' : ∀ k j, j < 43 → lam' k ≠ nm + j := fun k j hj z => by
    obtain ⟨k', e⟩ := hin k
    exact hd k' j hj (e ▸ z)
  exact ⟨lam', b', fs2, hb', hl', h103 0 (by decide), oth_r hR1 hd' hC', HOK_of hR1 k1 k2, EXR_of hR1 k3, ⟨m1, by rw [m2, k5, hrb]⟩, hd'⟩
