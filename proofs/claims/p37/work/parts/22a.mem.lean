/-! the game from any memory that is good -/
noncomputable def lbP (pm : List Nat) (n k : Nat) : Nat := n + (nth pm k).getD 0
def GK (nc : Nat) (h : PH) : Prop := ∃ K, h[nc + 93]? = some (eI 1231 K) ∧ KI K
def LIG (nc nm : Nat) (h : PH) : Prop := LIX [] [] nc nm h ∧ GK nc h
theorem LIG.cl {nc nm : Nat} {h : PH} (hI : LIG nc nm h) : ∃ fs, h[nc]? = some (eO 11 fs) := hI.1.cl
theorem LIG.md {nc nm : Nat} {h : PH} (hI : LIG nc nm h) : ∃ fs, h[nm]? = some (eO 12 fs) := hI.1.md
theorem row_keep {lam : Nat → Nat} {W : List (Nat × Nat)} {h h' : PH} {a N : Nat} {f : Nat → Int32} (hF : FRG lam W h h') (hn : ∀ k, (k, 999) ∈ W → lam k ≠ a) (hx : h[a]? = some (eI N f)) : h'[a]? = some (eI N f) := by
  obtain ⟨y, hy, hk⟩ := hF.2 _ _ hx
  match y, hy, hk with
  | .inl (.inl (t, N', f')), hy, hk =>
    have e1 : 0 = t := hk.1
    have e2 : N = N' := hk.2.1
    have e3 : f = f' := hk.2.2 (fun ⟨k, hm, e⟩ => hn k hm e)
    rw [hy, ← e1, ← e2, ← e3]
  | .inl (.inr a), _, hk => cases hk
  | .inr a, _, hk => cases hk
theorem GK.c {lam : Nat → Nat} {W : List (Nat × Nat)} {nc : Nat} {h h' : PH} (hG : GK nc h) (hF : FRG lam W h h') (hl : LAMC lam) (h103 : ∀ k, k < 103 → lam k = nc + k) (hn : (93, 999) ∉ W) : GK nc h' := by
  obtain ⟨K, h1, h2⟩ := hG
  refine ⟨K, row_keep hF (fun k hm e => ?_) h1, h2⟩
  have := hl 93 (by decide) k ((h103 93 (by decide)).trans e.symm)
  subst this
  exact hn hm
theorem GK.r {lam : Nat → Nat} {b nc nm : Nat} {W : List (Nat × Nat)} {h h' : PH} (hG : GK nc h) (hI : LIB lam b nc nm h) (hF : FRG (lamM nm) W h h') (hw : W.all (fun e => wrR e.1) = true) : GK nc h' := by
  obtain ⟨K, h1, h2⟩ := hG
  refine ⟨K, row_keep hF (fun k hm e => ?_) h1, h2⟩
  exact hI.2.2.2.2.2.2.2 93 k (by have := wrR_lt (List.all_eq_true.mp hw _ hm); omega) ((hI.2.2.1 93 (by decide)).trans e.symm)
theorem GK.x {lam : Nat → Nat} {b nc nm : Nat} {h h' : PH} {L : QH FA} (hG : GK nc h) (hd : ∀ k j, j < 43 → lam k ≠ nm + j) (h103 : ∀ k, k < 103 → lam k = nc + k) (hR : Rep rdF h (lamM nm) 43 L h') : GK nc h' := by
  obtain ⟨K, h1, h2⟩ := hG
  refine ⟨K, ?_, h2⟩
  rw [hR.2.2.2 (nc + 93) (fun j hj e => hd 93 j hj ((h103 93 (by decide)).trans e))]
  exact h1
def CQG (l : Launch) (G : PG) (nc nm : Nat) (h : PH) (y : MethodName) (bytes : ByteArray) (maxL : Nat) (ret : Option FieldType) (d : Nat) (As : List PV) : Prop := ∃ Φ0, PMet l G y bytes maxL ret d 0 0 As h Φ0 ∧ ∀ r h', Φ0 r h' → (∃ v, r = some (vI v)) ∧ LIG nc nm h'
def PRG (l : Launch) (G : PG) (nc nm : Nat) (h : PH) (kc dc kr dr : Nat) (As : List PV) : Prop := ∃ Φ0, PMet l G (mY kc) (mC kc) (mN kc) (mR kc) dc 0 0 (vR nc :: As) h Φ0 ∧ ∀ r h', Φ0 r h' → ∃ v, r = some (vI v) ∧ (∃ fs, h'[nm]? = some (eO 12 fs)) ∧ ∃ Φ1, PMet l G (mY kr) (mC kr) (mN kr) (mR kr) dr 0 0 (vR nm :: As) h' Φ1 ∧ ∀ r1 h1, Φ1 r1 h1 → r1 = some (vI v) ∧ LIG nc nm h1
theorem lix0 {lam : Nat → Nat} {b nc nm : Nat} {h : PH} (hI : LIB lam b nc nm h) : LIX [] [] nc nm h := ⟨lam, b, hI, (fun p hp => by cases hp), (fun _ p hp => by cases hp)⟩
theorem cg_c (l : Launch) (G : PG) {nc nm : Nat} {h : PH} (su : SU) (hI : LIG nc nm h) (hS : ∀ lam, LAMC lam → SUOK lam TCl EXT l G su) (he : (su.2.2.2.2.all (fun e => !(e.1 == 0 && e.2 == 2)) && su.2.2.2.2.all (fun e => !(e.1 == 93 && e.2 == 999))) = true) (hr : su.2.2.2.1.isSome = true) (As : List PV) (hA : ∀ lam : Nat → Nat, lam 0 = nc → R2 (vRel lam []) su.2.2.1 (vR nc :: As)) : CQG l G nc nm h (mY su.1) (mC su.1) (mN su.1) (mR su.1) su.2.1 (vR nc :: As) := by
  obtain ⟨⟨lam, b, hB, -⟩, hG⟩ := hI
  rw [Bool.and_eq_true] at he
  obtain ⟨Φ0, hP, hQ⟩ := lib_c l G su hB (hS lam hB.2.1) he.1 As (hA lam (hB.2.2.1 0 (by decide)))
  refine ⟨Φ0, hP, fun r h' q => ?_⟩
  obtain ⟨q1, q2, q3⟩ := hQ r h' q
  refine ⟨RSO_i q1 hr, lix0 q2, hG.c q3 hB.2.1 hB.2.2.1 (fun hm => ?_)⟩
  have := List.all_eq_true.mp he.2 _ hm
  simp at this
theorem cg_r (l : Launch) (G : PG) {nc nm : Nat} {h : PH} (su : SU) (hI : LIG nc nm h) (hS : SUOK (lamM nm) TRf (EXR (lamM nm)) l G su) (he : su.2.2.2.2.all (fun e => wrR e.1 && !(e.1 == 0 && e.2 == 73)) = true) (hr : su.2.2.2.1.isSome = true) (As : List PV) (hA : R2 (vRel (lamM nm) []) su.2.2.1 (vR nm :: As)) : CQG l G nc nm h (mY su.1) (mC su.1) (mN su.1) (mR su.1) su.2.1 (vR nm :: As) := by
  obtain ⟨⟨lam, b, hB, -⟩, hG⟩ := hI
  obtain ⟨Φ0, hP, hQ⟩ := lib_r l G su hB hS he As hA
  refine ⟨Φ0, hP, fun r h' q => ?_⟩
  obtain ⟨q1, q2, q3⟩ := hQ r h' q
  have hw : su.2.2.2.2.all (fun e => wrR e.1) = true := List.all_eq_true.mpr (fun e h => ((Bool.and_eq_true _ _).mp (List.all_eq_true.mp he e h)).1)
  exact ⟨RSO_i q1 hr, lix0 q2, hG.r hB q3 hw⟩
theorem lg_text_c (l : Launch) (G : PG) {nc nm : Nat} {h : PH} (hI : LIG nc nm h) (kd : Int32) : ∃ Φ0, PMet l G yX11_text cX11_text 3 (some .int) 31 3 488 [vR nc, vI kd] h Φ0 ∧ ∀ r h', Φ0 r h' → (∃ x, r = some (vI x)) ∧ LIG nc nm h' := by
  obtain ⟨⟨lam, b, hB, -⟩, hG⟩ := hI
  obtain ⟨hb, hl, h103, hC, hM, hX, hx, hd⟩ := hB
  have hb1 : b ≤ 1 := by omega
  have e0 : lam 0 = nc := h103 0 (by decide)
  have hP := text_ok l G lam hl (kd := kd) (TB_TC hb1 hC)
  rw [e0] at hP
  refine ⟨_, hP, ?_⟩
  rintro r h' ⟨x, rfl, lam', hl', hH', hF, hk, hk103⟩
  have hlt : ∀ j, j < 43 → nm + j < h.length := fun j hj => by
    have hc : ∃ c, nth TRf j = some c := by
      rw [nth_eq]
      exact ⟨_, List.getElem?_eq_getElem (by rw [TRf_len]; exact hj)⟩
    obtain ⟨c, hc⟩ := hc
    obtain ⟨y, hy, -⟩ := hM j c hc
    exact (List.getElem?_eq_some_iff.mp hy).1
  obtain ⟨o1, o2, o3⟩ := oth_c hF hd hM hX hx
  have hd' : ∀ k j, j < 43 → lam' k ≠ nm + j := fun k j hj z => by
    rcases hk k with e | e
    · exact hd k j hj (e ▸ z)
    · have := hlt j hj
      omega
  exact ⟨⟨x, rfl⟩, lix0 ⟨hb, hl', fun k hk => (hk103 k hk).trans (h103 k hk), TC_TB hl hC hH' (hk103 0 (by decide)) hF (by decide), o1, o2, o3, hd'⟩, hG.c hF hl h103 (by decide)⟩
theorem lg_text_r (l : Launch) (G : PG) {nc nm : Nat} {h : PH} (hI : LIG nc nm h) (x : Int32) : CQG l G nc nm h (mY 280) (mC 280) (mN 280) (mR 280) 11 [vR nm, vI x] := by
  obtain ⟨⟨lam, b, hB, -⟩, hG⟩ := hI
  obtain ⟨z, f, hr⟩ := LR_rep hB.2.2.2.2.1
  obtain ⟨r, z', f', hc, g1, g2, g3, g4, g5⟩ := text_x 0 x (BNDz_of hB.2.2.2.2.1 hr) (BNDf_of hB.2.2.2.2.1 hr) (EXF_of hB.2.2.2.2.2.1 hr)
  refine ⟨_, pm_of (lamM_i nm) hc hr, ?_⟩
  rintro r1 h1 ⟨rfl, hR1⟩
  exact ⟨⟨r, rfl⟩, lix0 (lib_of_r hB hr hR1 g1 g2 g3 (g4.1 73 (by decide))), hG.x (lam := lam) (b := b) hB.2.2.2.2.2.2.2 hB.2.2.1 hR1⟩
theorem li_g {n : Nat} : LbI (lbP pm_g n) 4 := fun i hi j hj e => by
  have key : ∀ i, i < 4 → ∀ j, j < 4 → (nth pm_g i).getD 0 = (nth pm_g j).getD 0 → i = j := by decide +kernel
  exact key i hi j hj (Nat.add_left_cancel e)
theorem li_r {n : Nat} : LbI (lbP pm_r n) 3 := fun i hi j hj e => by
  have key : ∀ i, i < 3 → ∀ j, j < 3 → (nth pm_r i).getD 0 = (nth pm_r j).getD 0 → i = j := by decide +kernel
  exact key i hi j hj (Nat.add_left_cancel e)
