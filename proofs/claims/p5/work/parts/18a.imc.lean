/-! image of the class: texts go over by name; the places of the image's texts are then those of the class itself, or the other way round -/
noncomputable def chkE (T0 T T1 : List AC) (sums : List SU) (MT : MTb) (F : Nat) (su : SU) : Bool := match su with
  | (k, ds, args, res, eff) => (match exM T sums eff MT F ds k args (0, [], [], [], T0) with
    | some os => okOs T1 res os
    | none => false)
theorem chkE_ok {lam : Nat → Nat} {T0 T T1 : List AC} {sums : List SU} {EX : PH → Prop} {l : Launch} {G : PG} {MT : MTb} {F : Nat} {k ds : Nat} {args : List AV} {res : Option (Nat × Nat)} {eff : List (Nat × Nat)} (hMT : MTOK MT) (hEX : ∀ h0 h, EX h0 → FRM lam eff h0 h → EX h) (hi : ∀ k j, (k, j) ∈ eff → ∀ k', lam k = lam k' → k = k') (hsu : ∀ su, su ∈ sums → SUOK lam T EX l G su) (h : chkE T0 T T1 sums MT F (k, ds, args, res, eff) = true) {cAs : List PV} {hh : PH} (hA : R2 (vRel lam []) args cAs) (hT : HOK lam [] T0 hh) (hX : EX hh) : ∃ Φ0, PMet l G (mY k) (mC k) (mN k) (mR k) ds 0 0 cAs hh Φ0 ∧ ∀ r h', Φ0 r h' → RSO res r ∧ FRM lam eff hh h' ∧ HOK lam [] T1 h' := by
  unfold chkE at h
  simp only at h
  split at h
  · rename_i os ho
    have hS : SOK lam eff T0.length hh [] (0, [], [], [], T0) hh := ⟨rfl, trivial, fun _ _ _ hm => (List.not_mem_nil hm).elim, fun _ _ _ hm => (List.not_mem_nil hm).elim, hT, rfl, FRM.refl hh⟩
    refine ⟨_, exM_ok hMT (fun h hf => hEX hh h hX hf) hi hsu ds k args _ os ho [] cAs hh hA hS, ?_⟩
    rintro r h' ⟨o, S', hm, τ, h1, h2⟩
    obtain ⟨n, env, fs, mm, H⟩ := S'
    have hk := okOs_ok h _ hm
    obtain ⟨hn, hE, hF, hM, hH, hL, hR⟩ := h2
    unfold okO at hk
    simp only at hk
    obtain ⟨k1, k2⟩ := bif_t hk
    refine ⟨?_, hR, sbH_ok hn hE rfl k2 hH⟩
    match res, o with
    | none, none => exact h1
    | none, some _ => cases k1
    | some (lo, hi'), none => cases k1
    | some (lo, hi'), some (.inl c) =>
      obtain ⟨y, rfl, z, hz, rfl⟩ := h1
      have k1 : (Nat.ble lo (bnd n env c).1 && Nat.ble (bnd n env c).2 hi') = true := k1
      rw [Bool.and_eq_true, Nat.ble_eq, Nat.ble_eq] at k1
      have hb := bnd_ok hn hE hz
      exact ⟨z, rfl, Nat.le_trans k1.1 hb.1, Nat.le_trans hb.2 k1.2⟩
    | some (lo, hi'), some (.inr _) => cases k1
  · cases h
/-- places renamed -/
def renV (σ : Nat → Nat) (v : AV) : AV := match v with
  | .inr (.inl o) => .inr (.inl (o.map σ))
  | v => v
def renC (σ : Nat → Nat) (c : AC) : AC := match c with
  | .inl (.inl q) => .inl (.inl q)
  | .inl (.inr (t, rs)) => .inl (.inr (t, rs.map (fun o => o.map σ)))
  | .inr (q, fs) => .inr (q, fs.map (renV σ))
theorem vRel_ren {lam σ : Nat → Nat} {ρ : List Int32} {v : AV} {x : PV} (h : vRel lam ρ (renV σ v) x) : vRel (fun k => lam (σ k)) ρ v x := by
  match v with
  | .inl c => exact h
  | .inr (.inl none) => exact h
  | .inr (.inl (some k)) => exact h
  | .inr (.inr (.inl j)) => exact h
  | .inr (.inr (.inr b)) => exact h
theorem R2_ren {lam σ : Nat → Nat} {ρ : List Int32} : ∀ {fs : List AV} {xs : List PV}, R2 (vRel lam ρ) (fs.map (renV σ)) xs → R2 (vRel (fun k => lam (σ k)) ρ) fs xs := by
  intro fs
  induction fs with
  | nil => intro xs h; cases xs with
    | nil => exact trivial
    | cons _ _ => cases h
  | cons a t ih => intro xs h; cases xs with
    | nil => cases h
    | cons b u => exact ⟨vRel_ren h.1, ih h.2⟩
theorem cellOK_ren {lam σ : Nat → Nat} {c : AC} {x : PE} (hv : ∀ ln p sg, c = .inl (.inl (ln, p, sg)) → renV σ ln = ln) (h : cellOK lam [] (renC σ c) x) : cellOK (fun k => lam (σ k)) [] c x := by
  match c with
  | .inl (.inl (ln, p, sg)) =>
    obtain ⟨N, f, h1, h2, h3, h4, h5⟩ := h
    exact ⟨N, f, h1, h2, vRel_ren (by rw [hv ln p sg rfl]; exact h3), h4, h5⟩
  | .inl (.inr (q, rs)) =>
    obtain ⟨f, h1, h2⟩ := h
    refine ⟨f, by rw [h1, List.length_map], fun j o hj => ?_⟩
    have := h2 j (o.map σ) (by rw [nth_eq] at hj ⊢; rw [List.getElem?_map, hj]; rfl)
    rw [this]
    cases o <;> rfl
  | .inr (q, fs) =>
    obtain ⟨xs, h1, h2⟩ := h
    exact ⟨xs, h1, R2_ren h2⟩
/-- a length is a number -/
def lnOK (c : AC) : Bool := match c with
  | .inl (.inl (.inr (.inl _), _, _)) => false
  | _ => true
theorem lnOK_ok {σ : Nat → Nat} {c : AC} (h : lnOK c = true) : ∀ ln p sg, c = .inl (.inl (ln, p, sg)) → renV σ ln = ln := by
  rintro ln p sg rfl
  match ln with
  | .inl c => rfl
  | .inr (.inl o) => cases h
  | .inr (.inr (.inl j)) => rfl
  | .inr (.inr (.inr b)) => rfl
theorem HOK_ren {lam σ : Nat → Nat} {T T1 : List AC} {n : Nat} {h : PH} (hn : T.length = n) (hr : ∀ k, k < n → nth T1 (σ k) = (nth T k).map (renC σ) ∧ (match nth T k with
    | some c => lnOK c
    | none => true) = true) (hT : HOK lam [] T1 h) : HOK (fun k => lam (σ k)) [] T h := by
  intro k c hk
  have hkn : k < n := by
    rw [nth_eq] at hk
    rw [← hn]
    exact (List.getElem?_eq_some_iff.mp hk).1
  obtain ⟨h1, h2⟩ := hr k hkn
  rw [hk] at h1 h2
  obtain ⟨x, g1, g2⟩ := hT (σ k) _ h1
  exact ⟨x, g1, cellOK_ren (lnOK_ok h2) g2⟩
def dAV : DecidableEq AV := inferInstance
def dAA : DecidableEq AA := @instDecidableEqProd _ _ dAV inferInstance
def dRA : DecidableEq (Nat × List (Option Nat)) := inferInstance
def dOB : DecidableEq (Nat × List AV) := @instDecidableEqProd _ _ inferInstance (@instDecidableEqList _ dAV)
def dAC : DecidableEq AC := @instDecidableEqSum _ _ (@instDecidableEqSum _ _ dAA dRA) dOB
def dOC : DecidableEq (Option AC) :=
  haveI := dAC
  inferInstance
def imgP (k : Nat) : Nat := if 115 ≤ k ∧ k < 127 then k - 12 else k
def imgQ (k : Nat) : Nat := if 103 ≤ k ∧ k < 115 then k + 12 else k
theorem LAMC_s {lam σ : Nat → Nat} (hs : ∀ k, k < 103 → σ k = k) (hs2 : ∀ k, 103 ≤ k → 103 ≤ σ k) (hl : LAMC lam) : LAMC (fun k => lam (σ k)) := by
  intro k hk k' e
  have k103 : k < 103 := by
    have h1 : (Nat.blt k 103 && !(Nat.beq k 9 || Nat.beq k 10 || Nat.beq k 11 || Nat.beq k 38 || Nat.beq k 39 || Nat.beq k 40)) = true := hk
    rw [Bool.and_eq_true, Nat.blt_eq] at h1
    exact h1.1
  have e : lam (σ k) = lam (σ k') := e
  rw [hs k k103] at e
  have e2 := hl k hk _ e
  by_cases c : k' < 103
  · rw [hs k' c] at e2; exact e2
  · have := hs2 k' (by omega)
    omega
theorem imgP_1 : ∀ k, k < 103 → imgP k = k := fun k hk => if_neg (by omega)
theorem imgP_2 : ∀ k, 103 ≤ k → 103 ≤ imgP k := fun k hk => by
  unfold imgP
  split <;> omega
theorem imgQ_1 : ∀ k, k < 103 → imgQ k = k := fun k hk => if_neg (by omega)
theorem imgQ_2 : ∀ k, 103 ≤ k → 103 ≤ imgQ k := fun k hk => by
  unfold imgQ
  split <;> omega
/-- the class, imaged or not -/
noncomputable def TBc (b : Nat) : List AC := stl TCl (.inr (11, [.inr (.inl (some 1)), .inr (.inl (some 30)), .inr (.inr (.inr (2147483648 + b, 2147483648 + b))), .inr (.inl (some 59)), .inr (.inl (some 79)), .inr (.inl (some 83)), .inr (.inl (some 95)), .inr (.inl (some 99)), .inr (.inl (some 86)), .inr (.inl (some 89)), .inr (.inl (some 92))])) 0
noncomputable def TI1 : List AC := stl (TBc 1) (.inl (.inr (2, [some 103, some 106, some 109, some 112]))) 36
noncomputable def TI2 : List AC := stl (TBc 1) (.inl (.inr (2, [some 115, some 118, some 121, some 124]))) 7
theorem TB_ex {lam : Nat → Nat} {h : PH} (hT : HOK lam [] TCl h) : ∃ b, (b = 0 ∨ b = 1) ∧ HOK lam [] (TBc b) h := by
  obtain ⟨x, h1, xs, rfl, h2⟩ := hT 0 _ rfl
  obtain ⟨y0, r0, rfl, e0, h3⟩ := R2.uncons h2
  obtain ⟨y1, r1, rfl, e1, h4⟩ := R2.uncons h3
  obtain ⟨y2, r2, rfl, ⟨z, rfl, e2⟩, h5⟩ := R2.uncons h4
  have hb : ky z = 2147483648 ∨ ky z = 2147483649 := by
    obtain ⟨q1, q2⟩ := e2
    omega
  have key : ∀ b, ky z = 2147483648 + b → HOK lam [] (TBc b) h := by
    intro b hb k c hk
    cases k with
    | zero =>
      have hk := Option.some.inj hk
      subst hk
      exact ⟨_, h1, _, rfl, e0, e1, ⟨z, rfl, by omega, by omega⟩, h5⟩
    | succ k => exact hT (k + 1) c hk
  rcases hb with hb | hb
  · exact ⟨0, Or.inl rfl, key 0 hb⟩
  · exact ⟨1, Or.inr rfl, key 1 hb⟩
theorem TB_of {lam : Nat → Nat} {h : PH} {b : Nat} (hb : b = 0 ∨ b = 1) (hT : HOK lam [] (TBc b) h) : HOK lam [] TCl h := by
  intro k c hk
  cases k with
  | zero =>
    have hk := Option.some.inj hk
    subst hk
    obtain ⟨x, h1, xs, rfl, h2⟩ := hT 0 _ rfl
    obtain ⟨y0, r0, rfl, e0, h3⟩ := R2.uncons h2
    obtain ⟨y1, r1, rfl, e1, h4⟩ := R2.uncons h3
    obtain ⟨y2, r2, rfl, ⟨z, rfl, e2⟩, h5⟩ := R2.uncons h4
    have e2 : 2147483648 + b ≤ ky z ∧ ky z ≤ 2147483648 + b := e2
    exact ⟨_, h1, _, rfl, e0, e1, ⟨z, rfl, by omega, by omega⟩, h5⟩
  | succ k => exact hT (k + 1) c hk
set_option maxRecDepth 1000000 in
theorem ic_1 : chkE TCl TCl TI1 [kc_q154] MT 20000 (165, 4, [.inr (.inl (some 0)), .inr (.inr (.inr (2147483649, 2147483649)))], some (2147483649, 2147483649), [(0, 2), (31, 2), (31, 3), (31, 4), (31, 5), (31, 6), (31, 7), (31, 8), (31, 9), (32, 999), (33, 999), (35, 999), (36, 999), (41, 1), (42, 999), (43, 1), (44, 999), (45, 1), (46, 999), (47, 1), (48, 999), (49, 1), (50, 999), (51, 1), (52, 999), (53, 1), (54, 999), (55, 1), (56, 999), (57, 1), (58, 999)]) = true := by decide +kernel
set_option maxRecDepth 1000000 in
theorem ic_2 : chkE (TBc 1) TCl TI2 [kc_q153] MT 20000 (165, 4, [.inr (.inl (some 0)), .inr (.inr (.inr (2147483648, 2147483648)))], some (2147483649, 2147483649), [(2, 2), (2, 3), (2, 4), (2, 5), (2, 6), (2, 7), (2, 8), (2, 9), (3, 999), (4, 999), (6, 999), (7, 999), (12, 1), (13, 999), (14, 1), (15, 999), (16, 1), (17, 999), (18, 1), (19, 999), (20, 1), (21, 999), (22, 1), (23, 999), (24, 1), (25, 999), (26, 1), (27, 999), (28, 1), (29, 999), (59, 2)]) = true := by decide +kernel
set_option maxRecDepth 1000000 in
theorem ic_3 : chkE (TBc 0) TCl (TBc 0) [] MT 20000 (165, 4, [.inr (.inl (some 0)), .inr (.inr (.inr (2147483648, 2147483648)))], some (2147483648, 2147483648), []) = true := by decide +kernel
noncomputable def rn_1_d : Decidable (∀ k, k < 127 → nth TI1 (imgP k) = (nth (TBc 1) k).map (renC imgP) ∧ (match nth (TBc 1) k with
    | some c => lnOK c
    | none => true) = true) := @Nat.decidableBallLT 127 _ (fun k _ => @instDecidableAnd _ _ (dOC _ _) inferInstance)
theorem rn_1 : ∀ k, k < 127 → nth TI1 (imgP k) = (nth (TBc 1) k).map (renC imgP) ∧ (match nth (TBc 1) k with
    | some c => lnOK c
    | none => true) = true := by
  have h : @decide _ rn_1_d = true := by decide +kernel
  exact @of_decide_eq_true _ rn_1_d h
noncomputable def rn_2_d : Decidable (∀ k, k < 127 → nth TI2 (imgQ k) = (nth (TBc 1) k).map (renC imgQ) ∧ (match nth (TBc 1) k with
    | some c => lnOK c
    | none => true) = true) := @Nat.decidableBallLT 127 _ (fun k _ => @instDecidableAnd _ _ (dOC _ _) inferInstance)
theorem rn_2 : ∀ k, k < 127 → nth TI2 (imgQ k) = (nth (TBc 1) k).map (renC imgQ) ∧ (match nth (TBc 1) k with
    | some c => lnOK c
    | none => true) = true := by
  have h : @decide _ rn_2_d = true := by decide +kernel
  exact @of_decide_eq_true _ rn_2_d h
/-- image: it answers whether there is one, and keeps the class's shape -/
theorem image_c (l : Launch) (G : PG) {lam : Nat → Nat} (hl : LAMC lam) {h : PH} {b : Nat} (hb : b = 0 ∨ b = 1) (hT : HOK lam [] (TBc b) h) (x : Int32) (hx : x = 0 ∨ x = 1) : ∃ Φ0, PMet l G (mY 165) (mC 165) (mN 165) (mR 165) 4 0 0 [vR (lam 0), vI x] h Φ0 ∧ ∀ r h', Φ0 r h' → ∃ b' lam', (b' = 0 ∨ b' = 1) ∧ r = some (vI (nI b')) ∧ (b' = 0 ↔ x = 0 ∧ b = 0) ∧ LAMC lam' ∧ (∀ k, k < 103 → lam' k = lam k) ∧ (∀ k, ∃ k', lam' k = lam k') ∧ HOK lam' [] (TBc b') h' ∧ ∃ eff, (∀ q, q ∈ eff → wrC q.1 = true) ∧ FRM lam eff h h' := by
  rcases hx with rfl | rfl
  · rcases hb with rfl | rfl
    · obtain ⟨Φ, p1, p2⟩ := chkE_ok (EX := EXT) (l := l) (G := G) (lam := lam) MT_ok (fun _ _ _ _ => trivial) (fun k j hm => by cases hm) sun ic_3 (cAs := [vR (lam 0), vI 0]) (hh := h) ⟨rfl, ⟨0, rfl, inb_J (by decide) (by decide)⟩, trivial⟩ hT trivial
      refine ⟨Φ, p1, fun r h' hq => ?_⟩
      obtain ⟨⟨z, rfl, q1⟩, q2, q3⟩ := p2 r h' hq
      have hz : z = 0 := (inb_c q1).trans (by decide)
      subst hz
      exact ⟨0, lam, Or.inl rfl, rfl, by decide, hl, fun _ _ => rfl, fun k => ⟨k, rfl⟩, q3, _, (fun q hq => by cases hq), q2⟩
    · have hw : ∀ q, q ∈ ([(2, 2), (2, 3), (2, 4), (2, 5), (2, 6), (2, 7), (2, 8), (2, 9), (3, 999), (4, 999), (6, 999), (7, 999), (12, 1), (13, 999), (14, 1), (15, 999), (16, 1), (17, 999), (18, 1), (19, 999), (20, 1), (21, 999), (22, 1), (23, 999), (24, 1), (25, 999), (26, 1), (27, 999), (28, 1), (29, 999), (59, 2)] : List (Nat × Nat)) → wrC q.1 = true := by decide
      obtain ⟨Φ, p1, p2⟩ := chkE_ok (EX := EXT) (l := l) (G := G) (lam := lam) MT_ok (fun _ _ _ _ => trivial) (fun k j hm => hl k (hw (k, j) hm)) (suc (kc_q153_ok l G lam hl) sun) ic_2 (cAs := [vR (lam 0), vI 0]) (hh := h) ⟨rfl, ⟨0, rfl, inb_J (by decide) (by decide)⟩, trivial⟩ hT trivial
      refine ⟨Φ, p1, fun r h' hq => ?_⟩
      obtain ⟨⟨z, rfl, q1⟩, q2, q3⟩ := p2 r h' hq
      have hz : z = 1 := (inb_c q1).trans (by decide)
      subst hz
      exact ⟨1, _, Or.inr rfl, rfl, by decide, LAMC_s imgQ_1 imgQ_2 hl, fun k hk => by rw [imgQ_1 k hk], fun k => ⟨imgQ k, rfl⟩, HOK_ren (n := 127) (by decide +kernel) rn_2 q3, _, hw, q2⟩
  · have hw : ∀ q, q ∈ ([(0, 2), (31, 2), (31, 3), (31, 4), (31, 5), (31, 6), (31, 7), (31, 8), (31, 9), (32, 999), (33, 999), (35, 999), (36, 999), (41, 1), (42, 999), (43, 1), (44, 999), (45, 1), (46, 999), (47, 1), (48, 999), (49, 1), (50, 999), (51, 1), (52, 999), (53, 1), (54, 999), (55, 1), (56, 999), (57, 1), (58, 999)] : List (Nat × Nat)) → wrC q.1 = true := by decide
    obtain ⟨Φ, p1, p2⟩ := chkE_ok (EX := EXT) (l := l) (G := G) (lam := lam) MT_ok (fun _ _ _ _ => trivial) (fun k j hm => hl k (hw (k, j) hm)) (suc (kc_q154_ok l G lam hl) sun) ic_1 (cAs := [vR (lam 0), vI 1]) (hh := h) ⟨rfl, ⟨1, rfl, inb_J (by decide) (by decide)⟩, trivial⟩ (TB_of hb hT) trivial
    refine ⟨Φ, p1, fun r h' hq => ?_⟩
    obtain ⟨⟨z, rfl, q1⟩, q2, q3⟩ := p2 r h' hq
    have hz : z = 1 := (inb_c q1).trans (by decide)
    subst hz
    exact ⟨1, _, Or.inr rfl, rfl, ⟨fun q => absurd q (by decide), fun q => absurd q.1 (by decide)⟩, LAMC_s imgP_1 imgP_2 hl, fun k hk => by rw [imgP_1 k hk], fun k => ⟨imgP k, rfl⟩, HOK_ren (n := 127) (by decide +kernel) rn_1 q3, _, hw, q2⟩
