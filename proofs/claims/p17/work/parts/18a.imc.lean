/-! image of the class: texts go over by name; the places of the image's texts are then those of the class itself, or the other way round -/
/-- places renamed -/
def renV (σ : Nat → Nat) (v : AV) : AV := match v with
  | .inr (.inl o) => .inr (.inl (o.map σ))
  | v => v
def renC (σ : Nat → Nat) (c : AC) : AC := match c with
  | .inl (.inl q) => .inl (.inl q)
  | .inl (.inr (t, rs)) => .inl (.inr (t, rs.map (fun o => o.map σ)))
  | .inr (q, fs) => .inr (q, fs.map (renV σ))
theorem vRel_ren {lam σ : Nat → Nat} {ρ : List Int32} {v : AV} {x : PV} (h : vRel lam ρ (renV σ v) x) : vRel (fun k => lam (σ k)) ρ v x := by
  match v with
  | .inl c => exact h
  | .inr (.inl none) => exact h
  | .inr (.inl (some k)) => exact h
  | .inr (.inr (.inl j)) => exact h
  | .inr (.inr (.inr b)) => exact h
theorem R2_ren {lam σ : Nat → Nat} {ρ : List Int32} : ∀ {fs : List AV} {xs : List PV}, R2 (vRel lam ρ) (fs.map (renV σ)) xs → R2 (vRel (fun k => lam (σ k)) ρ) fs xs := by
  intro fs
  induction fs with
  | nil => intro xs h; cases xs with
    | nil => exact trivial
    | cons _ _ => cases h
  | cons a t ih => intro xs h; cases xs with
    | nil => cases h
    | cons b u => exact ⟨vRel_ren h.1, ih h.2⟩
theorem cellOK_ren {lam σ : Nat → Nat} {c : AC} {x : PE} (hv : ∀ ln p sg, c = .inl (.inl (ln, p, sg)) → renV σ ln = ln) (h : cellOK lam [] (renC σ c) x) : cellOK (fun k => lam (σ k)) [] c x := by
  match c with
  | .inl (.inl (ln, p, sg)) =>
    obtain ⟨N, f, h1, h2, h3, h4, h5⟩ := h
    exact ⟨N, f, h1, h2, vRel_ren (by rw [hv ln p sg rfl]; exact h3), h4, h5⟩
  | .inl (.inr (q, rs)) =>
    obtain ⟨f, h1, h2⟩ := h
    refine ⟨f, by rw [h1, List.length_map], fun j o hj => ?_⟩
    have := h2 j (o.map σ) (by rw [nth_eq] at hj ⊢; rw [List.getElem?_map, hj]; rfl)
    rw [this]
    cases o <;> rfl
  | .inr (q, fs) =>
    obtain ⟨xs, h1, h2⟩ := h
    exact ⟨xs, h1, R2_ren h2⟩
/-- a length is a number -/
def lnOK (c : AC) : Bool := match c with
  | .inl (.inl (.inr (.inl _), _, _)) => false
  | _ => true
theorem lnOK_ok {σ : Nat → Nat} {c : AC} (h : lnOK c = true) : ∀ ln p sg, c = .inl (.inl (ln, p, sg)) → renV σ ln = ln := by
  rintro ln p sg rfl
  match ln with
  | .inl c => rfl
  | .inr (.inl o) => cases h
  | .inr (.inr (.inl j)) => rfl
  | .inr (.inr (.inr b)) => rfl
theorem HOK_ren {lam σ : Nat → Nat} {T T1 : List AC} {n : Nat} {h : PH} (hn : T.length = n) (hr : ∀ k, k < n → nth T1 (σ k) = (nth T k).map (renC σ) ∧ (match nth T k with
    | some c => lnOK c
    | none => true) = true) (hT : HOK lam [] T1 h) : HOK (fun k => lam (σ k)) [] T h := by
  intro k c hk
  have hkn : k < n := by
    rw [nth_eq] at hk
    rw [← hn]
    exact (List.getElem?_eq_some_iff.mp hk).1
  obtain ⟨h1, h2⟩ := hr k hkn
  rw [hk] at h1 h2
  obtain ⟨x, g1, g2⟩ := hT (σ k) _ h1
  exact ⟨x, g1, cellOK_ren (lnOK_ok h2) g2⟩
def dAV : DecidableEq AV := inferInstance
def dAA : DecidableEq AA := @instDecidableEqProd _ _ dAV inferInstance
def dRA : DecidableEq (Nat × List (Option Nat)) := inferInstance
def dOB : DecidableEq (Nat × List AV) := @instDecidableEqProd _ _ inferInstance (@instDecidableEqList _ dAV)
def dAC : DecidableEq AC := @instDecidableEqSum _ _ (@instDecidableEqSum _ _ dAA dRA) dOB
def dOC : DecidableEq (Option AC) :=
  haveI := dAC
  inferInstance
def imgP (k : Nat) : Nat := if 115 ≤ k ∧ k < 127 then k - 12 else k
def imgQ (k : Nat) : Nat := if 103 ≤ k ∧ k < 115 then k + 12 else k
theorem LAMC_s {lam σ : Nat → Nat} (hs : ∀ k, k < 103 → σ k = k) (hs2 : ∀ k, 103 ≤ k → 103 ≤ σ k) (hl : LAMC lam) : LAMC (fun k => lam (σ k)) := by
  intro k hk k' e
  have k103 : k < 103 := by
    have h1 : (Nat.blt k 103 && !(Nat.beq k 9 || Nat.beq k 10 || Nat.beq k 11 || Nat.beq k 38 || Nat.beq k 39 || Nat.beq k 40)) = true := hk
    rw [Bool.and_eq_true, Nat.blt_eq] at h1
    exact h1.1
  have e : lam (σ k) = lam (σ k') := e
  rw [hs k k103] at e
  have e2 := hl k hk _ e
  by_cases c : k' < 103
  · rw [hs k' c] at e2; exact e2
  · have := hs2 k' (by omega)
    omega
theorem imgP_1 : ∀ k, k < 103 → imgP k = k := fun k hk => if_neg (by omega)
theorem imgP_2 : ∀ k, 103 ≤ k → 103 ≤ imgP k := fun k hk => by
  unfold imgP
  split <;> omega
theorem imgQ_1 : ∀ k, k < 103 → imgQ k = k := fun k hk => if_neg (by omega)
theorem imgQ_2 : ∀ k, 103 ≤ k → 103 ≤ imgQ k := fun k hk => by
  unfold imgQ
  split <;> omega
/-- the class, imaged or not -/
noncomputable def TBc (b : Nat) : List AC := stl TCl (.inr (11, [.inr (.inl (some 1)), .inr (.inl (some 30)), .inr (.inr (.inr (2147483648 + b, 2147483648 + b))), .inr (.inl (some 59)), .inr (.inl (some 79)), .inr (.inl (some 83)), .inr (.inl (some 95)), .inr (.inl (some 99)), .inr (.inl (some 86)), .inr (.inl (some 89)), .inr (.inl (some 92))])) 0
noncomputable def TI1 : List AC := stl (TBc 1) (.inl (.inr (2, [some 103, some 106, some 109, some 112]))) 36
noncomputable def TI2 : List AC := stl (TBc 1) (.inl (.inr (2, [some 115, some 118, some 121, some 124]))) 7
theorem TB_ex {lam : Nat → Nat} {h : PH} (hT : HOK lam [] TCl h) : ∃ b, (b = 0 ∨ b = 1) ∧ HOK lam [] (TBc b) h := by
  obtain ⟨x, h1, xs, rfl, h2⟩ := hT 0 _ rfl
  obtain ⟨y0, r0, rfl, e0, h3⟩ := R2.uncons h2
  obtain ⟨y1, r1, rfl, e1, h4⟩ := R2.uncons h3
  obtain ⟨y2, r2, rfl, ⟨z, rfl, e2⟩, h5⟩ := R2.uncons h4
  have hb : ky z = 2147483648 ∨ ky z = 2147483649 := by
    obtain ⟨q1, q2⟩ := e2
    omega
  have key : ∀ b, ky z = 2147483648 + b → HOK lam [] (TBc b) h := by
    intro b hb k c hk
    cases k with
    | zero =>
      have hk := Option.some.inj hk
      subst hk
      exact ⟨_, h1, _, rfl, e0, e1, ⟨z, rfl, by omega, by omega⟩, h5⟩
    | succ k => exact hT (k + 1) c hk
  rcases hb with hb | hb
  · exact ⟨0, Or.inl rfl, key 0 hb⟩
  · exact ⟨1, Or.inr rfl, key 1 hb⟩
noncomputable def rn_1_d : Decidable (∀ k, k < 127 → nth TI1 (imgP k) = (nth (TBc 1) k).map (renC imgP) ∧ (match nth (TBc 1) k with
    | some c => lnOK c
    | none => true) = true) := @Nat.decidableBallLT 127 _ (fun k _ => @instDecidableAnd _ _ (dOC _ _) inferInstance)
theorem rn_1 : ∀ k, k < 127 → nth TI1 (imgP k) = (nth (TBc 1) k).map (renC imgP) ∧ (match nth (TBc 1) k with
    | some c => lnOK c
    | none => true) = true := by
  have h : @decide _ rn_1_d = true := by decide +kernel
  exact @of_decide_eq_true _ rn_1_d h
noncomputable def rn_2_d : Decidable (∀ k, k < 127 → nth TI2 (imgQ k) = (nth (TBc 1) k).map (renC imgQ) ∧ (match nth (TBc 1) k with
    | some c => lnOK c
    | none => true) = true) := @Nat.decidableBallLT 127 _ (fun k _ => @instDecidableAnd _ _ (dOC _ _) inferInstance)
theorem rn_2 : ∀ k, k < 127 → nth TI2 (imgQ k) = (nth (TBc 1) k).map (renC imgQ) ∧ (match nth (TBc 1) k with
    | some c => lnOK c
    | none => true) = true := by
  have h : @decide _ rn_2_d = true := by decide +kernel
  exact @of_decide_eq_true _ rn_2_d h
