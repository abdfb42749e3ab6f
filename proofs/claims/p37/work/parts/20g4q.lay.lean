variable {bb : Int32} {g : FA} {s0 : Int32}
def lu (A v : Nat) : Nat → Nat
  | 0 => 0
  | t + 1 => lu A v t + is (A / 10 ^ t % 10) v
def lS (A : Nat) : Nat → Nat
  | 0 => 0
  | t + 1 => lS A t + A / 10 ^ t % 10 * 3 ^ t
def lF (g : FA) (A : Nat) : Nat → FA
  | 0 => g
  | t + 1 => upd (lF g A t) (8 - t) (nI (A / 10 ^ t % 10))
def cd (A : Nat) : Nat := lS A 9
def li (t : Nat) : Int32 := if t = 9 then -1 else nI (8 - t)
theorem li_s {t : Nat} (ht : t ≤ 8) : nI (8 - t) + (-1) = li (t + 1) := by
  rcases (show t = 0 ∨ t = 1 ∨ t = 2 ∨ t = 3 ∨ t = 4 ∨ t = 5 ∨ t = 6 ∨ t = 7 ∨ t = 8 by omega) with rfl | rfl | rfl | rfl | rfl | rfl | rfl | rfl | rfl <;> decide +kernel
theorem li_n {t : Nat} (ht : t ≤ 8) : li t = nI (8 - t) := if_neg (by omega)
theorem lay_in0 {D A : Nat} {K : FA} {l : Int32} {res : Option PV × QH FA} (hA : A ≤ 222222222) (hk : Rn D 35 18 [some (vR 0), some (vI (nI A)), some (vI (nI (A / 10 ^ 0))), some (vI (nI (lu A 1 0))), some (vI (nI (lu A 2 0))), some (vI (li 0)), none] [] (gL bb K (lF g A 0) (nI (lS A 0)) l) res) : Rn D 35 0 [some (vR 0), some (vI (nI A)), none, none, none, none, none] [] (gL bb K g s0 l) res := by
  rw [Nat.pow_zero, Nat.div_one, li_n (t := 0) (by decide)] at hk
  exact lay_in hA hk
theorem lay_step {D A t : Nat} {K : FA} {a l : Int32} {l6 : Option PV} {res : Option PV × QH FA} (ht : t ≤ 8) (hA : A ≤ 222222222) (hx : A / 10 ^ t % 10 ≤ 2) (hk : Rn D 35 18 [some (vR 0), some (vI a), some (vI (nI (A / 10 ^ (t + 1)))), some (vI (nI (lu A 1 (t + 1)))), some (vI (nI (lu A 2 (t + 1)))), some (vI (li (t + 1))), some (vI (nI (A / 10 ^ t % 10)))] [] (gL bb K (lF g A (t + 1)) (nI (lS A (t + 1))) l) res) : Rn D 35 18 [some (vR 0), some (vI a), some (vI (nI (A / 10 ^ t))), some (vI (nI (lu A 1 t))), some (vI (nI (lu A 2 t))), some (vI (li t)), l6] [] (gL bb K (lF g A t) (nI (lS A t)) l) res := by
  have hR : A / 10 ^ t ≤ 222222222 := Nat.le_trans (Nat.div_le_self _ _) hA
  have e10 : A / 10 ^ (t + 1) = A / 10 ^ t / 10 := by rw [Nat.pow_succ, Nat.div_div_eq_div_mul]
  rw [li_n ht]
  rw [e10, ← li_s ht] at hk
  rcases (show A / 10 ^ t % 10 = 0 ∨ A / 10 ^ t % 10 = 1 ∨ A / 10 ^ t % 10 = 2 by omega) with e | e | e
  · exact lay_y0 ht hR e hk
  · exact lay_y1 ht hR e hk
  · exact lay_y2 ht hR e hk
theorem lay_run {D A : Nat} {K : FA} {a l : Int32} {res : Option PV × QH FA} (hA : A ≤ 222222222) (hall : ∀ t, t < 9 → A / 10 ^ t % 10 ≤ 2) (hk : ∀ l6, Rn D 35 18 [some (vR 0), some (vI a), some (vI (nI (A / 10 ^ 9))), some (vI (nI (lu A 1 9))), some (vI (nI (lu A 2 9))), some (vI (-1)), l6] [] (gL bb K (lF g A 9) (nI (lS A 9)) l) res) : ∀ (r t : Nat) (l6 : Option PV), t + r = 9 → Rn D 35 18 [some (vR 0), some (vI a), some (vI (nI (A / 10 ^ t))), some (vI (nI (lu A 1 t))), some (vI (nI (lu A 2 t))), some (vI (li t)), l6] [] (gL bb K (lF g A t) (nI (lS A t)) l) res := by
  intro r
  induction r with
  | zero =>
    intro t l6 ht
    obtain rfl : t = 9 := by omega
    exact hk l6
  | succ r ih =>
    intro t l6 ht
    exact lay_step (by omega) hA (hall t (by omega)) (ih (t + 1) _ (by omega))
theorem lay_bad {D A : Nat} {K : FA} {a l : Int32} (hA : A ≤ 222222222) : ∀ (r t : Nat) (l6 : Option PV), t + r = 9 → (∃ t', t ≤ t' ∧ t' < 9 ∧ 2 < A / 10 ^ t' % 10) → ∃ f' s', Rn D 35 18 [some (vR 0), some (vI a), some (vI (nI (A / 10 ^ t))), some (vI (nI (lu A 1 t))), some (vI (nI (lu A 2 t))), some (vI (li t)), l6] [] (gL bb K (lF g A t) (nI (lS A t)) l) (some (vI 0), gL bb K f' s' l) := by
  intro r
  induction r with
  | zero =>
    intro t l6 ht h
    obtain ⟨t', h1, h2, -⟩ := h
    omega
  | succ r ih =>
    intro t l6 ht h
    by_cases hx : 2 < A / 10 ^ t % 10
    · have hR : A / 10 ^ t ≤ 222222222 := Nat.le_trans (Nat.div_le_self _ _) hA
      refine ⟨lF g A t, nI (lS A t), ?_⟩
      rw [li_n (by omega)]
      exact glay_no (by omega) hR hx
    · obtain ⟨t', h1, h2, h3⟩ := h
      have hne : t ≠ t' := fun q => hx (q ▸ h3)
      obtain ⟨f', s', hr⟩ := ih (t + 1) (some (vI (nI (A / 10 ^ t % 10)))) (by omega) ⟨t', by omega, h2, h3⟩
      exact ⟨f', s', lay_step (by omega) hA (by omega) hr⟩
theorem cd_dg {A : Nat} (hall : ∀ t, t < 9 → A / 10 ^ t % 10 ≤ 2) : ∀ j, j < 9 → dg (cd A) j = A / 10 ^ (8 - j) % 10 := by
  have h0 := hall 0 (by decide); have h1 := hall 1 (by decide); have h2 := hall 2 (by decide); have h3 := hall 3 (by decide); have h4 := hall 4 (by decide); have h5 := hall 5 (by decide); have h6 := hall 6 (by decide); have h7 := hall 7 (by decide); have h8 := hall 8 (by decide)
  intro j hj
  simp only [cd, lS, dg]
  rcases (show j = 0 ∨ j = 1 ∨ j = 2 ∨ j = 3 ∨ j = 4 ∨ j = 5 ∨ j = 6 ∨ j = 7 ∨ j = 8 by omega) with rfl | rfl | rfl | rfl | rfl | rfl | rfl | rfl | rfl <;> simp only [Nat.reduceSub] <;> clear hall hj <;> generalize A / 10 ^ 0 % 10 = d0 at * <;> generalize A / 10 ^ 1 % 10 = d1 at * <;> generalize A / 10 ^ 2 % 10 = d2 at * <;> generalize A / 10 ^ 3 % 10 = d3 at * <;> generalize A / 10 ^ 4 % 10 = d4 at * <;> generalize A / 10 ^ 5 % 10 = d5 at * <;> generalize A / 10 ^ 6 % 10 = d6 at * <;> generalize A / 10 ^ 7 % 10 = d7 at * <;> generalize A / 10 ^ 8 % 10 = d8 at * <;> simp only [Nat.reducePow] <;> omega
theorem cd_lt {A : Nat} (hall : ∀ t, t < 9 → A / 10 ^ t % 10 ≤ 2) : cd A < 19683 := by
  have h0 := hall 0 (by decide); have h1 := hall 1 (by decide); have h2 := hall 2 (by decide); have h3 := hall 3 (by decide); have h4 := hall 4 (by decide); have h5 := hall 5 (by decide); have h6 := hall 6 (by decide); have h7 := hall 7 (by decide); have h8 := hall 8 (by decide)
  simp only [cd, lS]
  generalize A / 10 ^ 0 % 10 = d0 at *
  generalize A / 10 ^ 1 % 10 = d1 at *
  generalize A / 10 ^ 2 % 10 = d2 at *
  generalize A / 10 ^ 3 % 10 = d3 at *
  generalize A / 10 ^ 4 % 10 = d4 at *
  generalize A / 10 ^ 5 % 10 = d5 at *
  generalize A / 10 ^ 6 % 10 = d6 at *
  generalize A / 10 ^ 7 % 10 = d7 at *
  generalize A / 10 ^ 8 % 10 = d8 at *
  simp only [Nat.reducePow]
  omega
theorem lF_Bd {A : Nat} (hall : ∀ t, t < 9 → A / 10 ^ t % 10 ≤ 2) : Bd (lF g A 9) (cd A) := by
  intro j hj
  rw [cd_dg hall j hj]
  rcases (show j = 0 ∨ j = 1 ∨ j = 2 ∨ j = 3 ∨ j = 4 ∨ j = 5 ∨ j = 6 ∨ j = 7 ∨ j = 8 by omega) with rfl | rfl | rfl | rfl | rfl | rfl | rfl | rfl | rfl <;> simp [lF, upd]
theorem lu_cnt {A v : Nat} (hall : ∀ t, t < 9 → A / 10 ^ t % 10 ≤ 2) : lu A v 9 = cnt (cd A) v := by
  unfold cnt
  rw [cd_dg hall 0 (by decide), cd_dg hall 1 (by decide), cd_dg hall 2 (by decide), cd_dg hall 3 (by decide), cd_dg hall 4 (by decide), cd_dg hall 5 (by decide), cd_dg hall 6 (by decide), cd_dg hall 7 (by decide), cd_dg hall 8 (by decide)]
  simp only [lu, Nat.reduceSub]
  omega
def ok9 (A : Nat) : Bool := decide (∀ t, t < 9 → A / 10 ^ t % 10 ≤ 2)
def alt (c : Nat) : Bool := Nat.beq (cnt c 1) (cnt c 2) || Nat.beq (cnt c 1) (cnt c 2 + 1)
def gok (A : Nat) : Bool := ok9 A && (alt (cd A) && !(three (cd A) 1 && three (cd A) 2))
theorem alt_iff {c : Nat} : alt c = true ↔ (cnt c 1 = cnt c 2 ∨ cnt c 1 = cnt c 2 + 1) := by
  unfold alt
  rw [Bool.or_eq_true, Nat.beq_eq, Nat.beq_eq]
theorem cnt_lt (c : Nat) : cnt c 1 < 10 ∧ cnt c 2 < 10 := by
  have h1 := cnt_fl c
  have h2 := fl_le c
  omega
theorem lay_ok {D A : Nat} {K : FA} {l : Int32} (hA : A ≤ 222222222) (h : gok A = true) : MC (D + 2) 35 [vR 0, vI (nI A)] (gL bb K g s0 l) (some (vI 1), gL bb K (lF g A 9) (nI (cd A)) (nI (fl (cd A)))) := by
  simp only [gok, Bool.and_eq_true, ok9, decide_eq_true_eq, Bool.not_eq_true', Bool.and_eq_false_iff] at h
  obtain ⟨hall, ha, ht⟩ := h
  rw [alt_iff] at ha
  have hB := lF_Bd (g := g) hall
  have hc := cnt_lt (cd A)
  rw [← lu_cnt hall, ← lu_cnt hall] at ha hc
  have hfl : fl (cd A) = lu A 1 9 + lu A 2 9 := by rw [cnt_fl, lu_cnt hall, lu_cnt hall]
  rw [hfl]
  refine mc_of rfl (lay_in0 hA (lay_run (D := D + 1) hA hall (fun l6 => ?_) 9 0 none rfl))
  have e : three (cd A) 1 = false ∨ (three (cd A) 1 = true ∧ three (cd A) 2 = false) := by
    cases h1 : three (cd A) 1
    · exact Or.inl rfl
    · rcases ht with q | q
      · rw [h1] at q; cases q
      · exact Or.inr ⟨rfl, q⟩
  rcases ha with ha | ha <;> rcases e with e | ⟨e, e2⟩
  · exact le_a2 hc.1 hc.2 hB ha e
  · exact le_a3 hc.1 hc.2 hB ha e e2
  · exact le_b2 hc.1 hc.2 hB ha e
  · exact le_b3 hc.1 hc.2 hB ha e e2
theorem lay_not {D A : Nat} {K : FA} {l : Int32} (hA : A ≤ 222222222) (h : gok A = false) : ∃ f' s' l', MC (D + 2) 35 [vR 0, vI (nI A)] (gL bb K g s0 l) (some (vI 0), gL bb K f' s' l') := by
  by_cases hall : ∀ t, t < 9 → A / 10 ^ t % 10 ≤ 2
  · have hB := lF_Bd (g := g) hall
    have hc := cnt_lt (cd A)
    rw [← lu_cnt hall, ← lu_cnt hall] at hc
    refine ⟨lF g A 9, nI (cd A), nI (lu A 1 9 + lu A 2 9), mc_of rfl (lay_in0 hA (lay_run (D := D + 1) hA hall (fun l6 => ?_) 9 0 none rfl))⟩
    · by_cases ha : lu A 1 9 = lu A 2 9 ∨ lu A 1 9 = lu A 2 9 + 1
      · have ht : three (cd A) 1 = true ∧ three (cd A) 2 = true := by
          have ha' : alt (cd A) = true := by rw [alt_iff, ← lu_cnt hall, ← lu_cnt hall]; exact ha
          have h9 : ok9 A = true := decide_eq_true hall
          rw [gok, h9, ha'] at h
          simpa using h
        rcases ha with ha | ha
        · exact le_a4 hc.1 hc.2 hB ha ht.1 ht.2
        · exact le_b4 hc.1 hc.2 hB ha ht.1 ht.2
      · exact le_0 (c := cd A) hc.1 hc.2 hB ha
  · have hx : ∃ t', 0 ≤ t' ∧ t' < 9 ∧ 2 < A / 10 ^ t' % 10 := by
      apply Classical.byContradiction
      intro q
      exact hall (fun t ht => Nat.le_of_not_lt (fun z => q ⟨t, Nat.zero_le _, ht, z⟩))
    obtain ⟨f', s', hr⟩ := lay_bad (bb := bb) (D := D + 1) (K := K) (a := nI A) (l := l) hA 9 0 none rfl hx
    exact ⟨f', s', l, mc_of rfl (lay_in0 hA hr)⟩
