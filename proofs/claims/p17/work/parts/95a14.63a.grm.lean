/-! what tokens spell: sums, conditions, lines of the law -/
abbrev PSS : Type := (Nat × Nat) ⊕ (List TK × List TT)
def pxp (c : List TK) : PSS → PSS
  | .inl e => .inl e
  | .inr (d, r) => .inr (c ++ d, r)
theorem pxp_inr {c e : List TK} {p : PSS} {r : List TT} (h : pxp c p = .inr (e, r)) : ∃ d, p = .inr (d, r) ∧ e = c ++ d := by
  rcases p with x | ⟨d, r'⟩
  · cases h
  · have h : (Sum.inr (c ++ d, r') : PSS) = .inr (e, r) := h
    have h1 := Sum.inr.inj h
    have h2 : c ++ d = e := congrArg Prod.fst h1
    have h3 : r' = r := congrArg Prod.snd h1
    subst h2 h3
    exact ⟨d, rfl, rfl⟩
theorem pxp_inl {c : List TK} {p : PSS} {e : Nat × Nat} (h : pxp c p = .inl e) : p = .inl e := by
  rcases p with x | ⟨d, r'⟩
  · exact h
  · cases h
/-- U, or the number of a part -/
def pU (j : Nat) (x : TT) : (Nat × Nat) ⊕ List TK :=
  if x.2.1 = 1 then (if j = 47 ∧ x.2.2 = 0 then .inl (2, x.1) else .inr ((if j = 47 then (2, x.2.2) else (0, x.2.2)) :: (if j = 42 then [(6, 0)] else [])))
  else if j ≠ 47 ∧ 303 ≤ x.2.1 ∧ x.2.1 ≤ 312 then .inr ((1, x.2.1 - 303) :: (if j = 42 then [(6, 0)] else []))
  else .inl (1, x.1)
def pwt (j : Nat) : Nat := if j = 42 ∨ j = 47 then 1 else 0
def pws (s : Nat) : Nat := if s = 0 then 0 else 1
def psc (s : Nat) : List TK := if s = 0 then [] else [(s, 0)]
/-- E, behind a sum s and a joint j -/
def pxf : List TT → Nat → Nat → PSS
  | [], _, _ => .inl (0, 0)
  | [x], s, j => match pU j x with
    | .inl e => .inl e
    | .inr c => .inr (c ++ psc s, [])
  | x :: y :: r, s, j => match pU j x with
    | .inl e => .inl e
    | .inr c => if y.2.1 = 42 ∨ y.2.1 = 47 then pxp c (pxf r s y.2.1)
      else if y.2.1 = 43 then pxp (c ++ psc s) (pxf r 4 y.2.1)
      else if y.2.1 = 45 then pxp (c ++ psc s) (pxf r 5 y.2.1)
      else .inr (c ++ psc s, y :: r)
theorem pxf_1 {x y : TT} {r : List TT} {s j : Nat} {e : Nat × Nat} (h : pU j x = .inl e) : pxf (x :: y :: r) s j = .inl e := by
  rw [pxf, h]
theorem pxf_2 {x y : TT} {r : List TT} {s j : Nat} {c : List TK} (h : pU j x = .inr c) (hy : y.2.1 = 42 ∨ y.2.1 = 47) : pxf (x :: y :: r) s j = pxp c (pxf r s y.2.1) := by
  rw [pxf, h]
  exact if_pos hy
theorem pxf_3 {x y : TT} {r : List TT} {s j : Nat} {c : List TK} (h : pU j x = .inr c) (hy : y.2.1 = 43) : pxf (x :: y :: r) s j = pxp (c ++ psc s) (pxf r 4 y.2.1) := by
  rw [pxf, h]
  exact (if_neg (by omega)).trans (if_pos hy)
theorem pxf_4 {x y : TT} {r : List TT} {s j : Nat} {c : List TK} (h : pU j x = .inr c) (hy : y.2.1 = 45) : pxf (x :: y :: r) s j = pxp (c ++ psc s) (pxf r 5 y.2.1) := by
  rw [pxf, h]
  exact ((if_neg (by omega)).trans (if_neg (by omega))).trans (if_pos hy)
theorem pxf_5 {x y : TT} {r : List TT} {s j : Nat} {c : List TK} (h : pU j x = .inr c) (h1 : ¬ (y.2.1 = 42 ∨ y.2.1 = 47)) (h2 : ¬ y.2.1 = 43) (h3 : ¬ y.2.1 = 45) : pxf (x :: y :: r) s j = .inr (c ++ psc s, y :: r) := by
  rw [pxf, h]
  exact ((if_neg h1).trans (if_neg h2)).trans (if_neg h3)
theorem pxf_6 {x : TT} {s j : Nat} {c : List TK} (h : pU j x = .inr c) : pxf [x] s j = .inr (c ++ psc s, []) := by
  rw [pxf, h]
theorem pxf_7 {x : TT} {s j : Nat} {e : Nat × Nat} (h : pU j x = .inl e) : pxf [x] s j = .inl e := by
  rw [pxf, h]
theorem pU_j {j : Nat} (x : TT) (h1 : ¬ j = 42) (h2 : ¬ j = 47) : pU j x = pU 0 x := by
  unfold pU
  rw [if_neg (fun q : j = 47 ∧ _ => h2 q.1), if_neg (fun q : (0 : Nat) = 47 ∧ _ => absurd q.1 (by decide)), if_neg h2, if_neg h1, if_neg (show ¬ (0 : Nat) = 47 by decide), if_neg (show ¬ (0 : Nat) = 42 by decide)]
  by_cases c : x.2.1 = 1
  · rw [if_pos c, if_pos c]
  · rw [if_neg c, if_neg c]
    by_cases c2 : 303 ≤ x.2.1 ∧ x.2.1 ≤ 312
    · rw [if_pos ⟨h2, c2⟩, if_pos ⟨by decide, c2⟩]
    · rw [if_neg (fun q => c2 q.2), if_neg (fun q => c2 q.2)]
theorem pxf_j {j s : Nat} (h1 : ¬ j = 42) (h2 : ¬ j = 47) (ts : List TT) : pxf ts s j = pxf ts s 0 := by
  match ts with
  | [] => rfl
  | [x] => rw [pxf, pxf, pU_j x h1 h2]
  | x :: y :: r => rw [pxf, pxf, pU_j x h1 h2]
def prl : List TK → Nat
  | [] => 0
  | e :: P => (if e.1 = 2 then 2 else 1) + prl P
theorem prl_app (c d : List TK) : prl (c ++ d) = prl c + prl d := by
  induction c with
  | nil => exact (Nat.zero_add _).symm
  | cons e c ih =>
    show (if e.1 = 2 then 2 else 1) + prl (c ++ d) = (if e.1 = 2 then 2 else 1) + prl c + prl d
    rw [ih]
    omega
theorem prl_le (c : List TK) : c.length ≤ prl c := by
  induction c with
  | nil => exact Nat.le_refl _
  | cons e c ih =>
    show c.length + 1 ≤ (if e.1 = 2 then 2 else 1) + prl c
    by_cases h : e.1 = 2
    · rw [if_pos h]; omega
    · rw [if_neg h]; omega
theorem pU_len {j : Nat} {x : TT} {c : List TK} (h : pU j x = .inr c) : prl c = 1 + pwt j := by
  unfold pU at h
  unfold pwt
  by_cases c1 : x.2.1 = 1
  · rw [if_pos c1] at h
    by_cases c2 : j = 47 ∧ x.2.2 = 0
    · rw [if_pos c2] at h
      cases h
    · rw [if_neg c2] at h
      have h := Sum.inr.inj h
      subst h
      by_cases c3 : j = 47
      · subst c3
        rfl
      · rw [if_neg c3]
        by_cases c4 : j = 42
        · subst c4
          rfl
        · rw [if_neg c4, if_neg (by omega)]
          rfl
  · rw [if_neg c1] at h
    by_cases c2 : j ≠ 47 ∧ 303 ≤ x.2.1 ∧ x.2.1 ≤ 312
    · rw [if_pos c2] at h
      have h := Sum.inr.inj h
      subst h
      by_cases c4 : j = 42
      · subst c4
        rfl
      · rw [if_neg c4, if_neg (by have := c2.1; omega)]
        rfl
    · rw [if_neg c2] at h
      cases h
theorem psc_len (s : Nat) (h : s = 0 ∨ s = 4 ∨ s = 5) : prl (psc s) = pws s := by
  rcases h with rfl | rfl | rfl <;> rfl
theorem pxf_len : ∀ (m : Nat) (ts : List TT), ts.length ≤ m → ∀ (s j : Nat) (c : List TK) (r : List TT), (s = 0 ∨ s = 4 ∨ s = 5) → pxf ts s j = .inr (c, r) → prl c + r.length ≤ ts.length + pwt j + pws s ∧ r.length < ts.length := by
  intro m
  induction m with
  | zero =>
    intro ts hm s j c r hs h
    cases ts with
    | nil => cases h
    | cons x r' => exact absurd hm (Nat.not_succ_le_zero _)
  | succ m ih =>
    intro ts hm s j c r hs h
    match ts with
    | [] => cases h
    | [x] =>
      cases hu : pU j x with
      | inl e => rw [pxf_7 hu] at h; cases h
      | inr c0 =>
        rw [pxf_6 hu] at h
        have h := Sum.inr.inj h
        have e1 : c0 ++ psc s = c := congrArg Prod.fst h
        have e2 : [] = r := congrArg Prod.snd h
        subst e1 e2
        rw [prl_app, pU_len hu, psc_len s hs]
        show 1 + pwt j + pws s + 0 ≤ 1 + pwt j + pws s ∧ 0 < 1
        omega
    | x :: y :: r0 =>
      have hm : r0.length + 1 + 1 ≤ m + 1 := hm
      show prl c + r.length ≤ r0.length + 1 + 1 + pwt j + pws s ∧ r.length < r0.length + 1 + 1
      cases hu : pU j x with
      | inl e => rw [pxf_1 hu] at h; cases h
      | inr c0 =>
        have hl := pU_len hu
        by_cases c1 : y.2.1 = 42 ∨ y.2.1 = 47
        · rw [pxf_2 hu c1] at h
          obtain ⟨d, h1, rfl⟩ := pxp_inr h
          obtain ⟨g1, g2⟩ := ih r0 (by omega) s _ d r hs h1
          have : pwt y.2.1 = 1 := if_pos c1
          rw [prl_app]
          omega
        · have w0 : pwt y.2.1 = 0 := if_neg c1
          by_cases c2 : y.2.1 = 43
          · rw [pxf_3 hu c2] at h
            obtain ⟨d, h1, rfl⟩ := pxp_inr h
            obtain ⟨g1, g2⟩ := ih r0 (by omega) 4 _ d r (by omega) h1
            have : pws 4 = 1 := rfl
            rw [prl_app, prl_app, psc_len s hs]
            omega
          · by_cases c3 : y.2.1 = 45
            · rw [pxf_4 hu c3] at h
              obtain ⟨d, h1, rfl⟩ := pxp_inr h
              obtain ⟨g1, g2⟩ := ih r0 (by omega) 5 _ d r (by omega) h1
              have : pws 5 = 1 := rfl
              rw [prl_app, prl_app, psc_len s hs]
              omega
            · rw [pxf_5 hu c1 c2 c3] at h
              have h := Sum.inr.inj h
              have e1 : c0 ++ psc s = c := congrArg Prod.fst h
              have e2 : y :: r0 = r := congrArg Prod.snd h
              subst e1 e2
              rw [prl_app, hl, psc_len s hs]
              show 1 + pwt j + pws s + (r0.length + 1) ≤ _ ∧ r0.length + 1 < _
              omega
/-- C without brackets: E, a sign, E -/
def pC (ts : List TT) : PSS := match pxf ts 0 0 with
  | .inl e => .inl e
  | .inr (_, []) => .inl (0, 0)
  | .inr (c, y :: r) => if y.2.1 = 60 ∨ y.2.1 = 61 ∨ y.2.1 = 62 then (match pxf r 0 0 with
    | .inl e => .inl e
    | .inr (d, r') => .inr (c ++ d ++ [(y.2.1 - 53, 0)], r')) else .inl (1, y.1)
theorem pC_1 {ts : List TT} {e : Nat × Nat} (h : pxf ts 0 0 = .inl e) : pC ts = .inl e := by
  unfold pC
  rw [h]
theorem pC_2 {ts r : List TT} {y : TT} {c : List TK} (h : pxf ts 0 0 = .inr (c, y :: r)) (hy : ¬ (y.2.1 = 60 ∨ y.2.1 = 61 ∨ y.2.1 = 62)) : pC ts = .inl (1, y.1) := by
  unfold pC
  rw [h]
  exact if_neg hy
theorem pC_3 {ts r : List TT} {y : TT} {c : List TK} {e : Nat × Nat} (h : pxf ts 0 0 = .inr (c, y :: r)) (hy : y.2.1 = 60 ∨ y.2.1 = 61 ∨ y.2.1 = 62) (h2 : pxf r 0 0 = .inl e) : pC ts = .inl e := by
  unfold pC
  rw [h]
  refine (if_pos hy).trans ?_
  rw [h2]
theorem pC_4 {ts r r' : List TT} {y : TT} {c d : List TK} (h : pxf ts 0 0 = .inr (c, y :: r)) (hy : y.2.1 = 60 ∨ y.2.1 = 61 ∨ y.2.1 = 62) (h2 : pxf r 0 0 = .inr (d, r')) : pC ts = .inr (c ++ d ++ [(y.2.1 - 53, 0)], r') := by
  unfold pC
  rw [h]
  refine (if_pos hy).trans ?_
  rw [h2]
theorem pC_5 {ts : List TT} {c : List TK} (h : pxf ts 0 0 = .inr (c, [])) : pC ts = .inl (0, 0) := by
  unfold pC
  rw [h]
theorem pC_inv {ts r' : List TT} {e : List TK} (h : pC ts = .inr (e, r')) : ∃ c d y r, pxf ts 0 0 = .inr (c, y :: r) ∧ (y.2.1 = 60 ∨ y.2.1 = 61 ∨ y.2.1 = 62) ∧ pxf r 0 0 = .inr (d, r') ∧ e = c ++ d ++ [(y.2.1 - 53, 0)] := by
  cases h1 : pxf ts 0 0 with
  | inl e => rw [pC_1 h1] at h; cases h
  | inr p =>
    obtain ⟨c, q⟩ := p
    cases q with
    | nil => rw [pC_5 h1] at h; cases h
    | cons y r =>
      by_cases c1 : y.2.1 = 60 ∨ y.2.1 = 61 ∨ y.2.1 = 62
      · cases h2 : pxf r 0 0 with
        | inl e => rw [pC_3 h1 c1 h2] at h; cases h
        | inr p2 =>
          obtain ⟨d, r2⟩ := p2
          rw [pC_4 h1 c1 h2] at h
          have h := Sum.inr.inj h
          have e1 : c ++ d ++ [(y.2.1 - 53, 0)] = e := congrArg Prod.fst h
          have e2 : r2 = r' := congrArg Prod.snd h
          subst e1 e2
          exact ⟨c, d, y, r, rfl, c1, h2, rfl⟩
      · rw [pC_2 h1 c1] at h
        cases h
theorem pC_len {ts r : List TT} {c : List TK} (h : pC ts = .inr (c, r)) : prl c + r.length ≤ ts.length ∧ r.length < ts.length := by
  obtain ⟨a, b, y, q, h1, h2, h3, rfl⟩ := pC_inv h
  obtain ⟨g1, g2⟩ := pxf_len _ ts (Nat.le_refl _) 0 0 a _ (Or.inl rfl) h1
  obtain ⟨g3, g4⟩ := pxf_len _ q (Nat.le_refl _) 0 0 b _ (Or.inl rfl) h3
  have w0 : pwt 0 = 0 := rfl
  have w1 : pws 0 = 0 := rfl
  have g1 : prl a + (q.length + 1) ≤ ts.length + pwt 0 + pws 0 := g1
  have g2 : q.length + 1 < ts.length := g2
  have e : prl [(y.2.1 - 53, 0)] = 1 := by
    show (if y.2.1 - 53 = 2 then 2 else 1) + 0 = 1
    rw [if_neg (by omega)]
  rw [prl_app, prl_app, e]
  omega
def pb1 (b : Bool) : Nat := if b = true then 1 else 0
def pbA (b : Bool) : List TK := if b = true then [(10, 0)] else []
def pbO (b : Bool) : List TK := if b = true then [(11, 0)] else []
/-- C (m 0), or B (m 1) behind what waits, under op that are open -/
def pB : Nat → Nat → Nat → Bool → Bool → List TT → PSS
  | 0, _, _, _, _, _ => .inl (9, 0)
  | n + 1, m, op, ei, bo, ts => if m = 0 then (match ts with
      | [] => .inl (0, 0)
      | x :: r => if x.2.1 = 316 ∨ x.2.1 = 40 then (if 8 ≤ op then .inl (3, x.1) else if x.2.1 = 316 then (match pB n 0 (op + 1) false false r with
          | .inl e => .inl e
          | .inr (c, r') => .inr (c ++ [(3, 0)], r')) else (match pB n 1 (op + 1) false false r with
          | .inl e => .inl e
          | .inr (_, []) => .inl (0, 0)
          | .inr (c, y :: r') => if y.2.1 = 41 then .inr (c, r') else .inl (1, y.1))) else pC (x :: r))
    else (match pB n 0 op false false ts with
      | .inl e => .inl e
      | .inr (_, []) => .inl (0, 0)
      | .inr (c, y :: r') => if y.2.1 = 315 then pxp (c ++ pbA bo) (pB n 1 op ei true r') else if y.2.1 = 314 then pxp (c ++ pbA bo ++ pbO ei) (pB n 1 op true false r') else .inr (c ++ pbA bo ++ pbO ei, y :: r'))
section PBs
variable {n op : Nat} {ei bo : Bool} {x y : TT} {r r' ts : List TT} {c : List TK} {e : Nat × Nat}
theorem pT_c (h : ¬ (x.2.1 = 316 ∨ x.2.1 = 40)) : pB (n + 1) 0 op ei bo (x :: r) = pC (x :: r) := by
  rw [pB]
  exact (if_pos rfl).trans (if_neg h)
theorem pT_8 (h : x.2.1 = 316 ∨ x.2.1 = 40) (h8 : 8 ≤ op) : pB (n + 1) 0 op ei bo (x :: r) = .inl (3, x.1) := by
  rw [pB]
  exact ((if_pos rfl).trans (if_pos h)).trans (if_pos h8)
theorem pT_n (h : x.2.1 = 316) (h8 : ¬ 8 ≤ op) (hc : pB n 0 (op + 1) false false r = .inr (c, r')) : pB (n + 1) 0 op ei bo (x :: r) = .inr (c ++ [(3, 0)], r') := by
  rw [pB]
  refine ((((if_pos rfl).trans (if_pos (Or.inl h))).trans (if_neg h8)).trans (if_pos h)).trans ?_
  rw [hc]
theorem pT_ne (h : x.2.1 = 316) (h8 : ¬ 8 ≤ op) (hc : pB n 0 (op + 1) false false r = .inl e) : pB (n + 1) 0 op ei bo (x :: r) = .inl e := by
  rw [pB]
  refine ((((if_pos rfl).trans (if_pos (Or.inl h))).trans (if_neg h8)).trans (if_pos h)).trans ?_
  rw [hc]
theorem pT_be (h : x.2.1 = 40) (h8 : ¬ 8 ≤ op) (hc : pB n 1 (op + 1) false false r = .inl e) : pB (n + 1) 0 op ei bo (x :: r) = .inl e := by
  rw [pB]
  refine ((((if_pos rfl).trans (if_pos (Or.inr h))).trans (if_neg h8)).trans (if_neg (by omega))).trans ?_
  rw [hc]
theorem pT_b0 (h : x.2.1 = 40) (h8 : ¬ 8 ≤ op) (hc : pB n 1 (op + 1) false false r = .inr (c, [])) : pB (n + 1) 0 op ei bo (x :: r) = .inl (0, 0) := by
  rw [pB]
  refine ((((if_pos rfl).trans (if_pos (Or.inr h))).trans (if_neg h8)).trans (if_neg (by omega))).trans ?_
  rw [hc]
theorem pT_b1 (h : x.2.1 = 40) (h8 : ¬ 8 ≤ op) (hc : pB n 1 (op + 1) false false r = .inr (c, y :: r')) (hy : y.2.1 = 41) : pB (n + 1) 0 op ei bo (x :: r) = .inr (c, r') := by
  rw [pB]
  refine ((((if_pos rfl).trans (if_pos (Or.inr h))).trans (if_neg h8)).trans (if_neg (by omega))).trans ?_
  rw [hc]
  exact if_pos hy
theorem pT_b2 (h : x.2.1 = 40) (h8 : ¬ 8 ≤ op) (hc : pB n 1 (op + 1) false false r = .inr (c, y :: r')) (hy : ¬ y.2.1 = 41) : pB (n + 1) 0 op ei bo (x :: r) = .inl (1, y.1) := by
  rw [pB]
  refine ((((if_pos rfl).trans (if_pos (Or.inr h))).trans (if_neg h8)).trans (if_neg (by omega))).trans ?_
  rw [hc]
  exact if_neg hy
theorem pB_1 : pB (n + 1) 1 op ei bo ts = (match pB n 0 op false false ts with
      | .inl e => .inl e
      | .inr (_, []) => .inl (0, 0)
      | .inr (c, y :: r') => if y.2.1 = 315 then pxp (c ++ pbA bo) (pB n 1 op ei true r') else if y.2.1 = 314 then pxp (c ++ pbA bo ++ pbO ei) (pB n 1 op true false r') else .inr (c ++ pbA bo ++ pbO ei, y :: r')) := by
  cases ts with
  | nil =>
    rw [pB]
    exact if_neg (by decide)
  | cons x r =>
    rw [pB]
    exact if_neg (by decide)
theorem pL_e (hc : pB n 0 op false false ts = .inl e) : pB (n + 1) 1 op ei bo ts = .inl e := by
  rw [pB_1, hc]
theorem pL_0 (hc : pB n 0 op false false ts = .inr (c, [])) : pB (n + 1) 1 op ei bo ts = .inl (0, 0) := by
  rw [pB_1, hc]
theorem pL_a (hc : pB n 0 op false false ts = .inr (c, y :: r)) (hy : y.2.1 = 315) : pB (n + 1) 1 op ei bo ts = pxp (c ++ pbA bo) (pB n 1 op ei true r) := by
  rw [pB_1, hc]
  exact if_pos hy
theorem pL_o (hc : pB n 0 op false false ts = .inr (c, y :: r)) (hy : y.2.1 = 314) : pB (n + 1) 1 op ei bo ts = pxp (c ++ pbA bo ++ pbO ei) (pB n 1 op true false r) := by
  rw [pB_1, hc]
  exact (if_neg (by omega)).trans (if_pos hy)
theorem pL_z (hc : pB n 0 op false false ts = .inr (c, y :: r)) (hy : ¬ y.2.1 = 315) (hy2 : ¬ y.2.1 = 314) : pB (n + 1) 1 op ei bo ts = .inr (c ++ pbA bo ++ pbO ei, y :: r) := by
  rw [pB_1, hc]
  exact (if_neg hy).trans (if_neg hy2)
end PBs
theorem pbA_len (b : Bool) : prl (pbA b) = pb1 b := by cases b <;> rfl
theorem pbO_len (b : Bool) : prl (pbO b) = pb1 b := by cases b <;> rfl
/-- what a C, a B that was read is -/
theorem pB_len : ∀ (n : Nat), (∀ op ei bo ts c r, pB n 0 op ei bo ts = .inr (c, r) → prl c + r.length ≤ ts.length ∧ r.length < ts.length) ∧ (∀ op ei bo ts c r, pB n 1 op ei bo ts = .inr (c, r) → prl c + r.length ≤ ts.length + pb1 ei + pb1 bo ∧ r.length < ts.length) := by
  intro n
  induction n with
  | zero => exact ⟨fun op ei bo ts c r h => (by cases h), fun op ei bo ts c r h => (by cases h)⟩
  | succ n ih =>
    constructor
    · intro op ei bo ts c r h
      cases ts with
      | nil =>
        rw [pB] at h
        rw [if_pos rfl] at h
        cases h
      | cons x q =>
        show prl c + r.length ≤ q.length + 1 ∧ r.length < q.length + 1
        by_cases c1 : x.2.1 = 316 ∨ x.2.1 = 40
        · by_cases c8 : 8 ≤ op
          · rw [pT_8 c1 c8] at h
            cases h
          · by_cases c2 : x.2.1 = 316
            · cases h1 : pB n 0 (op + 1) false false q with
              | inl e => rw [pT_ne c2 c8 h1] at h; cases h
              | inr p =>
                obtain ⟨d, r2⟩ := p
                rw [pT_n c2 c8 h1] at h
                have h := Sum.inr.inj h
                have e1 : d ++ [(3, 0)] = c := congrArg Prod.fst h
                have e2 : r2 = r := congrArg Prod.snd h
                subst e1 e2
                obtain ⟨g1, g2⟩ := ih.1 _ _ _ _ _ _ h1
                rw [prl_app, show prl [(3, 0)] = 1 from rfl]
                omega
            · have c3 : x.2.1 = 40 := by omega
              cases h1 : pB n 1 (op + 1) false false q with
              | inl e => rw [pT_be c3 c8 h1] at h; cases h
              | inr p =>
                obtain ⟨d, r2⟩ := p
                cases r2 with
                | nil => rw [pT_b0 c3 c8 h1] at h; cases h
                | cons y r2 =>
                  obtain ⟨g1, g2⟩ := ih.2 _ _ _ _ _ _ h1
                  have g1 : prl d + (r2.length + 1) ≤ q.length + 0 + 0 := g1
                  have g2 : r2.length + 1 < q.length := g2
                  by_cases c4 : y.2.1 = 41
                  · rw [pT_b1 c3 c8 h1 c4] at h
                    have h := Sum.inr.inj h
                    have e1 : d = c := congrArg Prod.fst h
                    have e2 : r2 = r := congrArg Prod.snd h
                    subst e1 e2
                    omega
                  · rw [pT_b2 c3 c8 h1 c4] at h
                    cases h
        · rw [pT_c c1] at h
          exact pC_len h
    · intro op ei bo ts c r h
      cases h1 : pB n 0 op false false ts with
      | inl e => rw [pL_e h1] at h; cases h
      | inr p =>
        obtain ⟨d, r2⟩ := p
        cases r2 with
        | nil => rw [pL_0 h1] at h; cases h
        | cons y r2 =>
          obtain ⟨g1, g2⟩ := ih.1 _ _ _ _ _ _ h1
          have g1 : prl d + (r2.length + 1) ≤ ts.length := g1
          have g2 : r2.length + 1 < ts.length := g2
          by_cases c1 : y.2.1 = 315
          · rw [pL_a h1 c1] at h
            obtain ⟨d2, h2, rfl⟩ := pxp_inr h
            obtain ⟨g3, g4⟩ := ih.2 _ _ _ _ _ _ h2
            have : pb1 true = 1 := rfl
            rw [prl_app, prl_app, pbA_len]
            omega
          · by_cases c2 : y.2.1 = 314
            · rw [pL_o h1 c2] at h
              obtain ⟨d2, h2, rfl⟩ := pxp_inr h
              obtain ⟨g3, g4⟩ := ih.2 _ _ _ _ _ _ h2
              have : pb1 true = 1 := rfl
              have : pb1 false = 0 := rfl
              rw [prl_app, prl_app, prl_app, pbA_len, pbO_len]
              omega
            · rw [pL_z h1 c1 c2] at h
              have h := Sum.inr.inj h
              have e1 : d ++ pbA bo ++ pbO ei = c := congrArg Prod.fst h
              have e2 : y :: r2 = r := congrArg Prod.snd h
              subst e1 e2
              rw [prl_app, prl_app, pbA_len, pbO_len]
              show prl d + pb1 bo + pb1 ei + (r2.length + 1) ≤ _ ∧ r2.length + 1 < _
              omega
/-! what they come to: one number more on the pile -/
theorem evF_app {vals : FA} {d : List TK} : ∀ {c : List TK} {s s' : Nat × FA}, evF vals c s = some s' → evF vals (c ++ d) s = evF vals d s' := by
  intro c
  induction c with
  | nil =>
    intro s s' h
    have h : some s = some s' := h
    rw [Option.some.inj h]
    rfl
  | cons e c ih =>
    intro s s' h
    have h : (match ev1 vals e s with
      | some s' => evF vals c s'
      | none => none) = some s' := h
    show (match ev1 vals e s with
      | some s' => evF vals (c ++ d) s'
      | none => none) = _
    cases h1 : ev1 vals e s with
    | none => rw [h1] at h; cases h
    | some s1 =>
      rw [h1] at h
      exact ih h
theorem evF_1 {vals : FA} {e : TK} {s s' : Nat × FA} (h : ev1 vals e s = some s') : evF vals [e] s = some s' := by
  show (match ev1 vals e s with
    | some s' => evF vals [] s'
    | none => none) = _
  rw [h]
  rfl
theorem ev1_n {vals : FA} {v k : Nat} {g : FA} (h : k < 32) : ev1 vals (0, v) (k, g) = some (k + 1, upd g k (nI v)) := by
  unfold ev1
  rw [if_pos (show (0 : Nat) < 2 by decide)]
  exact (if_pos ⟨h, fun q => absurd (show (0 : Nat) = 1 from q) (by decide)⟩).trans rfl
theorem ev1_v {vals : FA} {v k : Nat} {g : FA} (h : k < 32) (hv : v < 10) : ev1 vals (1, v) (k, g) = some (k + 1, upd g k (vals v)) := by
  unfold ev1
  rw [if_pos (show (1 : Nat) < 2 by decide)]
  exact (if_pos ⟨h, fun _ => hv⟩).trans rfl
theorem ev1_p {vals : FA} {v k : Nat} {g : FA} (h : 1 ≤ k) (hv : 1 ≤ v) : ev1 vals (2, v) (k, g) = some (k, upd g (k - 1) (g (k - 1) / nI v)) := by
  unfold ev1
  rw [if_neg (show ¬ (2 : Nat) < 2 by decide), if_pos (show (2 : Nat) < 4 by decide)]
  exact (if_pos ⟨h, fun _ => hv⟩).trans rfl
theorem ev1_t {vals : FA} {k : Nat} {g : FA} (h : 1 ≤ k) : ev1 vals (3, 0) (k, g) = some (k, upd g (k - 1) (1 - g (k - 1))) := by
  unfold ev1
  rw [if_neg (show ¬ (3 : Nat) < 2 by decide), if_pos (show (3 : Nat) < 4 by decide)]
  exact (if_pos ⟨h, fun q => absurd (show (3 : Nat) = 2 from q) (by decide)⟩).trans rfl
theorem ev1_2 {vals : FA} {o k : Nat} {g : FA} (ho : 4 ≤ o) (h : 2 ≤ k) (hb : 10 ≤ o → bit01 (g (k - 2)) ∧ bit01 (g (k - 1))) : ev1 vals (o, 0) (k, g) = some (k - 1, upd g (k - 2) (jnO o (g (k - 2)) (g (k - 1)))) := by
  unfold ev1
  rw [if_neg (show ¬ o < 2 by omega), if_neg (show ¬ o < 4 by omega)]
  exact if_pos ⟨h, hb⟩
/-- from the heap's place b + w on one number comes at b, those below stay -/
def EvN (c : List TK) (w b : Nat) : Prop := ∀ (vals g : FA), ∃ g', evF vals c (b + w, g) = some (b + 1, g') ∧ ∀ k, k < b → g' k = g k
theorem pU_ev {j : Nat} {x : TT} {c : List TK} (h : pU j x = .inr c) (b : Nat) (hb : b + 2 ≤ 32) : EvN c (pwt j) b := by
  intro vals g
  unfold pU at h
  unfold pwt
  have two : ∀ (x0 : Int32), ∃ g', evF vals [(6, 0)] (b + 1 + 1, upd g (b + 1) x0) = some (b + 1, g') ∧ ∀ k, k < b → g' k = g k := fun x0 => by
    refine ⟨_, evF_1 (ev1_2 (by decide) (by omega) (fun q => absurd q (by decide))), fun k hk => ?_⟩
    rw [pk_un (by omega), pk_un (by omega)]
  by_cases c1 : x.2.1 = 1
  · rw [if_pos c1] at h
    by_cases c2 : j = 47 ∧ x.2.2 = 0
    · rw [if_pos c2] at h
      cases h
    · rw [if_neg c2] at h
      have h := Sum.inr.inj h
      subst h
      by_cases c3 : j = 47
      · subst c3
        refine ⟨_, evF_1 (ev1_p (by show 1 ≤ b + 1; omega) (by omega)), fun k hk => ?_⟩
        exact pk_un (by show ¬ k = b + 1 - 1; omega)
      · rw [if_neg c3]
        by_cases c4 : j = 42
        · subst c4
          obtain ⟨g', h1, h2⟩ := two (nI x.2.2)
          exact ⟨g', (evF_app (d := [(6, 0)]) (evF_1 (ev1_n (by show b + 1 < 32; omega)))).trans h1, h2⟩
        · rw [if_neg c4, if_neg (by omega)]
          exact ⟨_, evF_1 (ev1_n (by show b + 0 < 32; omega)), fun k hk => pk_un (by show ¬ k = b + 0; omega)⟩
  · rw [if_neg c1] at h
    by_cases c2 : j ≠ 47 ∧ 303 ≤ x.2.1 ∧ x.2.1 ≤ 312
    · rw [if_pos c2] at h
      have h := Sum.inr.inj h
      subst h
      by_cases c4 : j = 42
      · subst c4
        obtain ⟨g', h1, h2⟩ := two (vals (x.2.1 - 303))
        exact ⟨g', (evF_app (d := [(6, 0)]) (evF_1 (ev1_v (by show b + 1 < 32; omega) (by omega)))).trans h1, h2⟩
      · rw [if_neg c4, if_neg (by have := c2.1; omega)]
        exact ⟨_, evF_1 (ev1_v (by show b + 0 < 32; omega) (by omega)), fun k hk => pk_un (by show ¬ k = b + 0; omega)⟩
    · rw [if_neg c2] at h
      cases h
theorem EvN.app {c d : List TK} {w b : Nat} (h1 : EvN c w b) (h2 : EvN d 1 b) : EvN (c ++ d) w b := by
  intro vals g
  obtain ⟨g1, e1, k1⟩ := h1 vals g
  obtain ⟨g2, e2, k2⟩ := h2 vals g1
  exact ⟨g2, (evF_app e1).trans e2, fun k hk => (k2 k hk).trans (k1 k hk)⟩
theorem psc_ev {s b : Nat} (hs : s = 0 ∨ s = 4 ∨ s = 5) : ∀ (vals g : FA), ∃ g', evF vals (psc s) (b + pws s + 1, g) = some (b + 1, g') ∧ ∀ k, k < b → g' k = g k := by
  intro vals g
  have two : ∀ o, 4 ≤ o → o < 10 → ∃ g', evF vals [(o, 0)] (b + 1 + 1, g) = some (b + 1, g') ∧ ∀ k, k < b → g' k = g k := fun o h1 h2 => by
    refine ⟨_, evF_1 (ev1_2 h1 (by omega) (fun q => by omega)), fun k hk => ?_⟩
    exact pk_un (by show ¬ k = b + 1 + 1 - 2; omega)
  rcases hs with rfl | rfl | rfl
  · exact ⟨g, rfl, fun k hk => rfl⟩
  · exact two 4 (by decide) (by decide)
  · exact two 5 (by decide) (by decide)
theorem pxf_ev : ∀ (m : Nat) (ts : List TT), ts.length ≤ m → ∀ (s j : Nat) (c : List TK) (r : List TT), (s = 0 ∨ s = 4 ∨ s = 5) → pxf ts s j = .inr (c, r) → ∀ b, b + 3 ≤ 32 → ∀ (vals g : FA), ∃ g', evF vals c (b + pws s + pwt j, g) = some (b + 1, g') ∧ ∀ k, k < b → g' k = g k := by
  intro m
  induction m with
  | zero =>
    intro ts hm s j c r hs h
    cases ts with
    | nil => cases h
    | cons x r' => exact absurd hm (Nat.not_succ_le_zero _)
  | succ m ih =>
    intro ts hm s j c r hs h b hb vals g
    have ps : pws s ≤ 1 := by unfold pws; by_cases q : s = 0 <;> simp [q]
    have fin : ∀ c0, pU j (ts.headD (0, 0, 0)) = .inr c0 → ∃ g', evF vals (c0 ++ psc s) (b + pws s + pwt j, g) = some (b + 1, g') ∧ ∀ k, k < b → g' k = g k := fun c0 hu => by
      obtain ⟨g1, e1, k1⟩ := pU_ev hu (b + pws s) (by omega) vals g
      obtain ⟨g2, e2, k2⟩ := psc_ev (s := s) (b := b) hs vals g1
      exact ⟨g2, (evF_app e1).trans e2, fun k hk => (k2 k hk).trans (k1 k (by omega))⟩
    match ts with
    | [] => cases h
    | [x] =>
      cases hu : pU j x with
      | inl e => rw [pxf_7 hu] at h; cases h
      | inr c0 =>
        rw [pxf_6 hu] at h
        have e1 : c0 ++ psc s = c := congrArg Prod.fst (Sum.inr.inj h)
        subst e1
        exact fin c0 hu
    | x :: y :: r0 =>
      have hm : r0.length + 1 + 1 ≤ m + 1 := hm
      cases hu : pU j x with
      | inl e => rw [pxf_1 hu] at h; cases h
      | inr c0 =>
        obtain ⟨g1, e1, k1⟩ := pU_ev hu (b + pws s) (by omega) vals g
        by_cases c1 : y.2.1 = 42 ∨ y.2.1 = 47
        · rw [pxf_2 hu c1] at h
          obtain ⟨d, h1, rfl⟩ := pxp_inr h
          obtain ⟨g2, e2, k2⟩ := ih r0 (by omega) s _ d r hs h1 b hb vals g1
          rw [show pwt y.2.1 = 1 from if_pos c1] at e2
          exact ⟨g2, (evF_app e1).trans e2, fun k hk => (k2 k hk).trans (k1 k (by omega))⟩
        · have w0 : pwt y.2.1 = 0 := if_neg c1
          by_cases c2 : y.2.1 = 43
          · rw [pxf_3 hu c2] at h
            obtain ⟨d, h1, rfl⟩ := pxp_inr h
            obtain ⟨g3, e3, k3⟩ := fin c0 hu
            obtain ⟨g2, e2, k2⟩ := ih r0 (by omega) 4 _ d r (by omega) h1 b hb vals g3
            rw [w0] at e2
            exact ⟨g2, (evF_app e3).trans e2, fun k hk => (k2 k hk).trans (k3 k hk)⟩
          · by_cases c3 : y.2.1 = 45
            · rw [pxf_4 hu c3] at h
              obtain ⟨d, h1, rfl⟩ := pxp_inr h
              obtain ⟨g3, e3, k3⟩ := fin c0 hu
              obtain ⟨g2, e2, k2⟩ := ih r0 (by omega) 5 _ d r (by omega) h1 b hb vals g3
              rw [w0] at e2
              exact ⟨g2, (evF_app e3).trans e2, fun k hk => (k2 k hk).trans (k3 k hk)⟩
            · rw [pxf_5 hu c1 c2 c3] at h
              have e1 : c0 ++ psc s = c := congrArg Prod.fst (Sum.inr.inj h)
              subst e1
              exact fin c0 hu
theorem bnl_an {x y : Int32} (h : bit01 x ∧ bit01 y) : bit01 (jnO 10 x y) := by
  obtain ⟨rfl | rfl, rfl | rfl⟩ := h <;> unfold bit01 jnO <;> decide
theorem bnl_or {x y : Int32} (h : bit01 x ∧ bit01 y) : bit01 (jnO 11 x y) := by
  obtain ⟨rfl | rfl, rfl | rfl⟩ := h <;> unfold bit01 jnO <;> decide
theorem bnl_cm {x y : Int32} {o : Nat} (h : o = 7 ∨ o = 8 ∨ o = 9) : bit01 (jnO o x y) := by
  unfold bit01 jnO
  rcases h with rfl | rfl | rfl
  · rw [if_neg (by decide), if_neg (by decide), if_neg (by decide), if_pos rfl]
    by_cases c : I x < I y
    · exact Or.inr (if_pos c)
    · exact Or.inl (if_neg c)
  · rw [if_neg (by decide), if_neg (by decide), if_neg (by decide), if_neg (by decide), if_pos rfl]
    by_cases c : x = y
    · exact Or.inr (if_pos c)
    · exact Or.inl (if_neg c)
  · rw [if_neg (by decide), if_neg (by decide), if_neg (by decide), if_neg (by decide), if_neg (by decide), if_pos rfl]
    by_cases c : I y < I x
    · exact Or.inr (if_pos c)
    · exact Or.inl (if_neg c)
/-- the same, and it is 0 or 1 -/
def EvB (c : List TK) (w b : Nat) : Prop := ∀ (vals g : FA), (∀ k, b ≤ k → k < b + w → bit01 (g k)) → ∃ g', evF vals c (b + w, g) = some (b + 1, g') ∧ bit01 (g' b) ∧ ∀ k, k < b → g' k = g k
theorem pC_ev {ts r : List TT} {c : List TK} (h : pC ts = .inr (c, r)) (b : Nat) (hb : b + 4 ≤ 32) : EvB c 0 b := by
  intro vals g _
  obtain ⟨a, d, y, q, h1, h2, h3, rfl⟩ := pC_inv h
  obtain ⟨g1, e1, k1⟩ := pxf_ev _ ts (Nat.le_refl _) 0 0 a _ (Or.inl rfl) h1 b (by omega) vals g
  obtain ⟨g2, e2, k2⟩ := pxf_ev _ q (Nat.le_refl _) 0 0 d _ (Or.inl rfl) h3 (b + 1) (by omega) vals g1
  have ho : y.2.1 - 53 = 7 ∨ y.2.1 - 53 = 8 ∨ y.2.1 - 53 = 9 := by omega
  have e1 : evF vals a (b + 0, g) = some (b + 1, g1) := e1
  have e2 : evF vals d (b + 1, g1) = some (b + 1 + 1, g2) := e2
  refine ⟨upd g2 b (jnO (y.2.1 - 53) (g2 b) (g2 (b + 1))), (evF_app ((evF_app e1).trans e2)).trans (evF_1 (ev1_2 (by omega) (by omega) (fun k => by omega))), ?_, ?_⟩
  · rw [pk_us]
    exact bnl_cm ho
  · intro k hk
    rw [pk_un (by omega), k2 k (by omega), k1 k hk]
theorem pb1_le (b : Bool) : pb1 b ≤ 1 := by cases b <;> decide
theorem pB_ev : ∀ (n : Nat), (∀ op ei bo ts c r, pB n 0 op ei bo ts = .inr (c, r) → op ≤ 8 → ∀ b, b + 2 * (8 - op) + 5 ≤ 32 → EvB c 0 b) ∧ (∀ op ei bo ts c r, pB n 1 op ei bo ts = .inr (c, r) → op ≤ 8 → ∀ b, b + 2 + 2 * (8 - op) + 5 ≤ 32 → EvB c (pb1 ei + pb1 bo) b) := by
  intro n
  induction n with
  | zero => exact ⟨fun op ei bo ts c r h => (by cases h), fun op ei bo ts c r h => (by cases h)⟩
  | succ n ih =>
    constructor
    · intro op ei bo ts c r h ho b hb
      cases ts with
      | nil =>
        rw [pB] at h
        rw [if_pos rfl] at h
        cases h
      | cons x q =>
        by_cases c1 : x.2.1 = 316 ∨ x.2.1 = 40
        · by_cases c8 : 8 ≤ op
          · rw [pT_8 c1 c8] at h
            cases h
          · by_cases c2 : x.2.1 = 316
            · cases h1 : pB n 0 (op + 1) false false q with
              | inl e => rw [pT_ne c2 c8 h1] at h; cases h
              | inr p =>
                obtain ⟨d, r2⟩ := p
                rw [pT_n c2 c8 h1] at h
                have e1 : d ++ [(3, 0)] = c := congrArg Prod.fst (Sum.inr.inj h)
                subst e1
                intro vals g hg
                obtain ⟨g1, e1, b1, k1⟩ := ih.1 _ _ _ _ _ _ h1 (by omega) b (by omega) vals g hg
                refine ⟨upd g1 b (1 - g1 b), (evF_app e1).trans (evF_1 (ev1_t (by omega))), ?_, fun k hk => ?_⟩
                · rw [pk_us]
                  rcases b1 with q | q <;> rw [q] <;> unfold bit01 <;> decide
                · rw [pk_un (by omega)]
                  exact k1 k hk
            · have c3 : x.2.1 = 40 := by omega
              cases h1 : pB n 1 (op + 1) false false q with
              | inl e => rw [pT_be c3 c8 h1] at h; cases h
              | inr p =>
                obtain ⟨d, r2⟩ := p
                cases r2 with
                | nil => rw [pT_b0 c3 c8 h1] at h; cases h
                | cons y r2 =>
                  by_cases c4 : y.2.1 = 41
                  · rw [pT_b1 c3 c8 h1 c4] at h
                    have e1 : d = c := congrArg Prod.fst (Sum.inr.inj h)
                    subst e1
                    exact ih.2 _ _ _ _ _ _ h1 (by omega) b (by omega)
                  · rw [pT_b2 c3 c8 h1 c4] at h
                    cases h
        · rw [pT_c c1] at h
          exact pC_ev h b (by omega)
    · intro op ei bo ts c r h ho b hb vals g hg
      have p1 := pb1_le ei
      have p2 := pb1_le bo
      cases h1 : pB n 0 op false false ts with
      | inl e => rw [pL_e h1] at h; cases h
      | inr p =>
        obtain ⟨d, r2⟩ := p
        cases r2 with
        | nil => rw [pL_0 h1] at h; cases h
        | cons y r2 =>
          obtain ⟨g1, e1, b1, k1⟩ := ih.1 _ _ _ _ _ _ h1 ho (b + (pb1 ei + pb1 bo)) (by omega) vals g (fun k h1 h2 => by omega)
          -- what waits for an and
          have an : ∃ g2, evF vals (d ++ pbA bo) (b + (pb1 ei + pb1 bo), g) = some (b + pb1 ei + 1, g2) ∧ bit01 (g2 (b + pb1 ei)) ∧ ∀ k, k < b + pb1 ei → g2 k = g k := by
            cases bo with
            | false =>
              refine ⟨g1, (evF_app e1).trans rfl, b1, fun k hk => k1 k hk⟩
            | true =>
              have w1 : b + (pb1 ei + pb1 true) = b + pb1 ei + 1 := by show b + (pb1 ei + 1) = _; omega
              have b0 : bit01 (g1 (b + pb1 ei)) := by
                rw [k1 _ (by omega)]
                exact hg _ (by omega) (by omega)
              rw [w1] at b1 e1 ⊢
              refine ⟨upd g1 (b + pb1 ei) (jnO 10 (g1 (b + pb1 ei)) (g1 (b + pb1 ei + 1))), (evF_app e1).trans (evF_1 (ev1_2 (by decide) (by omega) (fun _ => ⟨b0, b1⟩))), ?_, fun k hk => ?_⟩
              · rw [pk_us]
                exact bnl_an ⟨b0, b1⟩
              · rw [pk_un (by omega)]
                exact k1 k (by omega)
          obtain ⟨g2, e2, b2, k2⟩ := an
          -- what waits for an or
          have orr : ∃ g3, evF vals (d ++ pbA bo ++ pbO ei) (b + (pb1 ei + pb1 bo), g) = some (b + 1, g3) ∧ bit01 (g3 b) ∧ ∀ k, k < b → g3 k = g k := by
            cases ei with
            | false => exact ⟨g2, (evF_app e2).trans rfl, b2, fun k hk => k2 k hk⟩
            | true =>
              have b0 : bit01 (g2 b) := by
                rw [k2 _ (by show b < b + 1; omega)]
                exact hg _ (by omega) (by show b < b + (1 + pb1 bo); omega)
              have b2 : bit01 (g2 (b + 1)) := b2
              refine ⟨upd g2 b (jnO 11 (g2 b) (g2 (b + 1))), (evF_app e2).trans (evF_1 (ev1_2 (by decide) (by show 2 ≤ b + 1 + 1; omega) (fun _ => ⟨b0, b2⟩))), ?_, fun k hk => ?_⟩
              · rw [pk_us]
                exact bnl_or ⟨b0, b2⟩
              · rw [pk_un (by omega)]
                exact k2 k (by show k < b + 1; omega)
          by_cases c1 : y.2.1 = 315
          · rw [pL_a h1 c1] at h
            obtain ⟨d2, h2, rfl⟩ := pxp_inr h
            obtain ⟨g4, e4, b4, k4⟩ := ih.2 _ _ _ _ _ _ h2 ho b hb vals g2 (fun k q1 q2 => by
              have q2 : k < b + (pb1 ei + 1) := q2
              by_cases q3 : k = b + pb1 ei
              · rw [q3]
                exact b2
              · rw [k2 k (by omega)]
                exact hg k q1 (by omega))
            exact ⟨g4, (evF_app e2).trans e4, b4, fun k hk => (k4 k hk).trans (k2 k (by omega))⟩
          · obtain ⟨g3, e3, b3, k3⟩ := orr
            by_cases c2 : y.2.1 = 314
            · rw [pL_o h1 c2] at h
              obtain ⟨d2, h2, rfl⟩ := pxp_inr h
              obtain ⟨g4, e4, b4, k4⟩ := ih.2 _ _ _ _ _ _ h2 ho b hb vals g3 (fun k q1 q2 => by
                have q2 : k < b + (1 + 0) := q2
                rw [show k = b by omega]
                exact b3)
              exact ⟨g4, (evF_app e3).trans e4, b4, fun k hk => (k4 k hk).trans (k3 k hk)⟩
            · rw [pL_z h1 c1 c2] at h
              have e1 : d ++ pbA bo ++ pbO ei = c := congrArg Prod.fst (Sum.inr.inj h)
              subst e1
              exact ⟨g3, e3, b3, k3⟩
theorem pxf_okP {ts r : List TT} {c : List TK} (h : pxf ts 0 0 = .inr (c, r)) : okP c := by
  intro vals
  obtain ⟨g', e, -⟩ := pxf_ev _ ts (Nat.le_refl _) 0 0 c r (Or.inl rfl) h 0 (by omega) vals (fun _ => 0)
  exact ⟨g', e⟩
theorem pB_okP {n : Nat} {ts r : List TT} {c : List TK} (h : pB n 1 0 false false ts = .inr (c, r)) : okP c := by
  intro vals
  obtain ⟨g', e, -⟩ := (pB_ev n).2 0 false false ts c r h (by omega) 0 (by omega) vals (fun _ => 0) (fun k h1 h2 => by
    have h2 : k < 0 + (0 + 0) := h2
    omega)
  exact ⟨g', e⟩
/-- the rest of a line of the law: E, perhaps a condition, the end's sign -/
def pH (r : List TT) : (Nat × Nat) ⊕ (List TK × List TK × List TT) := match pxf r 0 0 with
  | .inl e => .inl e
  | .inr (_, []) => .inl (0, 0)
  | .inr (c, y :: q) => if y.2.1 = 313 then (match pB (2 * q.length + 2) 1 0 false false q with
    | .inl e => .inl e
    | .inr (_, []) => .inl (0, 0)
    | .inr (d, x :: q2) => if x.2.1 = 59 then .inr (c, d, q2) else .inl (1, x.1)) else if y.2.1 = 59 then .inr (c, [], q) else .inl (1, y.1)
/-- lines of the law, behind k lines -/
def pG : Nat → Nat → List TT → (Nat × Nat) ⊕ List (Nat × List TK × List TK)
  | 0, _, _ => .inl (9, 0)
  | _ + 1, _, [] => .inl (0, 0)
  | n + 1, k, x :: r => if x.2.1 = 2 then .inr [] else if ¬ (x.2.1 = 300 ∨ x.2.1 = 301 ∨ x.2.1 = 302) then .inl (1, x.1) else if 16 ≤ k then .inl (3, x.1) else match pH r with
    | .inl e => .inl e
    | .inr (c, d, r') => match pG n (k + 1) r' with
      | .inl e => .inl e
      | .inr l => .inr ((x.2.1 - 300, c, d) :: l)
theorem pH_ok {r r' : List TT} {c d : List TK} (h : pH r = .inr (c, d, r')) : okP c ∧ (d = [] ∨ okP d) ∧ prl c + prl d + r'.length + 1 ≤ r.length ∧ r'.length < r.length := by
  unfold pH at h
  cases h1 : pxf r 0 0 with
  | inl e => rw [h1] at h; cases h
  | inr p =>
    obtain ⟨a, q⟩ := p
    rw [h1] at h
    cases q with
    | nil => cases h
    | cons y q =>
      obtain ⟨g1, g2⟩ := pxf_len _ r (Nat.le_refl _) 0 0 a _ (Or.inl rfl) h1
      have g1 : prl a + (q.length + 1) ≤ r.length + 0 + 0 := g1
      have g2 : q.length + 1 < r.length := g2
      have h : (if y.2.1 = 313 then (match pB (2 * q.length + 2) 1 0 false false q with
        | .inl e => .inl e
        | .inr (_, []) => .inl (0, 0)
        | .inr (d, x :: q2) => if x.2.1 = 59 then .inr (a, d, q2) else .inl (1, x.1)) else if y.2.1 = 59 then .inr (a, [], q) else .inl (1, y.1) : (Nat × Nat) ⊕ (List TK × List TK × List TT)) = .inr (c, d, r') := h
      by_cases c1 : y.2.1 = 313
      · rw [if_pos c1] at h
        cases h2 : pB (2 * q.length + 2) 1 0 false false q with
        | inl e => rw [h2] at h; cases h
        | inr p2 =>
          obtain ⟨b, q2⟩ := p2
          rw [h2] at h
          cases q2 with
          | nil => cases h
          | cons x q2 =>
            obtain ⟨g3, g4⟩ := (pB_len _).2 _ _ _ _ _ _ h2
            have g3 : prl b + (q2.length + 1) ≤ q.length + 0 + 0 := g3
            have g4 : q2.length + 1 < q.length := g4
            have h : (if x.2.1 = 59 then .inr (a, b, q2) else .inl (1, x.1) : (Nat × Nat) ⊕ (List TK × List TK × List TT)) = .inr (c, d, r') := h
            by_cases c2 : x.2.1 = 59
            · rw [if_pos c2] at h
              have h := Sum.inr.inj h
              have e1 : a = c := congrArg Prod.fst h
              have e2 : b = d := congrArg (fun x => x.2.1) h
              have e3 : q2 = r' := congrArg (fun x => x.2.2) h
              subst e1 e2 e3
              exact ⟨pxf_okP h1, Or.inr (pB_okP h2), by omega, by omega⟩
            · rw [if_neg c2] at h
              cases h
      · rw [if_neg c1] at h
        by_cases c2 : y.2.1 = 59
        · rw [if_pos c2] at h
          have h := Sum.inr.inj h
          have e1 : a = c := congrArg Prod.fst h
          have e2 : [] = d := congrArg (fun x => x.2.1) h
          have e3 : q = r' := congrArg (fun x => x.2.2) h
          subst e1 e2 e3
          exact ⟨pxf_okP h1, Or.inl rfl, by show prl a + 0 + q.length + 1 ≤ _; omega, by omega⟩
        · rw [if_neg c2] at h
          cases h
