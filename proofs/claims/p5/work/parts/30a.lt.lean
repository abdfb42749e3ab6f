/-! the told lists and the puzzles of the class: twenty-four cells of its heap -/
def wT (u : Nat → Option Nat) (j : Nat) : Option Nat := match j with
  | 0 => some 3
  | 1 => some 5
  | 2 => some 7
  | 3 => some 9
  | 4 => some 11
  | 5 => some 13
  | 6 => some 15
  | 7 => some 17
  | 8 => some 19
  | n + 9 => u n
def LT (u : Nat → Option Nat) (z : Nat → Int32) (f : Nat → FA) : QH FA := [.inr (11, [vR 1, vR 24, vI (z 0), vR 25, vR 26, vR 27, vR 28, vR 29, vR 30, vR 21, vR 31]), .inr (10, [vR 32, vR 33, vR 34, vR 2]), .inl (.inr (3, 9, wT u)), .inr (9, [vR 4, vI (z 3)]), .inl (.inl (0, 6, f 4)), .inr (9, [vR 6, vI (z 5)]), .inl (.inl (0, 16, f 6)), .inr (9, [vR 8, vI (z 7)]), .inl (.inl (0, 15, f 8)), .inr (9, [vR 10, vI (z 9)]), .inl (.inl (0, 15, f 10)), .inr (9, [vR 12, vI (z 11)]), .inl (.inl (0, 8, f 12)), .inr (9, [vR 14, vI (z 13)]), .inl (.inl (0, 8, f 14)), .inr (9, [vR 16, vI (z 15)]), .inl (.inl (0, 12, f 16)), .inr (9, [vR 18, vI (z 17)]), .inl (.inl (0, 12, f 18)), .inr (9, [vR 20, vI (z 19)]), .inl (.inl (0, 12, f 20)), .inr (4, [vR 22, vR 23]), .inl (.inl (0, 401, f 22)), .inl (.inl (0, 401, f 23))]
def tmap (k : Nat) : Nat := ([0, 1, 8, 12, 13, 14, 15, 16, 17, 18, 19, 20, 21, 22, 23, 24, 25, 26, 27, 28, 29, 89, 90, 91, 30, 59, 79, 83, 95, 99, 86, 92, 2, 5, 7] : List Nat).getD k 0
def lbT (lam : Nat → Nat) (k : Nat) : Nat := match Nat.blt k 100 with
  | true => lam (tmap k)
  | false => k - 100
theorem lbT_s {lam : Nat → Nat} {k : Nat} (h : k < 100) : lbT lam k = lam (tmap k) := by
  unfold lbT
  rw [show Nat.blt k 100 = true from Nat.blt_eq.mpr h]
theorem lbT_b {lam : Nat → Nat} {k : Nat} : lbT lam (k + 100) = k := by
  unfold lbT
  rw [show Nat.blt (k + 100) 100 = false from by cases e : Nat.blt (k + 100) 100 with
    | false => rfl
    | true => exact absurd (Nat.blt_eq.mp e) (by omega)]
  exact Nat.add_sub_cancel k 100
theorem tmap_wr : ∀ k, k < 24 → wrC (tmap k) = true := by decide
theorem tmap_inj : ∀ i, i < 24 → ∀ j, j < 24 → tmap i = tmap j → i = j := by decide
theorem tmap_lt : ∀ k, k < 24 → tmap k < 103 := by decide
theorem lbT_i {lam : Nat → Nat} (hl : LAMC lam) : LbI (lbT lam) 24 := fun i hi j hj e => by
  rw [lbT_s (by omega), lbT_s (by omega)] at e
  exact tmap_inj i hi j hj (hl _ (tmap_wr i hi) _ e)
def rmT (i : Nat) : Nat := ([6, 16, 15, 15, 8, 8, 12, 12, 12] : List Nat).getD i 0
theorem kv_nT {n : Nat} (h : n < 2147483648) : kv (2147483648 + n) = nI n := by
  apply ky_inj
  rw [ky_kv (by omega), ky_nI h]
  omega
theorem int_of {b : Nat} {x : Int32} (hb : b < 2147483648) (h : inb 2147483648 (2147483648 + b) x) : ∃ n, n ≤ b ∧ x = nI n := nI_of_inb hb h
/-- a told list's cells -/
theorem tl_cells {lam : Nat → Nat} {h : PH} {D N : Nat} (hH : HOK lam [] TCl h) (cD : nth TCl D = some (.inr (9, [.inr (.inl (some (D + 1))), .inr (.inr (.inr (2147483648, 2147483648 + N)))]))) (cE : nth TCl (D + 1) = some (.inl (.inl (.inl (2147483648 + N), 0, [(N, 0, 4294967295)])))) (hN : N ≤ 400) : ∃ n f, n ≤ N ∧ h[lam D]? = some (eO 9 [vR (lam (D + 1)), vI (nI n)]) ∧ h[lam (D + 1)]? = some (eI N f) := by
  obtain ⟨x, hx, xs, rfl, rr⟩ := hH D _ cD
  obtain ⟨y1, r1, rfl, e1, g1⟩ := R2.uncons rr
  have e1 : y1 = vR (lam (D + 1)) := e1
  subst e1
  obtain ⟨y2, r2, rfl, ⟨w, rfl, hw⟩, g2⟩ := R2.uncons g1
  cases r2 with
  | cons _ _ => cases g2
  | nil =>
    obtain ⟨n, hn, rfl⟩ := int_of (by omega) hw
    obtain ⟨f, hf⟩ := arr_at (k := D + 1) (c := N) (by omega) hH cE
    exact ⟨n, f, hn, hx, hf⟩
theorem LT_rep {lam : Nat → Nat} {h : PH} {b : Nat} (hb : b ≤ 1) (hT : HOK lam [] (TBc b) h) : ∃ u z f, Rep rdF h (lbT lam) 24 (LT u z f) h ∧ inb (2147483648 + b) (2147483648 + b) (z 0) ∧ ∀ i, i < 9 → ∃ n, n ≤ rmT i ∧ z (3 + 2 * i) = nI n := by
  have hC : HOK lam [] TCl h := TB_TC hb hT
  obtain ⟨x, h1, xs, rfl, h2⟩ := hT 0 _ rfl
  obtain ⟨y0, r0, rfl, e0, g0⟩ := R2.uncons h2
  have e0 : y0 = vR (lam 1) := e0
  subst e0
  obtain ⟨y1, r1, rfl, e1, g1⟩ := R2.uncons g0
  have e1 : y1 = vR (lam 30) := e1
  subst e1
  obtain ⟨y2, r2, rfl, ⟨z0, rfl, i0⟩, g2⟩ := R2.uncons g1
  obtain ⟨y3, r3, rfl, e3, g3⟩ := R2.uncons g2
  have e3 : y3 = vR (lam 59) := e3
  subst e3
  obtain ⟨y4, r4, rfl, e4, g4⟩ := R2.uncons g3
  have e4 : y4 = vR (lam 79) := e4
  subst e4
  obtain ⟨y5, r5, rfl, e5, g5⟩ := R2.uncons g4
  have e5 : y5 = vR (lam 83) := e5
  subst e5
  obtain ⟨y6, r6, rfl, e6, g6⟩ := R2.uncons g5
  have e6 : y6 = vR (lam 95) := e6
  subst e6
  obtain ⟨y7, r7, rfl, e7, g7⟩ := R2.uncons g6
  have e7 : y7 = vR (lam 99) := e7
  subst e7
  obtain ⟨y8, r8, rfl, e8, g8⟩ := R2.uncons g7
  have e8 : y8 = vR (lam 86) := e8
  subst e8
  obtain ⟨y9, r9, rfl, e9, g9⟩ := R2.uncons g8
  have e9 : y9 = vR (lam 89) := e9
  subst e9
  obtain ⟨y10, r10, rfl, e10, g10⟩ := R2.uncons g9
  have e10 : y10 = vR (lam 92) := e10
  subst e10
  cases r10 with
  | cons _ _ => cases g10
  | nil =>
    obtain ⟨x', k1, xs', rfl, k2⟩ := hT 1 _ rfl
    obtain ⟨w0, s0, rfl, d0, q0⟩ := R2.uncons k2
    have d0 : w0 = vR (lam 2) := d0
    subst d0
    obtain ⟨w1, s1, rfl, d1, q1⟩ := R2.uncons q0
    have d1 : w1 = vR (lam 5) := d1
    subst d1
    obtain ⟨w2, s2, rfl, d2, q2⟩ := R2.uncons q1
    have d2 : w2 = vR (lam 7) := d2
    subst d2
    obtain ⟨w3, s3, rfl, d3, q3⟩ := R2.uncons q2
    have d3 : w3 = vR (lam 8) := d3
    subst d3
    cases s3 with
    | cons _ _ => cases q3
    | nil =>
      obtain ⟨xp, p1, xsp, rfl, p2⟩ := hT 89 _ rfl
      obtain ⟨v0, t0, rfl, b0, o0⟩ := R2.uncons p2
      have b0 : v0 = vR (lam 90) := b0
      subst b0
      obtain ⟨v1, t1, rfl, b1, o1⟩ := R2.uncons o0
      have b1 : v1 = vR (lam 91) := b1
      subst b1
      cases t1 with
      | cons _ _ => cases o1
      | nil =>
          obtain ⟨xr, j1, fr, rfl, j2⟩ := hT 8 _ rfl
          obtain ⟨pa, a22⟩ := arr_at (k := 90) (c := 401) (by decide) hC rfl
          obtain ⟨pb, a23⟩ := arr_at (k := 91) (c := 401) (by decide) hC rfl
          obtain ⟨n0, f0, l0, c0, a0⟩ := tl_cells (D := 12) (N := 6) hC rfl rfl (by decide)
          obtain ⟨n1, f1, l1, c1, a1⟩ := tl_cells (D := 14) (N := 16) hC rfl rfl (by decide)
          obtain ⟨n2, f2, l2, c2, a2⟩ := tl_cells (D := 16) (N := 15) hC rfl rfl (by decide)
          obtain ⟨n3, f3, l3, c3, a3⟩ := tl_cells (D := 18) (N := 15) hC rfl rfl (by decide)
          obtain ⟨n4, f4, l4, c4, a4⟩ := tl_cells (D := 20) (N := 8) hC rfl rfl (by decide)
          obtain ⟨n5, f5, l5, c5, a5⟩ := tl_cells (D := 22) (N := 8) hC rfl rfl (by decide)
          obtain ⟨n6, f6, l6, c6, a6⟩ := tl_cells (D := 24) (N := 12) hC rfl rfl (by decide)
          obtain ⟨n7, f7, l7, c7, a7⟩ := tl_cells (D := 26) (N := 12) hC rfl rfl (by decide)
          obtain ⟨n8, f8, l8, c8, a8⟩ := tl_cells (D := 28) (N := 12) hC rfl rfl (by decide)
          have hfr : fr = fun j => (wT (fun n => (fr (n + 9)).map (· + 100)) j).map (lbT lam) := by
            funext j
            match j with
            | 0 => exact j2 0 _ rfl
            | 1 => exact j2 1 _ rfl
            | 2 => exact j2 2 _ rfl
            | 3 => exact j2 3 _ rfl
            | 4 => exact j2 4 _ rfl
            | 5 => exact j2 5 _ rfl
            | 6 => exact j2 6 _ rfl
            | 7 => exact j2 7 _ rfl
            | 8 => exact j2 8 _ rfl
            | n + 9 =>
              show fr (n + 9) = ((fr (n + 9)).map (· + 100)).map (lbT lam)
              cases fr (n + 9) with
              | none => rfl
              | some v => exact congrArg some lbT_b.symm
          refine ⟨fun n => (fr (n + 9)).map (· + 100), fun k => match k with
            | 0 => z0
            | 3 => nI n0
            | 5 => nI n1
            | 7 => nI n2
            | 9 => nI n3
            | 11 => nI n4
            | 13 => nI n5
            | 15 => nI n6
            | 17 => nI n7
            | 19 => nI n8
            | _ => 0, fun k => match k with
            | 4 => f0
            | 6 => f1
            | 8 => f2
            | 10 => f3
            | 12 => f4
            | 14 => f5
            | 16 => f6
            | 18 => f7
            | 20 => f8
            | 22 => pa
            | _ => pb, ⟨rfl, ?_, rfl, fun _ _ => rfl⟩, i0, ?_⟩
          · intro k x hx
            have hk : k < 24 := (List.getElem?_eq_some_iff.mp hx).1
            match k, hk, hx with
            | 0, _, hx => have hx := Option.some.inj hx; subst hx; exact h1
            | 1, _, hx => have hx := Option.some.inj hx; subst hx; exact k1
            | 2, _, hx =>
              have hx := Option.some.inj hx
              subst hx
              show h[lam 8]? = some (eR 3 9 (fun j => (wT (fun n => (fr (n + 9)).map (· + 100)) j).map (lbT lam)))
              rw [← hfr]
              exact j1
            | 3, _, hx => have hx := Option.some.inj hx; subst hx; exact c0
            | 4, _, hx => have hx := Option.some.inj hx; subst hx; exact a0
            | 5, _, hx => have hx := Option.some.inj hx; subst hx; exact c1
            | 6, _, hx => have hx := Option.some.inj hx; subst hx; exact a1
            | 7, _, hx => have hx := Option.some.inj hx; subst hx; exact c2
            | 8, _, hx => have hx := Option.some.inj hx; subst hx; exact a2
            | 9, _, hx => have hx := Option.some.inj hx; subst hx; exact c3
            | 10, _, hx => have hx := Option.some.inj hx; subst hx; exact a3
            | 11, _, hx => have hx := Option.some.inj hx; subst hx; exact c4
            | 12, _, hx => have hx := Option.some.inj hx; subst hx; exact a4
            | 13, _, hx => have hx := Option.some.inj hx; subst hx; exact c5
            | 14, _, hx => have hx := Option.some.inj hx; subst hx; exact a5
            | 15, _, hx => have hx := Option.some.inj hx; subst hx; exact c6
            | 16, _, hx => have hx := Option.some.inj hx; subst hx; exact a6
            | 17, _, hx => have hx := Option.some.inj hx; subst hx; exact c7
            | 18, _, hx => have hx := Option.some.inj hx; subst hx; exact a7
            | 19, _, hx => have hx := Option.some.inj hx; subst hx; exact c8
            | 20, _, hx => have hx := Option.some.inj hx; subst hx; exact a8
            | 21, _, hx => have hx := Option.some.inj hx; subst hx; exact p1
            | 22, _, hx => have hx := Option.some.inj hx; subst hx; exact a22
            | 23, _, hx => have hx := Option.some.inj hx; subst hx; exact a23
          · intro i hi
            match i, hi with
            | 0, _ => exact ⟨n0, l0, rfl⟩
            | 1, _ => exact ⟨n1, l1, rfl⟩
            | 2, _ => exact ⟨n2, l2, rfl⟩
            | 3, _ => exact ⟨n3, l3, rfl⟩
            | 4, _ => exact ⟨n4, l4, rfl⟩
            | 5, _ => exact ⟨n5, l5, rfl⟩
            | 6, _ => exact ⟨n6, l6, rfl⟩
            | 7, _ => exact ⟨n7, l7, rfl⟩
            | 8, _ => exact ⟨n8, l8, rfl⟩
theorem LT_out {lam : Nat → Nat} {H h1 : PH} {L : QH FA} (hR1 : Rep rdF H (lbT lam) 24 L h1) {a : Nat} (ha : ∀ j, j < 24 → a ≠ lam (tmap j)) : h1[a]? = H[a]? := hR1.2.2.2 a (fun j hj => by rw [lbT_s (by omega)]; exact ha j hj)
theorem LT_hok {lam : Nat → Nat} (hl : LAMC lam) {h h1 : PH} {b : Nat} {u : Nat → Option Nat} {z : Nat → Int32} {f : Nat → FA} (hT : HOK lam [] (TBc b) h) (hR1 : Rep rdF h (lbT lam) 24 (LT u z f) h1) (hz : inb (2147483648 + b) (2147483648 + b) (z 0)) (hc : ∀ i, i < 9 → ∃ n, n ≤ rmT i ∧ z (3 + 2 * i) = nI n) : HOK lam [] (TBc b) h1 := by
  have hin : ∀ i, i < 9 → inb 2147483648 (2147483648 + rmT i) (z (3 + 2 * i)) := fun i hi => by
    obtain ⟨n, hn, e⟩ := hc i hi
    have : rmT i ≤ 16 := (show ∀ i, i < 9 → rmT i ≤ 16 by decide) i hi
    rw [e]
    exact ⟨by rw [ky_nI (by omega)]; omega, by rw [ky_nI (by omega)]; omega⟩
  intro k c hk
  by_cases hj : ∃ j, j < 24 ∧ tmap j = k
  · obtain ⟨j, hj, rfl⟩ := hj
    match j, hj, hk with
    | 0, _, hk => have hk := Option.some.inj hk; subst hk; exact ⟨_, hR1.2.1 0 _ rfl, _, rfl, rfl, rfl, ⟨z 0, rfl, hz⟩, rfl, rfl, rfl, rfl, rfl, rfl, rfl, rfl, trivial⟩
    | 1, _, hk => have hk := Option.some.inj hk; subst hk; exact ⟨_, hR1.2.1 1 _ rfl, _, rfl, rfl, rfl, rfl, rfl, trivial⟩
    | 2, _, hk =>
      have hk := Option.some.inj hk
      subst hk
      refine ⟨_, hR1.2.1 2 _ rfl, _, rfl, fun j o ho => ?_⟩
      match j, ho with
      | 0, ho => have ho := Option.some.inj ho; subst ho; rfl
      | 1, ho => have ho := Option.some.inj ho; subst ho; rfl
      | 2, ho => have ho := Option.some.inj ho; subst ho; rfl
      | 3, ho => have ho := Option.some.inj ho; subst ho; rfl
      | 4, ho => have ho := Option.some.inj ho; subst ho; rfl
      | 5, ho => have ho := Option.some.inj ho; subst ho; rfl
      | 6, ho => have ho := Option.some.inj ho; subst ho; rfl
      | 7, ho => have ho := Option.some.inj ho; subst ho; rfl
      | 8, ho => have ho := Option.some.inj ho; subst ho; rfl
      | n + 9, ho => cases ho
    | 3, _, hk => have hk := Option.some.inj hk; subst hk; exact ⟨_, hR1.2.1 3 _ rfl, _, rfl, rfl, ⟨z 3, rfl, hin 0 (by decide)⟩, trivial⟩
    | 4, _, hk => have hk := Option.some.inj hk; subst hk; exact ⟨_, hR1.2.1 4 _ rfl, 6, f 4, rfl, by decide, ⟨_, val_c (by decide), by decide⟩, ⟨fun j _ => inb_top _, trivial⟩, PRD_0⟩
    | 5, _, hk => have hk := Option.some.inj hk; subst hk; exact ⟨_, hR1.2.1 5 _ rfl, _, rfl, rfl, ⟨z 5, rfl, hin 1 (by decide)⟩, trivial⟩
    | 6, _, hk => have hk := Option.some.inj hk; subst hk; exact ⟨_, hR1.2.1 6 _ rfl, 16, f 6, rfl, by decide, ⟨_, val_c (by decide), by decide⟩, ⟨fun j _ => inb_top _, trivial⟩, PRD_0⟩
    | 7, _, hk => have hk := Option.some.inj hk; subst hk; exact ⟨_, hR1.2.1 7 _ rfl, _, rfl, rfl, ⟨z 7, rfl, hin 2 (by decide)⟩, trivial⟩
    | 8, _, hk => have hk := Option.some.inj hk; subst hk; exact ⟨_, hR1.2.1 8 _ rfl, 15, f 8, rfl, by decide, ⟨_, val_c (by decide), by decide⟩, ⟨fun j _ => inb_top _, trivial⟩, PRD_0⟩
    | 9, _, hk => have hk := Option.some.inj hk; subst hk; exact ⟨_, hR1.2.1 9 _ rfl, _, rfl, rfl, ⟨z 9, rfl, hin 3 (by decide)⟩, trivial⟩
    | 10, _, hk => have hk := Option.some.inj hk; subst hk; exact ⟨_, hR1.2.1 10 _ rfl, 15, f 10, rfl, by decide, ⟨_, val_c (by decide), by decide⟩, ⟨fun j _ => inb_top _, trivial⟩, PRD_0⟩
    | 11, _, hk => have hk := Option.some.inj hk; subst hk; exact ⟨_, hR1.2.1 11 _ rfl, _, rfl, rfl, ⟨z 11, rfl, hin 4 (by decide)⟩, trivial⟩
    | 12, _, hk => have hk := Option.some.inj hk; subst hk; exact ⟨_, hR1.2.1 12 _ rfl, 8, f 12, rfl, by decide, ⟨_, val_c (by decide), by decide⟩, ⟨fun j _ => inb_top _, trivial⟩, PRD_0⟩
    | 13, _, hk => have hk := Option.some.inj hk; subst hk; exact ⟨_, hR1.2.1 13 _ rfl, _, rfl, rfl, ⟨z 13, rfl, hin 5 (by decide)⟩, trivial⟩
    | 14, _, hk => have hk := Option.some.inj hk; subst hk; exact ⟨_, hR1.2.1 14 _ rfl, 8, f 14, rfl, by decide, ⟨_, val_c (by decide), by decide⟩, ⟨fun j _ => inb_top _, trivial⟩, PRD_0⟩
    | 15, _, hk => have hk := Option.some.inj hk; subst hk; exact ⟨_, hR1.2.1 15 _ rfl, _, rfl, rfl, ⟨z 15, rfl, hin 6 (by decide)⟩, trivial⟩
    | 16, _, hk => have hk := Option.some.inj hk; subst hk; exact ⟨_, hR1.2.1 16 _ rfl, 12, f 16, rfl, by decide, ⟨_, val_c (by decide), by decide⟩, ⟨fun j _ => inb_top _, trivial⟩, PRD_0⟩
    | 17, _, hk => have hk := Option.some.inj hk; subst hk; exact ⟨_, hR1.2.1 17 _ rfl, _, rfl, rfl, ⟨z 17, rfl, hin 7 (by decide)⟩, trivial⟩
    | 18, _, hk => have hk := Option.some.inj hk; subst hk; exact ⟨_, hR1.2.1 18 _ rfl, 12, f 18, rfl, by decide, ⟨_, val_c (by decide), by decide⟩, ⟨fun j _ => inb_top _, trivial⟩, PRD_0⟩
    | 19, _, hk => have hk := Option.some.inj hk; subst hk; exact ⟨_, hR1.2.1 19 _ rfl, _, rfl, rfl, ⟨z 19, rfl, hin 8 (by decide)⟩, trivial⟩
    | 20, _, hk => have hk := Option.some.inj hk; subst hk; exact ⟨_, hR1.2.1 20 _ rfl, 12, f 20, rfl, by decide, ⟨_, val_c (by decide), by decide⟩, ⟨fun j _ => inb_top _, trivial⟩, PRD_0⟩
    | 21, _, hk => have hk := Option.some.inj hk; subst hk; exact ⟨_, hR1.2.1 21 _ rfl, _, rfl, rfl, rfl, trivial⟩
    | 22, _, hk => have hk := Option.some.inj hk; subst hk; exact ⟨_, hR1.2.1 22 _ rfl, 401, f 22, rfl, by decide, ⟨_, val_c (by decide), by decide⟩, ⟨fun j _ => inb_top _, trivial⟩, PRD_0⟩
    | 23, _, hk => have hk := Option.some.inj hk; subst hk; exact ⟨_, hR1.2.1 23 _ rfl, 401, f 23, rfl, by decide, ⟨_, val_c (by decide), by decide⟩, ⟨fun j _ => inb_top _, trivial⟩, PRD_0⟩
    | n + 24, hj, _ => exact absurd hj (by omega)
  · obtain ⟨x, g1, g2⟩ := hT k c hk
    exact ⟨x, by rw [LT_out hR1 (fun j hjj e => hj ⟨j, hjj, hl _ (tmap_wr j hjj) k e.symm⟩)]; exact g1, g2⟩
def WT : List (Nat × Nat) := [(12, 1), (13, 999), (14, 1), (15, 999), (16, 1), (17, 999), (18, 1), (19, 999), (20, 1), (21, 999), (22, 1), (23, 999), (24, 1), (25, 999), (26, 1), (27, 999), (28, 1), (29, 999), (90, 999), (91, 999)]
theorem LT_frg {lam : Nat → Nat} {h h1 : PH} {u : Nat → Option Nat} {z z' : Nat → Int32} {f f' : Nat → FA} (hR : Rep rdF h (lbT lam) 24 (LT u z f) h) (hR1 : Rep rdF h (lbT lam) 24 (LT u z' f') h1) (hz : z' 0 = z 0) : FRG lam WT h h1 := by
  obtain ⟨l1, l2, l3, l4⟩ := hR
  obtain ⟨m1, m2, m3, m4⟩ := hR1
  refine ⟨by rw [m3]; exact Nat.le_refl _, fun a x0 hx0 => ?_⟩
  by_cases ha : ∃ k, k < 24 ∧ a = lbT lam k
  · obtain ⟨k, hk, rfl⟩ := ha
    match k, hk with
    | 0, _ =>
      have e0 := l2 0 _ rfl
      rw [hx0] at e0
      have e0 := Option.some.inj e0
      subst e0
      refine ⟨_, m2 0 _ rfl, rfl, rfl, fun j _ => ?_⟩
      show _ = ([vR 1, vR 24, vI (z' 0), vR 25, vR 26, vR 27, vR 28, vR 29, vR 30, vR 21, vR 31].map (sv (lbT lam)))[j]?
      rw [hz]
    | 1, _ =>
      have e0 := l2 1 _ rfl
      rw [hx0] at e0
      have e0 := Option.some.inj e0
      subst e0
      exact ⟨_, m2 1 _ rfl, rfl, rfl, fun j _ => rfl⟩
    | 2, _ =>
      have e0 := l2 2 _ rfl
      rw [hx0] at e0
      have e0 := Option.some.inj e0
      subst e0
      exact ⟨_, m2 2 _ rfl, rfl, rfl, fun _ => rfl⟩
    | 3, _ =>
      have e0 := l2 3 _ rfl
      rw [hx0] at e0
      have e0 := Option.some.inj e0
      subst e0
      refine ⟨_, m2 3 _ rfl, rfl, rfl, fun j hj => ?_⟩
      match j, hj with
      | 0, _ => rfl
      | 1, hj => exact absurd ⟨12, by decide, rfl⟩ hj
      | _ + 2, _ => rfl
    | 4, _ =>
      have e0 := l2 4 _ rfl
      rw [hx0] at e0
      have e0 := Option.some.inj e0
      subst e0
      exact ⟨_, m2 4 _ rfl, rfl, rfl, fun hj => absurd ⟨13, by decide, rfl⟩ hj⟩
    | 5, _ =>
      have e0 := l2 5 _ rfl
      rw [hx0] at e0
      have e0 := Option.some.inj e0
      subst e0
      refine ⟨_, m2 5 _ rfl, rfl, rfl, fun j hj => ?_⟩
      match j, hj with
      | 0, _ => rfl
      | 1, hj => exact absurd ⟨14, by decide, rfl⟩ hj
      | _ + 2, _ => rfl
    | 6, _ =>
      have e0 := l2 6 _ rfl
      rw [hx0] at e0
      have e0 := Option.some.inj e0
      subst e0
      exact ⟨_, m2 6 _ rfl, rfl, rfl, fun hj => absurd ⟨15, by decide, rfl⟩ hj⟩
    | 7, _ =>
      have e0 := l2 7 _ rfl
      rw [hx0] at e0
      have e0 := Option.some.inj e0
      subst e0
      refine ⟨_, m2 7 _ rfl, rfl, rfl, fun j hj => ?_⟩
      match j, hj with
      | 0, _ => rfl
      | 1, hj => exact absurd ⟨16, by decide, rfl⟩ hj
      | _ + 2, _ => rfl
    | 8, _ =>
      have e0 := l2 8 _ rfl
      rw [hx0] at e0
      have e0 := Option.some.inj e0
      subst e0
      exact ⟨_, m2 8 _ rfl, rfl, rfl, fun hj => absurd ⟨17, by decide, rfl⟩ hj⟩
    | 9, _ =>
      have e0 := l2 9 _ rfl
      rw [hx0] at e0
      have e0 := Option.some.inj e0
      subst e0
      refine ⟨_, m2 9 _ rfl, rfl, rfl, fun j hj => ?_⟩
      match j, hj with
      | 0, _ => rfl
      | 1, hj => exact absurd ⟨18, by decide, rfl⟩ hj
      | _ + 2, _ => rfl
    | 10, _ =>
      have e0 := l2 10 _ rfl
      rw [hx0] at e0
      have e0 := Option.some.inj e0
      subst e0
      exact ⟨_, m2 10 _ rfl, rfl, rfl, fun hj => absurd ⟨19, by decide, rfl⟩ hj⟩
    | 11, _ =>
      have e0 := l2 11 _ rfl
      rw [hx0] at e0
      have e0 := Option.some.inj e0
      subst e0
      refine ⟨_, m2 11 _ rfl, rfl, rfl, fun j hj => ?_⟩
      match j, hj with
      | 0, _ => rfl
      | 1, hj => exact absurd ⟨20, by decide, rfl⟩ hj
      | _ + 2, _ => rfl
    | 12, _ =>
      have e0 := l2 12 _ rfl
      rw [hx0] at e0
      have e0 := Option.some.inj e0
      subst e0
      exact ⟨_, m2 12 _ rfl, rfl, rfl, fun hj => absurd ⟨21, by decide, rfl⟩ hj⟩
    | 13, _ =>
      have e0 := l2 13 _ rfl
      rw [hx0] at e0
      have e0 := Option.some.inj e0
      subst e0
      refine ⟨_, m2 13 _ rfl, rfl, rfl, fun j hj => ?_⟩
      match j, hj with
      | 0, _ => rfl
      | 1, hj => exact absurd ⟨22, by decide, rfl⟩ hj
      | _ + 2, _ => rfl
    | 14, _ =>
      have e0 := l2 14 _ rfl
      rw [hx0] at e0
      have e0 := Option.some.inj e0
      subst e0
      exact ⟨_, m2 14 _ rfl, rfl, rfl, fun hj => absurd ⟨23, by decide, rfl⟩ hj⟩
    | 15, _ =>
      have e0 := l2 15 _ rfl
      rw [hx0] at e0
      have e0 := Option.some.inj e0
      subst e0
      refine ⟨_, m2 15 _ rfl, rfl, rfl, fun j hj => ?_⟩
      match j, hj with
      | 0, _ => rfl
      | 1, hj => exact absurd ⟨24, by decide, rfl⟩ hj
      | _ + 2, _ => rfl
    | 16, _ =>
      have e0 := l2 16 _ rfl
      rw [hx0] at e0
      have e0 := Option.some.inj e0
      subst e0
      exact ⟨_, m2 16 _ rfl, rfl, rfl, fun hj => absurd ⟨25, by decide, rfl⟩ hj⟩
    | 17, _ =>
      have e0 := l2 17 _ rfl
      rw [hx0] at e0
      have e0 := Option.some.inj e0
      subst e0
      refine ⟨_, m2 17 _ rfl, rfl, rfl, fun j hj => ?_⟩
      match j, hj with
      | 0, _ => rfl
      | 1, hj => exact absurd ⟨26, by decide, rfl⟩ hj
      | _ + 2, _ => rfl
    | 18, _ =>
      have e0 := l2 18 _ rfl
      rw [hx0] at e0
      have e0 := Option.some.inj e0
      subst e0
      exact ⟨_, m2 18 _ rfl, rfl, rfl, fun hj => absurd ⟨27, by decide, rfl⟩ hj⟩
    | 19, _ =>
      have e0 := l2 19 _ rfl
      rw [hx0] at e0
      have e0 := Option.some.inj e0
      subst e0
      refine ⟨_, m2 19 _ rfl, rfl, rfl, fun j hj => ?_⟩
      match j, hj with
      | 0, _ => rfl
      | 1, hj => exact absurd ⟨28, by decide, rfl⟩ hj
      | _ + 2, _ => rfl
    | 20, _ =>
      have e0 := l2 20 _ rfl
      rw [hx0] at e0
      have e0 := Option.some.inj e0
      subst e0
      exact ⟨_, m2 20 _ rfl, rfl, rfl, fun hj => absurd ⟨29, by decide, rfl⟩ hj⟩
    | 21, _ =>
      have e0 := l2 21 _ rfl
      rw [hx0] at e0
      have e0 := Option.some.inj e0
      subst e0
      exact ⟨_, m2 21 _ rfl, rfl, rfl, fun j _ => rfl⟩
    | 22, _ =>
      have e0 := l2 22 _ rfl
      rw [hx0] at e0
      have e0 := Option.some.inj e0
      subst e0
      exact ⟨_, m2 22 _ rfl, rfl, rfl, fun hj => absurd ⟨90, by decide, rfl⟩ hj⟩
    | 23, _ =>
      have e0 := l2 23 _ rfl
      rw [hx0] at e0
      have e0 := Option.some.inj e0
      subst e0
      exact ⟨_, m2 23 _ rfl, rfl, rfl, fun hj => absurd ⟨91, by decide, rfl⟩ hj⟩
    | n + 24, hj => exact absurd hj (by omega)
  · exact ⟨x0, by rw [m4 a (fun k hk e => ha ⟨k, hk, e⟩)]; exact hx0, kpt.refl x0⟩
theorem pm_t {l : Launch} {G : PG} {lam : Nat → Nat} (hl : LAMC lam) {H h : PH} {k d : Nat} {As : List PV} {L L' : QH FA} {r : Option PV} (hc : mcall d k As L = some (r, L')) (hR : Rep rdF H (lbT lam) 24 L h) : PMet l G (mY k) (mC k) (mN k) (mR k) d 0 0 (As.map (sv (lbT lam))) h (fun r1 h1 => r1 = r.map (sv (lbT lam)) ∧ Rep rdF H (lbT lam) 24 L' h1) := mcall_ok (lbT_i hl) d k As L r L' hc h hR
