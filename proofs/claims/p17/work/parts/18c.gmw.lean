/-! game of the class over its whole heap -/
def gmap (k : Nat) : Nat := ([0, 92, 93, 94, 1, 30, 59, 79, 83, 95, 99, 86, 89] : List Nat).getD k 0
def lbG (lam : Nat → Nat) (k : Nat) : Nat := lam (gmap k)
theorem gmap_wr : ∀ k, k < 4 → wrC (gmap k) = true := by decide
theorem gmap_inj : ∀ i, i < 4 → ∀ j, j < 4 → gmap i = gmap j → i = j := by decide
theorem lbG_i {lam : Nat → Nat} (hl : LAMC lam) : LbI (lbG lam) 4 := fun i hi j hj e => gmap_inj i hi j hj (hl _ (gmap_wr i hi) _ e)
theorem arr_at {lam : Nat → Nat} {T : List AC} {h : PH} {k c p : Nat} {sg : List (Nat × Nat × Nat)} (hc : c < 2147483648) (hT : HOK lam [] T h) (hk : nth T k = some (.inl (.inl (.inl (2147483648 + c), p, sg)))) : ∃ g : FA, h[lam k]? = some (eI c g) := by
  obtain ⟨g, h1, -⟩ := arr_of hc (hT k _ hk)
  exact ⟨g, h1⟩
theorem LG_rep {lam : Nat → Nat} {h : PH} {b : Nat} (hT : HOK lam [] (TBc b) h) : ∃ z f, Rep rdF h (lbG lam) 4 (LG z f) h ∧ inb (2147483648 + b) (2147483648 + b) (z 0) := by
  obtain ⟨x, h1, xs, rfl, h2⟩ := hT 0 _ rfl
  obtain ⟨y0, r0, rfl, e0, g0⟩ := R2.uncons h2
  have e0 : y0 = vR (lam 1) := e0
  subst e0
  obtain ⟨y1, r1, rfl, e1, g1⟩ := R2.uncons g0
  have e1 : y1 = vR (lam 30) := e1
  subst e1
  obtain ⟨y2, r2, rfl, ⟨z0, rfl, i0⟩, g2⟩ := R2.uncons g1
  obtain ⟨y3, r3, rfl, e3, g3⟩ := R2.uncons g2
  have e3 : y3 = vR (lam 59) := e3
  subst e3
  obtain ⟨y4, r4, rfl, e4, g4⟩ := R2.uncons g3
  have e4 : y4 = vR (lam 79) := e4
  subst e4
  obtain ⟨y5, r5, rfl, e5, g5⟩ := R2.uncons g4
  have e5 : y5 = vR (lam 83) := e5
  subst e5
  obtain ⟨y6, r6, rfl, e6, g6⟩ := R2.uncons g5
  have e6 : y6 = vR (lam 95) := e6
  subst e6
  obtain ⟨y7, r7, rfl, e7, g7⟩ := R2.uncons g6
  have e7 : y7 = vR (lam 99) := e7
  subst e7
  obtain ⟨y8, r8, rfl, e8, g8⟩ := R2.uncons g7
  have e8 : y8 = vR (lam 86) := e8
  subst e8
  obtain ⟨y9, r9, rfl, e9, g9⟩ := R2.uncons g8
  have e9 : y9 = vR (lam 89) := e9
  subst e9
  obtain ⟨y10, r10, rfl, e10, g10⟩ := R2.uncons g9
  have e10 : y10 = vR (lam 92) := e10
  subst e10
  cases r10 with
  | cons _ _ => cases g10
  | nil =>
    obtain ⟨x', k1, xs', rfl, k2⟩ := hT 92 _ rfl
    obtain ⟨w0, s0, rfl, d0, q0⟩ := R2.uncons k2
    have d0 : w0 = vR (lam 93) := d0
    subst d0
    obtain ⟨w1, s1, rfl, d1, q1⟩ := R2.uncons q0
    have d1 : w1 = vR (lam 94) := d1
    subst d1
    obtain ⟨w2, s2, rfl, ⟨z1, rfl, -⟩, q2⟩ := R2.uncons q1
    obtain ⟨w3, s3, rfl, ⟨z2, rfl, -⟩, q3⟩ := R2.uncons q2
    cases s3 with
    | cons _ _ => cases q3
    | nil =>
      obtain ⟨ga, a1⟩ := arr_at (k := 93) (c := 1231) (by decide) hT rfl
      obtain ⟨gb, a2⟩ := arr_at (k := 94) (c := 9) (by decide) hT rfl
      refine ⟨fun k => match k with
        | 0 => z0
        | 1 => z1
        | _ => z2, fun k => match k with
        | 2 => ga
        | _ => gb, ⟨rfl, ?_, rfl, fun _ _ => rfl⟩, i0⟩
      intro k x hx
      have hk : k < 4 := (List.getElem?_eq_some_iff.mp hx).1
      match k, hk, hx with
      | 0, _, hx => have hx := Option.some.inj hx; subst hx; exact h1
      | 1, _, hx => have hx := Option.some.inj hx; subst hx; exact k1
      | 2, _, hx => have hx := Option.some.inj hx; subst hx; exact a1
      | 3, _, hx => have hx := Option.some.inj hx; subst hx; exact a2
theorem LG_out {lam : Nat → Nat} (hl : LAMC lam) {H h h1 : PH} {L : QH FA} (hR1 : Rep rdF H (lbG lam) 4 L h1) {k : Nat} (hk : k ≠ 0 ∧ k ≠ 92 ∧ k ≠ 93 ∧ k ≠ 94) : h1[lam k]? = H[lam k]? := by
  refine hR1.2.2.2 (lam k) (fun j hj e => ?_)
  have e2 := hl _ (gmap_wr j hj) k e.symm
  have : gmap j = 0 ∨ gmap j = 92 ∨ gmap j = 93 ∨ gmap j = 94 := by
    have key : ∀ j, j < 4 → gmap j = 0 ∨ gmap j = 92 ∨ gmap j = 93 ∨ gmap j = 94 := by decide
    exact key j hj
  omega
theorem LG_hok {lam : Nat → Nat} (hl : LAMC lam) {h h1 : PH} {b : Nat} {z : Nat → Int32} {f : Nat → FA} (hT : HOK lam [] (TBc b) h) (hR1 : Rep rdF h (lbG lam) 4 (LG z f) h1) (hz : inb (2147483648 + b) (2147483648 + b) (z 0)) : HOK lam [] (TBc b) h1 := by
  intro k c hk
  by_cases c0 : k = 0
  · subst c0
    have hk := Option.some.inj hk
    subst hk
    exact ⟨_, hR1.2.1 0 _ rfl, _, rfl, rfl, rfl, ⟨z 0, rfl, hz⟩, rfl, rfl, rfl, rfl, rfl, rfl, rfl, rfl, trivial⟩
  · by_cases c1 : k = 92
    · subst c1
      have hk := Option.some.inj hk
      subst hk
      exact ⟨_, hR1.2.1 1 _ rfl, _, rfl, rfl, rfl, ⟨z 1, rfl, inb_top _⟩, ⟨z 2, rfl, inb_top _⟩, trivial⟩
    · by_cases c2 : k = 93
      · subst c2
        have hk := Option.some.inj hk
        subst hk
        exact ⟨_, hR1.2.1 2 _ rfl, 1231, f 2, rfl, by decide, ⟨_, val_c (by decide), by decide⟩, ⟨fun j _ => inb_top _, trivial⟩, PRD_0⟩
      · by_cases c3 : k = 94
        · subst c3
          have hk := Option.some.inj hk
          subst hk
          exact ⟨_, hR1.2.1 3 _ rfl, 9, f 3, rfl, by decide, ⟨_, val_c (by decide), by decide⟩, ⟨fun j _ => inb_top _, trivial⟩, PRD_0⟩
        · obtain ⟨x, g1, g2⟩ := hT k c hk
          exact ⟨x, by rw [LG_out (h := h) hl hR1 ⟨c0, c1, c2, c3⟩]; exact g1, g2⟩
theorem LG_frm {lam : Nat → Nat} (hl : LAMC lam) {h h1 : PH} {z z' : Nat → Int32} {f f' : Nat → FA} (hR : Rep rdF h (lbG lam) 4 (LG z f) h) (hR1 : Rep rdF h (lbG lam) 4 (LG z' f') h1) (hz : z' 0 = z 0) : FRM lam [(92, 2), (92, 3), (93, 999), (94, 999)] h h1 := by
  obtain ⟨l1, l2, l3, l4⟩ := hR
  obtain ⟨m1, m2, m3, m4⟩ := hR1
  refine ⟨m3, fun a x0 hx0 => ?_⟩
  by_cases ha : ∃ k, k < 4 ∧ a = lbG lam k
  · obtain ⟨k, hk, rfl⟩ := ha
    match k, hk with
    | 0, _ =>
      have e0 := l2 0 _ rfl
      rw [hx0] at e0
      have e0 := Option.some.inj e0
      subst e0
      refine ⟨_, m2 0 _ rfl, rfl, rfl, fun j _ => ?_⟩
      show _ = ([vR 4, vR 5, vI (z' 0), vR 6, vR 7, vR 8, vR 9, vR 10, vR 11, vR 12, vR 1].map (sv (lbG lam)))[j]?
      rw [hz]
    | 1, _ =>
      have e0 := l2 1 _ rfl
      rw [hx0] at e0
      have e0 := Option.some.inj e0
      subst e0
      refine ⟨_, m2 1 _ rfl, rfl, rfl, fun j hj => ?_⟩
      match j, hj with
      | 0, _ => rfl
      | 1, _ => rfl
      | 2, hj => exact absurd ⟨92, by decide, rfl⟩ hj
      | 3, hj => exact absurd ⟨92, by decide, rfl⟩ hj
      | _ + 4, _ => rfl
    | 2, _ =>
      have e0 := l2 2 _ rfl
      rw [hx0] at e0
      have e0 := Option.some.inj e0
      subst e0
      exact ⟨_, m2 2 _ rfl, rfl, rfl, fun hj => absurd ⟨93, by decide, rfl⟩ hj⟩
    | 3, _ =>
      have e0 := l2 3 _ rfl
      rw [hx0] at e0
      have e0 := Option.some.inj e0
      subst e0
      exact ⟨_, m2 3 _ rfl, rfl, rfl, fun hj => absurd ⟨94, by decide, rfl⟩ hj⟩
  · exact ⟨x0, by rw [m4 a (fun k hk e => ha ⟨k, hk, e⟩)]; exact hx0, kpt.refl _⟩
/-- game returns, and keeps the class's shape -/
theorem game_c (l : Launch) (G : PG) {lam : Nat → Nat} (hl : LAMC lam) {h : PH} {b : Nat} (hT : HOK lam [] (TBc b) h) (x y : Int32) : ∃ Φ0, PMet l G (mY 34) (mC 34) (mN 34) (mR 34) 22 0 0 [vR (lam 0), vI x, vI y] h Φ0 ∧ ∀ r h', Φ0 r h' → (∃ v, r = some (vI v)) ∧ HOK lam [] (TBc b) h' ∧ FRM lam [(92, 2), (92, 3), (93, 999), (94, 999)] h h' := by
  obtain ⟨z, f, hR, hz⟩ := LG_rep hT
  obtain ⟨r, z', f', hc, e0⟩ := c_game x y z f
  refine ⟨_, mcall_ok (lbG_i hl) 22 34 _ _ _ _ hc h hR, ?_⟩
  rintro r' h' ⟨rfl, hR1⟩
  exact ⟨⟨r, rfl⟩, LG_hok hl hT hR1 (by rw [e0]; exact hz), LG_frm hl hR hR1 e0⟩
