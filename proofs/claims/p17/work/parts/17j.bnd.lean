/-! what the template says, number by number -/
def FBl : List (Nat × Nat × Nat) := [(3, 2147483648, 2147483654), (5, 2147483648, 2147483649), (6, 2147483648, 2147483668), (12, 2147483648, 2147484048), (13, 2147483648, 2147484048), (14, 2147483648, 2147484048), (25, 2147483648, 2147483648), (26, 2147483648, 2147484048), (27, 2147483648, 2147483656), (29, 2147483648, 2147483688), (34, 2147483648, 2147483664), (36, 2147483648, 2147483664), (43, 2147483648, 2147483654), (46, 2147483648, 2147483664), (50, 2147483648, 2147483663), (52, 2147483648, 2147483663), (54, 2147483648, 2147483656), (57, 2147483648, 2147483656), (61, 2147483648, 2147483660), (63, 2147483648, 2147483660), (65, 2147483648, 2147483660), (72, 2147483648, 2147483649), (73, 2147483648, 2147483649), (74, 2147483648, 2147486548)]
noncomputable def sgOf (k : Nat) : List (Nat × Nat × Nat) := match nth TRf k with
  | some (.inl (.inl (_, _, sg))) => sg
  | _ => []
noncomputable def pOf (k : Nat) : Nat := match nth TRf k with
  | some (.inl (.inl (_, p, _))) => p
  | _ => 0
def BNDz (z : Nat → Int32) : Prop := ∀ e, e ∈ FBl → inb e.2.1 e.2.2 (z e.1)
def BNDf (f : Nat → FA) : Prop := ∀ k, 1 ≤ k → k ≤ 42 → SegOK (sgOf k) (f k) ∧ PRD [] (pOf k) (f k)
theorem row_at {lam : Nat → Nat} {H h : PH} {z : Nat → Int32} {f : Nat → FA} {k n p : Nat} {ln : AV} {sg : List (Nat × Nat × Nat)} (hT : HOK lam [] TRf h) (hR : Rep rdF H lam 43 (LR z f) h) (hc : nth TRf k = some (.inl (.inl (ln, p, sg)))) (hx : (LR z f)[k]? = some (.inl (.inl (0, n, f k)))) : SegOK sg (f k) ∧ PRD [] p (f k) := by
  obtain ⟨x, h1, N, g, rfl, h2, h3, h4, h5⟩ := hT k _ hc
  have e := hR.2.1 k _ hx
  rw [h1] at e
  have e := Option.some.inj e
  have e2 : g = f k := by
    have e3 : (Sum.inl (Sum.inl (0, N, g)) : PE) = Sum.inl (Sum.inl (0, n, f k)) := e
    injection e3 with e4
    injection e4 with e5
    injection e5 with _ e6
    injection e6
  subst e2
  exact ⟨h4, h5⟩
theorem fld_at {lam : Nat → Nat} {H h : PH} {z : Nat → Int32} {f : Nat → FA} {j : Nat} {b : Nat × Nat} {q : Nat} {fs : List AV} {xs : List PV} (hT : HOK lam [] TRf h) (hR : Rep rdF H lam 43 (LR z f) h) (hc : nth TRf 0 = some (.inr (q, fs))) (hx : (LR z f)[0]? = some (.inr (12, xs))) (hj : nth fs j = some (.inr (.inr (.inr b)))) (hy : xs[j]? = some (vI (z j))) : inb b.1 b.2 (z j) := by
  obtain ⟨x, h1, ys, rfl, h2⟩ := hT 0 _ hc
  have e := hR.2.1 0 _ hx
  rw [h1] at e
  have e := Option.some.inj e
  have e2 : ys = xs.map (sv lam) := by
    have e3 : (Sum.inr (q, ys) : PE) = Sum.inr (12, xs.map (sv lam)) := e
    injection e3 with e4
    injection e4
  subst e2
  obtain ⟨y, g1, w, g2, g3⟩ := R2.get h2 hj
  rw [List.getElem?_map, hy] at g1
  have g1 := Option.some.inj g1
  have g1 : vI (z j) = y := g1
  rw [← g1] at g2
  have g4 : z j = w := Sum.inl.inj g2
  rw [g4]
  exact g3
theorem BNDz_of {lam : Nat → Nat} {H h : PH} {z : Nat → Int32} {f : Nat → FA} (hT : HOK lam [] TRf h) (hR : Rep rdF H lam 43 (LR z f) h) : BNDz z := by
  intro e he
  rcases List.mem_cons.mp he with rfl | he
  · exact fld_at (j := 3) hT hR rfl rfl rfl rfl
  rcases List.mem_cons.mp he with rfl | he
  · exact fld_at (j := 5) hT hR rfl rfl rfl rfl
  rcases List.mem_cons.mp he with rfl | he
  · exact fld_at (j := 6) hT hR rfl rfl rfl rfl
  rcases List.mem_cons.mp he with rfl | he
  · exact fld_at (j := 12) hT hR rfl rfl rfl rfl
  rcases List.mem_cons.mp he with rfl | he
  · exact fld_at (j := 13) hT hR rfl rfl rfl rfl
  rcases List.mem_cons.mp he with rfl | he
  · exact fld_at (j := 14) hT hR rfl rfl rfl rfl
  rcases List.mem_cons.mp he with rfl | he
  · exact fld_at (j := 25) hT hR rfl rfl rfl rfl
  rcases List.mem_cons.mp he with rfl | he
  · exact fld_at (j := 26) hT hR rfl rfl rfl rfl
  rcases List.mem_cons.mp he with rfl | he
  · exact fld_at (j := 27) hT hR rfl rfl rfl rfl
  rcases List.mem_cons.mp he with rfl | he
  · exact fld_at (j := 29) hT hR rfl rfl rfl rfl
  rcases List.mem_cons.mp he with rfl | he
  · exact fld_at (j := 34) hT hR rfl rfl rfl rfl
  rcases List.mem_cons.mp he with rfl | he
  · exact fld_at (j := 36) hT hR rfl rfl rfl rfl
  rcases List.mem_cons.mp he with rfl | he
  · exact fld_at (j := 43) hT hR rfl rfl rfl rfl
  rcases List.mem_cons.mp he with rfl | he
  · exact fld_at (j := 46) hT hR rfl rfl rfl rfl
  rcases List.mem_cons.mp he with rfl | he
  · exact fld_at (j := 50) hT hR rfl rfl rfl rfl
  rcases List.mem_cons.mp he with rfl | he
  · exact fld_at (j := 52) hT hR rfl rfl rfl rfl
  rcases List.mem_cons.mp he with rfl | he
  · exact fld_at (j := 54) hT hR rfl rfl rfl rfl
  rcases List.mem_cons.mp he with rfl | he
  · exact fld_at (j := 57) hT hR rfl rfl rfl rfl
  rcases List.mem_cons.mp he with rfl | he
  · exact fld_at (j := 61) hT hR rfl rfl rfl rfl
  rcases List.mem_cons.mp he with rfl | he
  · exact fld_at (j := 63) hT hR rfl rfl rfl rfl
  rcases List.mem_cons.mp he with rfl | he
  · exact fld_at (j := 65) hT hR rfl rfl rfl rfl
  rcases List.mem_cons.mp he with rfl | he
  · exact fld_at (j := 72) hT hR rfl rfl rfl rfl
  rcases List.mem_cons.mp he with rfl | he
  · exact fld_at (j := 73) hT hR rfl rfl rfl rfl
  rcases List.mem_cons.mp he with rfl | he
  · exact fld_at (j := 74) hT hR rfl rfl rfl rfl
  cases he
theorem BNDf_of {lam : Nat → Nat} {H h : PH} {z : Nat → Int32} {f : Nat → FA} (hT : HOK lam [] TRf h) (hR : Rep rdF H lam 43 (LR z f) h) : BNDf f := by
  intro k h1 h2
  have h43 : k < 43 := by omega
  match k, h1, h43 with
  | 0, h1, _ => exact absurd h1 (by decide)
  | 1, _, _ => exact row_at (k := 1) (n := 499) hT hR rfl rfl
  | 2, _, _ => exact row_at (k := 2) (n := 2994) hT hR rfl rfl
  | 3, _, _ => exact row_at (k := 3) (n := 499) hT hR rfl rfl
  | 4, _, _ => exact row_at (k := 4) (n := 20) hT hR rfl rfl
  | 5, _, _ => exact row_at (k := 5) (n := 20) hT hR rfl rfl
  | 6, _, _ => exact row_at (k := 6) (n := 20) hT hR rfl rfl
  | 7, _, _ => exact row_at (k := 7) (n := 750) hT hR rfl rfl
  | 8, _, _ => exact row_at (k := 8) (n := 400) hT hR rfl rfl
  | 9, _, _ => exact row_at (k := 9) (n := 133) hT hR rfl rfl
  | 10, _, _ => exact row_at (k := 10) (n := 2) hT hR rfl rfl
  | 11, _, _ => exact row_at (k := 11) (n := 48) hT hR rfl rfl
  | 12, _, _ => exact row_at (k := 12) (n := 48) hT hR rfl rfl
  | 13, _, _ => exact row_at (k := 13) (n := 48) hT hR rfl rfl
  | 14, _, _ => exact row_at (k := 14) (n := 48) hT hR rfl rfl
  | 15, _, _ => exact row_at (k := 15) (n := 1200) hT hR rfl rfl
  | 16, _, _ => exact row_at (k := 16) (n := 1200) hT hR rfl rfl
  | 17, _, _ => exact row_at (k := 17) (n := 40) hT hR rfl rfl
  | 18, _, _ => exact row_at (k := 18) (n := 96) hT hR rfl rfl
  | 19, _, _ => exact row_at (k := 19) (n := 160) hT hR rfl rfl
  | 20, _, _ => exact row_at (k := 20) (n := 40) hT hR rfl rfl
  | 21, _, _ => exact row_at (k := 21) (n := 10) hT hR rfl rfl
  | 22, _, _ => exact row_at (k := 22) (n := 420) hT hR rfl rfl
  | 23, _, _ => exact row_at (k := 23) (n := 144) hT hR rfl rfl
  | 24, _, _ => exact row_at (k := 24) (n := 6) hT hR rfl rfl
  | 25, _, _ => exact row_at (k := 25) (n := 6) hT hR rfl rfl
  | 26, _, _ => exact row_at (k := 26) (n := 16) hT hR rfl rfl
  | 27, _, _ => exact row_at (k := 27) (n := 153) hT hR rfl rfl
  | 28, _, _ => exact row_at (k := 28) (n := 153) hT hR rfl rfl
  | 29, _, _ => exact row_at (k := 29) (n := 15) hT hR rfl rfl
  | 30, _, _ => exact row_at (k := 30) (n := 15) hT hR rfl rfl
  | 31, _, _ => exact row_at (k := 31) (n := 8) hT hR rfl rfl
  | 32, _, _ => exact row_at (k := 32) (n := 401) hT hR rfl rfl
  | 33, _, _ => exact row_at (k := 33) (n := 8) hT hR rfl rfl
  | 34, _, _ => exact row_at (k := 34) (n := 8) hT hR rfl rfl
  | 35, _, _ => exact row_at (k := 35) (n := 256) hT hR rfl rfl
  | 36, _, _ => exact row_at (k := 36) (n := 12) hT hR rfl rfl
  | 37, _, _ => exact row_at (k := 37) (n := 8) hT hR rfl rfl
  | 38, _, _ => exact row_at (k := 38) (n := 8) hT hR rfl rfl
  | 39, _, _ => exact row_at (k := 39) (n := 256) hT hR rfl rfl
  | 40, _, _ => exact row_at (k := 40) (n := 19683) hT hR rfl rfl
  | 41, _, _ => exact row_at (k := 41) (n := 9) hT hR rfl rfl
  | 42, _, _ => exact row_at (k := 42) (n := 2900) hT hR rfl rfl
  | _ + 43, _, h43 => exact absurd h43 (by omega)
theorem HOK_of {lam : Nat → Nat} {H h : PH} {z : Nat → Int32} {f : Nat → FA} (hR : Rep rdF H lam 43 (LR z f) h) (hz : BNDz z) (hf : BNDf f) : HOK lam [] TRf h := by
  intro k c hk
  have h43 : k < 43 := by
    rw [nth_eq] at hk
    exact (List.getElem?_eq_some_iff.mp hk).1
  match k, h43, hk with
  | 0, _, hk =>
    have hk := Option.some.inj hk
    subst hk
    exact ⟨_, hR.2.1 0 _ rfl, _, rfl, ⟨z 0, rfl, inb_top _⟩, rfl, rfl, ⟨z 3, rfl, hz (3, 2147483648, 2147483654) (by decide)⟩, rfl, ⟨z 5, rfl, hz (5, 2147483648, 2147483649) (by decide)⟩, ⟨z 6, rfl, hz (6, 2147483648, 2147483668) (by decide)⟩, rfl, rfl, rfl, rfl, rfl, ⟨z 12, rfl, hz (12, 2147483648, 2147484048) (by decide)⟩, ⟨z 13, rfl, hz (13, 2147483648, 2147484048) (by decide)⟩, ⟨z 14, rfl, hz (14, 2147483648, 2147484048) (by decide)⟩, ⟨z 15, rfl, inb_top _⟩, ⟨z 16, rfl, inb_top _⟩, rfl, rfl, rfl, rfl, rfl, rfl, rfl, rfl, ⟨z 25, rfl, hz (25, 2147483648, 2147483648) (by decide)⟩, ⟨z 26, rfl, hz (26, 2147483648, 2147484048) (by decide)⟩, ⟨z 27, rfl, hz (27, 2147483648, 2147483656) (by decide)⟩, rfl, ⟨z 29, rfl, hz (29, 2147483648, 2147483688) (by decide)⟩, ⟨z 30, rfl, inb_top _⟩, ⟨z 31, rfl, inb_top _⟩, ⟨z 32, rfl, inb_top _⟩, ⟨z 33, rfl, inb_top _⟩, ⟨z 34, rfl, hz (34, 2147483648, 2147483664) (by decide)⟩, rfl, ⟨z 36, rfl, hz (36, 2147483648, 2147483664) (by decide)⟩, rfl, ⟨z 38, rfl, inb_top _⟩, rfl, rfl, rfl, rfl, ⟨z 43, rfl, hz (43, 2147483648, 2147483654) (by decide)⟩, rfl, rfl, ⟨z 46, rfl, hz (46, 2147483648, 2147483664) (by decide)⟩, rfl, rfl, rfl, ⟨z 50, rfl, hz (50, 2147483648, 2147483663) (by decide)⟩, rfl, ⟨z 52, rfl, hz (52, 2147483648, 2147483663) (by decide)⟩, rfl, ⟨z 54, rfl, hz (54, 2147483648, 2147483656) (by decide)⟩, rfl, rfl, ⟨z 57, rfl, hz (57, 2147483648, 2147483656) (by decide)⟩, rfl, rfl, rfl, ⟨z 61, rfl, hz (61, 2147483648, 2147483660) (by decide)⟩, rfl, ⟨z 63, rfl, hz (63, 2147483648, 2147483660) (by decide)⟩, rfl, ⟨z 65, rfl, hz (65, 2147483648, 2147483660) (by decide)⟩, rfl, rfl, rfl, rfl, ⟨z 70, rfl, inb_top _⟩, ⟨z 71, rfl, inb_top _⟩, ⟨z 72, rfl, hz (72, 2147483648, 2147483649) (by decide)⟩, ⟨z 73, rfl, hz (73, 2147483648, 2147483649) (by decide)⟩, ⟨z 74, rfl, hz (74, 2147483648, 2147486548) (by decide)⟩, rfl, trivial⟩
  | 1, _, hk =>
    have hk := Option.some.inj hk
    subst hk
    exact ⟨_, hR.2.1 1 _ rfl, 499, f 1, rfl, by decide, ⟨_, val_c (by decide), by decide⟩, (hf 1 (by decide) (by decide)).1, (hf 1 (by decide) (by decide)).2⟩
  | 2, _, hk =>
    have hk := Option.some.inj hk
    subst hk
    exact ⟨_, hR.2.1 2 _ rfl, 2994, f 2, rfl, by decide, ⟨_, val_c (by decide), by decide⟩, (hf 2 (by decide) (by decide)).1, (hf 2 (by decide) (by decide)).2⟩
  | 3, _, hk =>
    have hk := Option.some.inj hk
    subst hk
    exact ⟨_, hR.2.1 3 _ rfl, 499, f 3, rfl, by decide, ⟨_, val_c (by decide), by decide⟩, (hf 3 (by decide) (by decide)).1, (hf 3 (by decide) (by decide)).2⟩
  | 4, _, hk =>
    have hk := Option.some.inj hk
    subst hk
    exact ⟨_, hR.2.1 4 _ rfl, 20, f 4, rfl, by decide, ⟨_, val_c (by decide), by decide⟩, (hf 4 (by decide) (by decide)).1, (hf 4 (by decide) (by decide)).2⟩
  | 5, _, hk =>
    have hk := Option.some.inj hk
    subst hk
    exact ⟨_, hR.2.1 5 _ rfl, 20, f 5, rfl, by decide, ⟨_, val_c (by decide), by decide⟩, (hf 5 (by decide) (by decide)).1, (hf 5 (by decide) (by decide)).2⟩
  | 6, _, hk =>
    have hk := Option.some.inj hk
    subst hk
    exact ⟨_, hR.2.1 6 _ rfl, 20, f 6, rfl, by decide, ⟨_, val_c (by decide), by decide⟩, (hf 6 (by decide) (by decide)).1, (hf 6 (by decide) (by decide)).2⟩
  | 7, _, hk =>
    have hk := Option.some.inj hk
    subst hk
    exact ⟨_, hR.2.1 7 _ rfl, 750, f 7, rfl, by decide, ⟨_, val_c (by decide), by decide⟩, (hf 7 (by decide) (by decide)).1, (hf 7 (by decide) (by decide)).2⟩
  | 8, _, hk =>
    have hk := Option.some.inj hk
    subst hk
    exact ⟨_, hR.2.1 8 _ rfl, 400, f 8, rfl, by decide, ⟨_, val_c (by decide), by decide⟩, (hf 8 (by decide) (by decide)).1, (hf 8 (by decide) (by decide)).2⟩
  | 9, _, hk =>
    have hk := Option.some.inj hk
    subst hk
    exact ⟨_, hR.2.1 9 _ rfl, 133, f 9, rfl, by decide, ⟨_, val_c (by decide), by decide⟩, (hf 9 (by decide) (by decide)).1, (hf 9 (by decide) (by decide)).2⟩
  | 10, _, hk =>
    have hk := Option.some.inj hk
    subst hk
    exact ⟨_, hR.2.1 10 _ rfl, 2, f 10, rfl, by decide, ⟨_, val_c (by decide), by decide⟩, (hf 10 (by decide) (by decide)).1, (hf 10 (by decide) (by decide)).2⟩
  | 11, _, hk =>
    have hk := Option.some.inj hk
    subst hk
    exact ⟨_, hR.2.1 11 _ rfl, 48, f 11, rfl, by decide, ⟨_, val_c (by decide), by decide⟩, (hf 11 (by decide) (by decide)).1, (hf 11 (by decide) (by decide)).2⟩
  | 12, _, hk =>
    have hk := Option.some.inj hk
    subst hk
    exact ⟨_, hR.2.1 12 _ rfl, 48, f 12, rfl, by decide, ⟨_, val_c (by decide), by decide⟩, (hf 12 (by decide) (by decide)).1, (hf 12 (by decide) (by decide)).2⟩
  | 13, _, hk =>
    have hk := Option.some.inj hk
    subst hk
    exact ⟨_, hR.2.1 13 _ rfl, 48, f 13, rfl, by decide, ⟨_, val_c (by decide), by decide⟩, (hf 13 (by decide) (by decide)).1, (hf 13 (by decide) (by decide)).2⟩
  | 14, _, hk =>
    have hk := Option.some.inj hk
    subst hk
    exact ⟨_, hR.2.1 14 _ rfl, 48, f 14, rfl, by decide, ⟨_, val_c (by decide), by decide⟩, (hf 14 (by decide) (by decide)).1, (hf 14 (by decide) (by decide)).2⟩
  | 15, _, hk =>
    have hk := Option.some.inj hk
    subst hk
    exact ⟨_, hR.2.1 15 _ rfl, 1200, f 15, rfl, by decide, ⟨_, val_c (by decide), by decide⟩, (hf 15 (by decide) (by decide)).1, (hf 15 (by decide) (by decide)).2⟩
  | 16, _, hk =>
    have hk := Option.some.inj hk
    subst hk
    exact ⟨_, hR.2.1 16 _ rfl, 1200, f 16, rfl, by decide, ⟨_, val_c (by decide), by decide⟩, (hf 16 (by decide) (by decide)).1, (hf 16 (by decide) (by decide)).2⟩
  | 17, _, hk =>
    have hk := Option.some.inj hk
    subst hk
    exact ⟨_, hR.2.1 17 _ rfl, 40, f 17, rfl, by decide, ⟨_, val_c (by decide), by decide⟩, (hf 17 (by decide) (by decide)).1, (hf 17 (by decide) (by decide)).2⟩
  | 18, _, hk =>
    have hk := Option.some.inj hk
    subst hk
    exact ⟨_, hR.2.1 18 _ rfl, 96, f 18, rfl, by decide, ⟨_, val_c (by decide), by decide⟩, (hf 18 (by decide) (by decide)).1, (hf 18 (by decide) (by decide)).2⟩
  | 19, _, hk =>
    have hk := Option.some.inj hk
    subst hk
    exact ⟨_, hR.2.1 19 _ rfl, 160, f 19, rfl, by decide, ⟨_, val_c (by decide), by decide⟩, (hf 19 (by decide) (by decide)).1, (hf 19 (by decide) (by decide)).2⟩
  | 20, _, hk =>
    have hk := Option.some.inj hk
    subst hk
    exact ⟨_, hR.2.1 20 _ rfl, 40, f 20, rfl, by decide, ⟨_, val_c (by decide), by decide⟩, (hf 20 (by decide) (by decide)).1, (hf 20 (by decide) (by decide)).2⟩
  | 21, _, hk =>
    have hk := Option.some.inj hk
    subst hk
    exact ⟨_, hR.2.1 21 _ rfl, 10, f 21, rfl, by decide, ⟨_, val_c (by decide), by decide⟩, (hf 21 (by decide) (by decide)).1, (hf 21 (by decide) (by decide)).2⟩
  | 22, _, hk =>
    have hk := Option.some.inj hk
    subst hk
    exact ⟨_, hR.2.1 22 _ rfl, 420, f 22, rfl, by decide, ⟨_, val_c (by decide), by decide⟩, (hf 22 (by decide) (by decide)).1, (hf 22 (by decide) (by decide)).2⟩
  | 23, _, hk =>
    have hk := Option.some.inj hk
    subst hk
    exact ⟨_, hR.2.1 23 _ rfl, 144, f 23, rfl, by decide, ⟨_, val_c (by decide), by decide⟩, (hf 23 (by decide) (by decide)).1, (hf 23 (by decide) (by decide)).2⟩
  | 24, _, hk =>
    have hk := Option.some.inj hk
    subst hk
    exact ⟨_, hR.2.1 24 _ rfl, 6, f 24, rfl, by decide, ⟨_, val_c (by decide), by decide⟩, (hf 24 (by decide) (by decide)).1, (hf 24 (by decide) (by decide)).2⟩
  | 25, _, hk =>
    have hk := Option.some.inj hk
    subst hk
    exact ⟨_, hR.2.1 25 _ rfl, 6, f 25, rfl, by decide, ⟨_, val_c (by decide), by decide⟩, (hf 25 (by decide) (by decide)).1, (hf 25 (by decide) (by decide)).2⟩
  | 26, _, hk =>
    have hk := Option.some.inj hk
    subst hk
    exact ⟨_, hR.2.1 26 _ rfl, 16, f 26, rfl, by decide, ⟨_, val_c (by decide), by decide⟩, (hf 26 (by decide) (by decide)).1, (hf 26 (by decide) (by decide)).2⟩
  | 27, _, hk =>
    have hk := Option.some.inj hk
    subst hk
    exact ⟨_, hR.2.1 27 _ rfl, 153, f 27, rfl, by decide, ⟨_, val_c (by decide), by decide⟩, (hf 27 (by decide) (by decide)).1, (hf 27 (by decide) (by decide)).2⟩
  | 28, _, hk =>
    have hk := Option.some.inj hk
    subst hk
    exact ⟨_, hR.2.1 28 _ rfl, 153, f 28, rfl, by decide, ⟨_, val_c (by decide), by decide⟩, (hf 28 (by decide) (by decide)).1, (hf 28 (by decide) (by decide)).2⟩
  | 29, _, hk =>
    have hk := Option.some.inj hk
    subst hk
    exact ⟨_, hR.2.1 29 _ rfl, 15, f 29, rfl, by decide, ⟨_, val_c (by decide), by decide⟩, (hf 29 (by decide) (by decide)).1, (hf 29 (by decide) (by decide)).2⟩
  | 30, _, hk =>
    have hk := Option.some.inj hk
    subst hk
    exact ⟨_, hR.2.1 30 _ rfl, 15, f 30, rfl, by decide, ⟨_, val_c (by decide), by decide⟩, (hf 30 (by decide) (by decide)).1, (hf 30 (by decide) (by decide)).2⟩
  | 31, _, hk =>
    have hk := Option.some.inj hk
    subst hk
    exact ⟨_, hR.2.1 31 _ rfl, 8, f 31, rfl, by decide, ⟨_, val_c (by decide), by decide⟩, (hf 31 (by decide) (by decide)).1, (hf 31 (by decide) (by decide)).2⟩
  | 32, _, hk =>
    have hk := Option.some.inj hk
    subst hk
    exact ⟨_, hR.2.1 32 _ rfl, 401, f 32, rfl, by decide, ⟨_, val_c (by decide), by decide⟩, (hf 32 (by decide) (by decide)).1, (hf 32 (by decide) (by decide)).2⟩
  | 33, _, hk =>
    have hk := Option.some.inj hk
    subst hk
    exact ⟨_, hR.2.1 33 _ rfl, 8, f 33, rfl, by decide, ⟨_, val_c (by decide), by decide⟩, (hf 33 (by decide) (by decide)).1, (hf 33 (by decide) (by decide)).2⟩
  | 34, _, hk =>
    have hk := Option.some.inj hk
    subst hk
    exact ⟨_, hR.2.1 34 _ rfl, 8, f 34, rfl, by decide, ⟨_, val_c (by decide), by decide⟩, (hf 34 (by decide) (by decide)).1, (hf 34 (by decide) (by decide)).2⟩
  | 35, _, hk =>
    have hk := Option.some.inj hk
    subst hk
    exact ⟨_, hR.2.1 35 _ rfl, 256, f 35, rfl, by decide, ⟨_, val_c (by decide), by decide⟩, (hf 35 (by decide) (by decide)).1, (hf 35 (by decide) (by decide)).2⟩
  | 36, _, hk =>
    have hk := Option.some.inj hk
    subst hk
    exact ⟨_, hR.2.1 36 _ rfl, 12, f 36, rfl, by decide, ⟨_, val_c (by decide), by decide⟩, (hf 36 (by decide) (by decide)).1, (hf 36 (by decide) (by decide)).2⟩
  | 37, _, hk =>
    have hk := Option.some.inj hk
    subst hk
    exact ⟨_, hR.2.1 37 _ rfl, 8, f 37, rfl, by decide, ⟨_, val_c (by decide), by decide⟩, (hf 37 (by decide) (by decide)).1, (hf 37 (by decide) (by decide)).2⟩
  | 38, _, hk =>
    have hk := Option.some.inj hk
    subst hk
    exact ⟨_, hR.2.1 38 _ rfl, 8, f 38, rfl, by decide, ⟨_, val_c (by decide), by decide⟩, (hf 38 (by decide) (by decide)).1, (hf 38 (by decide) (by decide)).2⟩
  | 39, _, hk =>
    have hk := Option.some.inj hk
    subst hk
    exact ⟨_, hR.2.1 39 _ rfl, 256, f 39, rfl, by decide, ⟨_, val_c (by decide), by decide⟩, (hf 39 (by decide) (by decide)).1, (hf 39 (by decide) (by decide)).2⟩
  | 40, _, hk =>
    have hk := Option.some.inj hk
    subst hk
    exact ⟨_, hR.2.1 40 _ rfl, 19683, f 40, rfl, by decide, ⟨_, val_c (by decide), by decide⟩, (hf 40 (by decide) (by decide)).1, (hf 40 (by decide) (by decide)).2⟩
  | 41, _, hk =>
    have hk := Option.some.inj hk
    subst hk
    exact ⟨_, hR.2.1 41 _ rfl, 9, f 41, rfl, by decide, ⟨_, val_c (by decide), by decide⟩, (hf 41 (by decide) (by decide)).1, (hf 41 (by decide) (by decide)).2⟩
  | 42, _, hk =>
    have hk := Option.some.inj hk
    subst hk
    exact ⟨_, hR.2.1 42 _ rfl, 2900, f 42, rfl, by decide, ⟨_, val_c (by decide), by decide⟩, (hf 42 (by decide) (by decide)).1, (hf 42 (by decide) (by decide)).2⟩
def sgAt (sg : List (Nat × Nat × Nat)) (j : Nat) : Nat × Nat := match sg with
  | [] => (0, 4294967295)
  | s :: t => if j < s.1 then (s.2.1, s.2.2) else sgAt t (j - s.1)
theorem SegOK_at {sg : List (Nat × Nat × Nat)} : ∀ {f : FA}, SegOK sg f → ∀ j, inb (sgAt sg j).1 (sgAt sg j).2 (f j) := by
  induction sg with
  | nil => intro f _ j; exact inb_top _
  | cons s t ih =>
    intro f h j
    obtain ⟨h1, h2⟩ := h
    show inb (if j < s.1 then (s.2.1, s.2.2) else sgAt t (j - s.1)).1 (if j < s.1 then (s.2.1, s.2.2) else sgAt t (j - s.1)).2 (f j)
    by_cases c : j < s.1
    · rw [if_pos c]; exact h1 j c
    · rw [if_neg c]
      have := ih h2 (j - s.1)
      rw [show s.1 + (j - s.1) = j by omega] at this
      exact this
theorem SegOK_of {sg : List (Nat × Nat × Nat)} : ∀ {f : FA}, (∀ j, inb (sgAt sg j).1 (sgAt sg j).2 (f j)) → SegOK sg f := by
  induction sg with
  | nil => intro f _; trivial
  | cons s t ih =>
    intro f h
    refine ⟨fun j hj => ?_, ih (fun j => ?_)⟩
    · have h1 : inb (if j < s.1 then (s.2.1, s.2.2) else sgAt t (j - s.1)).1 (if j < s.1 then (s.2.1, s.2.2) else sgAt t (j - s.1)).2 (f j) := h j
      rw [if_pos hj] at h1
      exact h1
    · have h1 : inb (if s.1 + j < s.1 then (s.2.1, s.2.2) else sgAt t (s.1 + j - s.1)).1 (if s.1 + j < s.1 then (s.2.1, s.2.2) else sgAt t (s.1 + j - s.1)).2 (f (s.1 + j)) := h (s.1 + j)
      rw [if_neg (by omega), Nat.add_sub_cancel_left] at h1
      exact h1
theorem inb_nI {n lo hi : Nat} (h1 : lo ≤ n) (h2 : n ≤ hi) (h : n < 2147483648) : inb (2147483648 + lo) (2147483648 + hi) (nI n) := by
  unfold inb
  rw [ky_nI h]
  omega
theorem nI_inb {x : Int32} {hi : Nat} (h : inb 2147483648 hi x) : ∃ n, x = nI n ∧ 2147483648 + n ≤ hi ∧ n < 2147483648 := by
  have e := ky_toInt x
  have hl := ky_lim x
  obtain ⟨n, h1, h2, h3⟩ := nI_ofI (x := x) (by
    show 0 ≤ x.toInt
    have := h.1
    omega)
  have h4 : ky x = n + 2147483648 := by rw [h1]; exact ky_nI h2
  exact ⟨n, h1, by have := h.2; omega, h2⟩
theorem BNDz.at {z : Nat → Int32} (h : BNDz z) {j lo hi : Nat} (he : (j, lo, hi) ∈ FBl) : inb lo hi (z j) := h (j, lo, hi) he
theorem BNDz.nat {z : Nat → Int32} (h : BNDz z) {j hi : Nat} (he : (j, 2147483648, 2147483648 + hi) ∈ FBl) : ∃ n, z j = nI n ∧ n ≤ hi := by
  obtain ⟨n, h1, h2, h3⟩ := nI_inb (h.at he)
  exact ⟨n, h1, by omega⟩
