/-! image of the reference, to its end -/
theorem lay_rows : ∀ p, p < 2439 → (layp p).1 ≤ 38 ∧ (layp p).1 ≠ 2 ∧ (layp p).1 ≠ 3 ∧ (layp p).1 ≠ 9 ∧ ((layp p).1 = 0 → (layp p).2 ≠ 73) := by decide +kernel
theorem pOf_0 : ∀ r, r < 43 → r ≠ 1 → r ≠ 2 → r ≠ 3 → pOf r = 0 := by decide +kernel
theorem fbAt_in : ∀ e, e ∈ FBl → fbAt e.1 = e.2 := by decide
theorem saved_or (q : Nat × Nat) : (posp q < 2439 ∧ layp (posp q) = q) ∨ (∀ p, p < 2439 → layp p ≠ q) := by
  by_cases c : posp q < 2439 ∧ layp (posp q) = q
  · exact Or.inl c
  · refine Or.inr (fun p hp e => c ?_)
    have h := lay_pos p hp
    rw [e] at h
    rw [h]
    exact ⟨hp, e⟩
theorem LK_of {f : Nat → FA} (h : BNDf f) : LK (f 1) := by
  have h1 : PRD [] 1 (f 1) := (h 1 (by decide) (by decide)).2
  unfold PRD at h1
  rw [if_pos rfl] at h1
  exact h1
theorem tb_0 (j : Nat) : tb (0, j) = fbAt j := if_pos rfl
theorem tb_r {r : Nat} (h : r ≠ 0) (j : Nat) : tb (r, j) = sgAt (sgOf r) j := if_neg h
theorem RDs_0 (z : Nat → Int32) (f : Nat → FA) (j : Nat) : RDs z f (0, j) = z j := if_pos rfl
theorem RDs_r {r : Nat} (h : r ≠ 0) (z : Nat → Int32) (f : Nat → FA) (j : Nat) : RDs z f (r, j) = f r j := if_neg h
theorem QST_of {z : Nat → Int32} {f : Nat → FA} (hz : BNDz z) (hB : BNDf f) (hE : EXF f) : QST z f := by
  refine ⟨fun p hp => ?_, LK_of hB, hE.2.1, hE.2.2.1⟩
  have h1 := (lay_rows p hp).1
  generalize layp p = q at *
  obtain ⟨r, j⟩ := q
  by_cases c : r = 0
  · subst c
    rw [tb_0, RDs_0]
    exact fbAt_ok hz j
  · rw [tb_r c, RDs_r c]
    exact SegOK_at (hB r (by omega) (by have : r ≤ 38 := h1; omega)).1 j
theorem IMG_of {z : Nat → Int32} {f : Nat → FA} {g : FA} (h : QST z f) (hg : ∀ p, p < 2439 → g p = RDs z f (layp p)) : IMG g := h.tr (fun p hp => by rw [RDs_img, lay_pos p hp]; exact hg p hp)
theorem QST_img {z : Nat → Int32} {f : Nat → FA} {g : FA} (h : IMG g) (hg : ∀ p, p < 2439 → RDs z f (layp p) = g p) : QST z f := QST.tr h (fun p hp => by rw [RDs_img, lay_pos p hp]; exact hg p hp)
theorem BNDf_42 {f : Nat → FA} {g : FA} (h : BNDf f) : BNDf (uA f 42 g) := by
  intro k h1 h2
  by_cases e : k = 42
  · subst e
    rw [uA_self]
    exact ⟨⟨fun j _ => inb_top _, trivial⟩, PRD_0⟩
  · rw [uA_ne e]
    exact h k h1 h2
/-- an image is taken -/
theorem im_t {z z' : Nat → Int32} {f f' : Nat → FA} (hz : BNDz z) (hB : BNDf f) (hE : EXF f) (h : INV true 2439 z f z' f') : BNDz z' ∧ BNDf f' ∧ EXF f' ∧ z' 73 = z 73 := by
  obtain ⟨h74, -, hT, -⟩ := h
  obtain ⟨a1, a2, a3⟩ := hT rfl
  have ef : f' = uA f 42 (f' 42) := by
    funext r
    by_cases e : r = 42
    · subst e; rw [uA_self]
    · rw [uA_ne e]; exact a2 r e
  refine ⟨fun e he => ?_, by rw [ef]; exact BNDf_42 hB, ?_, a1 73 (by decide)⟩
  · by_cases c : e.1 = 74
    · have : ∀ e, e ∈ FBl → e.1 = 74 → e = (74, 2147483648, 2147486548) := by decide
      have e2 := this e he c
      subst e2
      rw [h74]
      exact inb_nI (lo := 0) (hi := 2900) (by omega) (by omega) (by omega)
    · rw [a1 e.1 c]
      exact hz e he
  · obtain ⟨h1, h2, h3, h4⟩ := hE
    refine ⟨by rw [a2 9 (by decide)]; exact h1, h2.tr (by rw [a2 10 (by decide)]) (fun l _ => ⟨by rw [a2 12 (by decide)], by rw [a2 13 (by decide)], by rw [a2 14 (by decide)]⟩) (fun j _ => ⟨by rw [a2 15 (by decide)], by rw [a2 16 (by decide)]⟩), by rw [a2 19 (by decide)]; exact h3, IMG_of (QST_of hz hB ⟨h1, h2, h3, h4⟩) (fun p hp => ?_)⟩
    rw [a3 p, if_pos hp]
/-- an image is gone back to -/
theorem im_f {z z' : Nat → Int32} {f f' : Nat → FA} (hz : BNDz z) (hB : BNDf f) (hE : EXF f) (h : INV false 2439 z f z' f') : BNDz z' ∧ BNDf f' ∧ EXF f' ∧ z' 73 = z 73 := by
  obtain ⟨h74, -, -, hF⟩ := h
  obtain ⟨a1, a2, a3⟩ := hF rfl
  obtain ⟨h1, h2, h3, h4⟩ := hE
  have hQ : QST z' f' := QST_img h4 a2
  have hq : ∀ q : Nat × Nat, q.1 ≠ 42 → q ≠ (0, 74) → inb (tb q).1 (tb q).2 (RDs z' f' q) ∨ RDs z' f' q = RDs z f q := by
    intro q q1 q2
    rcases saved_or q with ⟨s1, s2⟩ | s
    · left
      have := hQ.1 (posp q) s1
      rw [s2] at this
      exact this
    · exact Or.inr (a3 q q1 q2 s)
  have row : ∀ r, (∀ p, p < 2439 → (layp p).1 ≠ r) → r ≠ 0 → r ≠ 42 → f' r = f r := by
    intro r hr r0 r42
    funext j
    have := a3 (r, j) r42 (fun e => r0 (congrArg Prod.fst e)) (fun p hp e => hr p hp (by rw [e]))
    rw [RDs_r r0, RDs_r r0] at this
    exact this
  have e2 := row 2 (fun p hp => (lay_rows p hp).2.1) (by decide) (by decide)
  have e3 := row 3 (fun p hp => (lay_rows p hp).2.2.1) (by decide) (by decide)
  have e9 := row 9 (fun p hp => (lay_rows p hp).2.2.2.1) (by decide) (by decide)
  have e73 : z' 73 = z 73 := by
    have := a3 (0, 73) (by decide) (by decide) (fun p hp e => (lay_rows p hp).2.2.2.2 (by rw [e]) (by rw [e]))
    rw [RDs_0, RDs_0] at this
    exact this
  refine ⟨fun e he => ?_, fun r r1 r2 => ?_, ⟨by rw [e9]; exact h1, hQ.2.2.1, hQ.2.2.2, by rw [a1]; exact h4⟩, e73⟩
  · by_cases c : e.1 = 74
    · have : ∀ e, e ∈ FBl → e.1 = 74 → e = (74, 2147483648, 2147486548) := by decide
      have e2 := this e he c
      subst e2
      rw [h74]
      exact inb_nI (lo := 0) (hi := 2900) (by omega) (by omega) (by omega)
    · rcases hq (0, e.1) (show (0 : Nat) ≠ 42 by decide) (fun q => c (congrArg Prod.snd q)) with k1 | k1
      · rw [tb_0, RDs_0, fbAt_in e he] at k1
        exact k1
      · rw [RDs_0, RDs_0] at k1
        rw [k1]
        exact hz e he
  · have r0 : r ≠ 0 := by omega
    by_cases c42 : r = 42
    · subst c42
      rw [a1]
      exact hB 42 r1 r2
    · refine ⟨SegOK_of (fun j => ?_), ?_⟩
      · rcases hq (r, j) c42 (fun q => r0 (congrArg Prod.fst q)) with k1 | k1
        · rw [tb_r r0, RDs_r r0] at k1
          exact k1
        · rw [RDs_r r0, RDs_r r0] at k1
          rw [k1]
          exact SegOK_at (hB r r1 r2).1 j
      · by_cases c1 : r = 1
        · subst c1
          show PRD [] 1 (f' 1)
          unfold PRD
          rw [if_pos rfl]
          exact hQ.2.1
        · by_cases c2 : r = 2
          · subst c2; rw [e2]; exact (hB 2 r1 r2).2
          · by_cases c3 : r = 3
            · subst c3; rw [e3]; exact (hB 3 r1 r2).2
            · rw [pOf_0 r (by omega) c1 c2 c3]
              exact PRD_0
