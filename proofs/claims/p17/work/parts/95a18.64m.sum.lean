/-! the reference's reader over tokens: sums, conditions -/
theorem pxr_inj : ∀ j, j < 26 → ∀ k, k < 26 → pxr j = pxr k → j = k := by decide +kernel
theorem pxr_ask : ∀ j, j < 26 → ((7 ≤ pxr j ∧ pxr j ≤ 16) ↔ (3 ≤ j ∧ j ≤ 12)) ∧ (3 ≤ j ∧ j ≤ 12 → pxr j = j + 4) ∧ (pxr j ≤ 2 ↔ j ≤ 2) ∧ (j ≤ 2 → pxr j = j) := by decide +kernel
theorem pxR_w {z : Nat → Int32} {tk v : Nat} (h : pxR z tk v) (ht : pxtk tk) (j : Nat) (hj : j < 26) : (z 15 = 2 ∧ z 16 = nI (pxr j)) ↔ tk = 300 + j := by
  rcases ht with rfl | rfl | rfl | q | q
  · exact ⟨fun k => absurd ((h.2.2.1 rfl).1.symm.trans k.1) (by decide), fun k => by omega⟩
  · exact ⟨fun k => absurd ((h.1 rfl).symm.trans k.1) (by decide), fun k => by omega⟩
  · exact ⟨fun k => absurd ((h.2.1 rfl).symm.trans k.1) (by decide), fun k => by omega⟩
  · exact ⟨fun k => absurd ((h.2.2.2.1 q.1 q.2).1.symm.trans k.1) (by decide), fun k => by omega⟩
  · obtain ⟨a, b⟩ := h.2.2.2.2 q.1
    constructor
    · rintro ⟨-, c⟩
      have h1 := pxr_lt (j := tk - 300) (by omega)
      have h2 := pxr_lt hj
      have := pxr_inj (tk - 300) (by omega) j hj (nI_inj (by omega) (by omega) (b.symm.trans c))
      omega
    · intro c
      rw [show tk - 300 = j by omega] at b
      exact ⟨a, b⟩
theorem pxR_s {z : Nat → Int32} {tk v : Nat} (h : pxR z tk v) (ht : pxtk tk) (c : Nat) (hc : 40 ≤ c) (hc2 : c ≤ 62) : (z 15 = 4 ∧ z 16 = nI c) ↔ tk = c := by
  rcases ht with rfl | rfl | rfl | q | q
  · exact ⟨fun k => absurd ((h.2.2.1 rfl).1.symm.trans k.1) (by decide), fun k => by omega⟩
  · exact ⟨fun k => absurd ((h.1 rfl).symm.trans k.1) (by decide), fun k => by omega⟩
  · exact ⟨fun k => absurd ((h.2.1 rfl).symm.trans k.1) (by decide), fun k => by omega⟩
  · obtain ⟨a, b⟩ := h.2.2.2.1 q.1 q.2
    exact ⟨fun k => nI_inj (by omega) (by omega) (b.symm.trans k.2), fun k => ⟨a, by rw [b, k]⟩⟩
  · exact ⟨fun k => absurd ((h.2.2.2.2 q.1).1.symm.trans k.1) (by decide), fun k => by omega⟩
theorem pxR_n {z : Nat → Int32} {tk v : Nat} (h : pxR z tk v) (ht : pxtk tk) : z 15 = 3 ↔ tk = 1 := by
  rcases ht with rfl | rfl | rfl | q | q
  · exact ⟨fun _ => rfl, fun _ => (h.2.2.1 rfl).1⟩
  · exact ⟨fun k => absurd ((h.1 rfl).symm.trans k) (by decide), fun k => by omega⟩
  · exact ⟨fun k => absurd ((h.2.1 rfl).symm.trans k) (by decide), fun k => by omega⟩
  · exact ⟨fun k => absurd ((h.2.2.2.1 q.1 q.2).1.symm.trans k) (by decide), fun k => by omega⟩
  · exact ⟨fun k => absurd ((h.2.2.2.2 q.1).1.symm.trans k) (by decide), fun k => by omega⟩
theorem pxR_e {z : Nat → Int32} {tk v : Nat} (h : pxR z tk v) (ht : pxtk tk) : z 15 = 0 ↔ tk = 2 := by
  rcases ht with rfl | rfl | rfl | q | q
  · exact ⟨fun k => absurd ((h.2.2.1 rfl).1.symm.trans k) (by decide), fun k => by omega⟩
  · exact ⟨fun _ => rfl, fun _ => h.1 rfl⟩
  · exact ⟨fun k => absurd ((h.2.1 rfl).symm.trans k) (by decide), fun k => by omega⟩
  · exact ⟨fun k => absurd ((h.2.2.2.1 q.1 q.2).1.symm.trans k) (by decide), fun k => by omega⟩
  · exact ⟨fun k => absurd ((h.2.2.2.2 q.1).1.symm.trans k) (by decide), fun k => by omega⟩
theorem pxR_t {z : Nat → Int32} {tk v : Nat} (h : pxR z tk v) (ht : pxtk tk) : z 15 = 2 ↔ 300 ≤ tk := by
  rcases ht with rfl | rfl | rfl | q | q
  · exact ⟨fun k => absurd ((h.2.2.1 rfl).1.symm.trans k) (by decide), fun k => by omega⟩
  · exact ⟨fun k => absurd ((h.1 rfl).symm.trans k) (by decide), fun k => by omega⟩
  · exact ⟨fun k => absurd ((h.2.1 rfl).symm.trans k) (by decide), fun k => by omega⟩
  · exact ⟨fun k => absurd ((h.2.2.2.1 q.1 q.2).1.symm.trans k) (by decide), fun k => by omega⟩
  · exact ⟨fun _ => q.1, fun _ => (h.2.2.2.2 q.1).1⟩
theorem tkR_len : ∀ (P : List TK) {o a : FA} {i j : Nat}, tkR P o a i j → j = i + prl P := by
  intro P
  induction P with
  | nil => intro o a i j h; exact h.symm
  | cons e P ih =>
    rintro o a i j ⟨-, -, h⟩
    show j = i + ((if e.1 = 2 then 2 else 1) + prl P)
    by_cases c : e.1 = 2
    · rw [if_pos c] at h
      rw [if_pos c, ih h.2.2.2]
      omega
    · rw [if_neg c] at h
      rw [if_neg c, ih h.2.2]
      omega
theorem tkR_lo {o a o' a' : FA} : ∀ (P : List TK) (i j : Nat), (∀ k, i ≤ k → k < j → o' k = o k ∧ a' k = a k) → tkR P o a i j → tkR P o' a' i j := by
  intro P
  induction P with
  | nil => intro i j _ h; exact h
  | cons e P ih =>
    intro i j hk h
    have hl := tkR_le _ _ _ _ _ h
    have hl : i + (P.length + 1) ≤ j := hl
    have hl2 := tkR_len _ h
    have hl2 : j = i + ((if e.1 = 2 then 2 else 1) + prl P) := hl2
    obtain ⟨h1, h2, h3⟩ := h
    refine ⟨h1, h2, ?_⟩
    by_cases c : e.1 = 2
    · rw [if_pos c] at h3 hl2 ⊢
      obtain ⟨a1, a2, a3, a4⟩ := h3
      exact ⟨by rw [(hk i (by omega) (by omega)).1]; exact a1, by rw [(hk i (by omega) (by omega)).2]; exact a2, by rw [(hk (i + 1) (by omega) (by omega)).1]; exact a3, ih (i + 2) j (fun k q1 q2 => hk k (by omega) q2) a4⟩
    · rw [if_neg c] at h3 ⊢
      obtain ⟨a1, a2, a3⟩ := h3
      exact ⟨by rw [(hk i (by omega) (by omega)).1]; exact a1, fun q => by rw [(hk i (by omega) (by omega)).2]; exact a2 q, ih (i + 1) j (fun k q1 q2 => hk k (by omega) q2) a3⟩
theorem tkR_app {o a : FA} {D : List TK} : ∀ (C : List TK) (i k j : Nat), tkR C o a i k → tkR D o a k j → tkR (C ++ D) o a i j := by
  intro C
  induction C with
  | nil =>
    intro i k j h1 h2
    have h1 : i = k := h1
    subst h1
    exact h2
  | cons e C ih =>
    rintro i k j ⟨h1, h2, h3⟩ h4
    refine ⟨h1, h2, ?_⟩
    by_cases c : e.1 = 2
    · rw [if_pos c] at h3 ⊢
      exact ⟨h3.1, h3.2.1, h3.2.2.1, ih _ _ _ h3.2.2.2 h4⟩
    · rw [if_neg c] at h3 ⊢
      exact ⟨h3.1, h3.2.1, ih _ _ _ h3.2.2 h4⟩
theorem tkR_spl {o a : FA} {D : List TK} : ∀ (C : List TK) (i j : Nat), tkR (C ++ D) o a i j → tkR C o a i (i + prl C) ∧ tkR D o a (i + prl C) j := by
  intro C
  induction C with
  | nil =>
    intro i j h
    exact ⟨rfl, h⟩
  | cons e C ih =>
    rintro i j ⟨h1, h2, h3⟩
    by_cases c : e.1 = 2
    · have ep : prl (e :: C) = 2 + prl C := by show (if e.1 = 2 then 2 else 1) + prl C = _; rw [if_pos c]
      rw [if_pos c] at h3
      obtain ⟨a1, a2⟩ := ih _ _ h3.2.2.2
      rw [ep]
      rw [show i + 2 + prl C = i + (2 + prl C) by omega] at a1 a2
      exact ⟨⟨h1, h2, by rw [if_pos c]; exact ⟨h3.1, h3.2.1, h3.2.2.1, a1⟩⟩, a2⟩
    · have ep : prl (e :: C) = 1 + prl C := by show (if e.1 = 2 then 2 else 1) + prl C = _; rw [if_neg c]
      rw [if_neg c] at h3
      obtain ⟨a1, a2⟩ := ih _ _ h3.2.2
      rw [ep]
      rw [show i + 1 + prl C = i + (1 + prl C) by omega] at a1 a2
      exact ⟨⟨h1, h2, by rw [if_neg c]; exact ⟨h3.1, h3.2.1, a1⟩⟩, a2⟩
/-- the reference's reader looks at the first of these tokens and has written these codes -/
def prR (t : FA) (n : Nat) (ts : List TT) (C : List TK) (z : Nat → Int32) (f : Nat → FA) : Prop := (f 8 = t ∧ pxY (f 9) 0 pxV = true ∧ z 12 = nI n ∧ n ≤ 400 ∧ ∀ j, j < n → ¬ t j = -1) ∧ (∃ pl nx tk v, pxAt t n pl nx tk v ts ∧ z 14 = nI pl ∧ z 13 = nI nx ∧ pxR z tk v) ∧ z 26 = nI (prl C) ∧ tkR C (f 15) (f 16) 800 (800 + prl C)
theorem prR_hd {t : FA} {n : Nat} {ts : List TT} {C : List TK} {z : Nat → Int32} {f : Nat → FA} (h : prR t n ts C z f) : ∃ x r, ts = x :: r ∧ z 14 = nI x.1 ∧ pxR z x.2.1 x.2.2 ∧ pxtk x.2.1 ∧ (x.2.1 = 1 → x.2.2 < 10000) := by
  obtain ⟨-, ⟨pl, nx, tk, v, ⟨h1, h2, h3, k, h4, h5⟩, h6, h7, h8⟩, -⟩ := h
  exact ⟨(pl, tk, v), _, h5, h6, h8, h2, h3⟩
theorem prR_hd2 {t : FA} {n : Nat} {x : TT} {r : List TT} {C : List TK} {z : Nat → Int32} {f : Nat → FA} (h : prR t n (x :: r) C z f) : z 14 = nI x.1 ∧ pxR z x.2.1 x.2.2 ∧ pxtk x.2.1 ∧ (x.2.1 = 1 → x.2.2 < 10000) := by
  obtain ⟨x', r', e, h1⟩ := prR_hd h
  have e1 := (List.cons.inj e).1
  subst e1
  exact h1
theorem prstep {t : FA} {n : Nat} {x : TT} {r : List TT} {C : List TK} {z : Nat → Int32} {f : Nat → FA} (h : prR t n (x :: r) C z f) (hx : ¬ x.2.1 = 2) (d : Nat) : ∃ z', mcall (d + 3) 269 [vR 0] (LR z f) = some (none, LR z' f) ∧ prR t n r C z' f ∧ RDZ z z' := by
  obtain ⟨⟨g1, gY, g2, g3, g4⟩, ⟨pl, nx, tk, v, hA, h6, h7, h8⟩, h10, h11⟩ := h
  have hA0 := hA
  obtain ⟨h1, h2, h3, k, h4, h5⟩ := hA
  have e1 : x = (pl, tk, v) := (List.cons.inj h5).1
  have hx : ¬ tk = 2 := by rw [e1] at hx; exact hx
  obtain ⟨z', k1, k2, k3, k4, k5⟩ := reads_x d gY g3 (by rw [g1]; exact g4) h1 g2 h7
  have hs := pxAt_s hA0 hx
  rw [g1] at k3 k4 k5
  exact ⟨z', k1, ⟨⟨g1, gY, (k2 12 (by decide) (by decide) (by decide) (by decide)).trans g2, g3, g4⟩, ⟨_, _, _, _, hs, k3, k4, k5⟩, (k2 26 (by decide) (by decide) (by decide) (by decide)).trans h10, h11⟩, k2⟩
theorem prR_tl {t : FA} {n : Nat} {x : TT} {r : List TT} {C : List TK} {z : Nat → Int32} {f : Nat → FA} (h : prR t n (x :: r) C z f) (hx : ¬ x.2.1 = 2) : ∃ y r', r = y :: r' := by
  obtain ⟨z', -, h2, -⟩ := prstep h hx 0
  obtain ⟨y, r', e, -⟩ := prR_hd h2
  exact ⟨y, r', e⟩
/-- what reading a sum leaves alone -/
def PRF (z : Nat → Int32) (f : Nat → FA) (z' : Nat → Int32) (f' : Nat → FA) : Prop := (∀ j, j ≠ 13 → j ≠ 14 → j ≠ 15 → j ≠ 16 → j ≠ 26 → z' j = z j) ∧ (∀ k, k ≠ 15 → k ≠ 16 → f' k = f k) ∧ ∀ j, j < 800 → f' 15 j = f 15 j ∧ f' 16 j = f 16 j
theorem PRF.rf {z : Nat → Int32} {f : Nat → FA} : PRF z f z f := ⟨fun _ _ _ _ _ _ => rfl, fun _ _ _ => rfl, fun _ _ => ⟨rfl, rfl⟩⟩
theorem PRF.tr {z1 z2 z3 : Nat → Int32} {f1 f2 f3 : Nat → FA} (h1 : PRF z1 f1 z2 f2) (h2 : PRF z2 f2 z3 f3) : PRF z1 f1 z3 f3 := ⟨fun j a b c e g => (h2.1 j a b c e g).trans (h1.1 j a b c e g), fun k a b => (h2.2.1 k a b).trans (h1.2.1 k a b), fun j hj => ⟨(h2.2.2 j hj).1.trans (h1.2.2 j hj).1, (h2.2.2 j hj).2.trans (h1.2.2 j hj).2⟩⟩
theorem PRF.st {z z' : Nat → Int32} {f : Nat → FA} (h : RDZ z z') : PRF z f z' f := ⟨fun j a b c e _ => h j a b c e, fun _ _ _ => rfl, fun _ _ => ⟨rfl, rfl⟩⟩
/-- one code is written -/
theorem premit {t : FA} {n : Nat} {ts : List TT} {C : List TK} {z : Nat → Int32} {f : Nat → FA} (h : prR t n ts C z f) {o a : Nat} (w v : Int32) (ho : o < 12) (h2 : o ≠ 2) (ha : a < 100000) (hw : w = nI (rcn o)) (hv : o < 2 → v = nI a) (hC : prl C < 400) (d : Nat) : ∃ z' f', mcall (d + 1) 205 [vR 0, vI w, vI v] (LR z f) = some (none, LR z' f') ∧ prR t n ts (C ++ [(o, a)]) z' f' ∧ PRF z f z' f' ∧ ∀ j, j ≠ 26 → z' j = z j := by
  obtain ⟨⟨g1, gY, g2, g3, g4⟩, ⟨pl, nx, tk, v0, hA, h6, h7, h8⟩, h10, h11⟩ := h
  have n26 : ∀ j, j ≠ 26 → uZ z 26 (nI (prl C + 1)) j = z j := fun j hj => uZ_n hj
  have e1 : prl (C ++ [(o, a)]) = prl C + 1 := by
    rw [prl_app]
    show prl C + ((if o = 2 then 2 else 1) + 0) = _
    rw [if_neg h2]
  have key := emits_r d w v z f (prl C) h10 hC
  have f15 : uA (uA f 15 (upd (f 15) (800 + prl C) w)) 16 (upd (f 16) (800 + prl C) v) 15 = upd (f 15) (800 + prl C) w := by rw [uA_ne (by decide), uA_self]
  have f16 : uA (uA f 15 (upd (f 15) (800 + prl C) w)) 16 (upd (f 16) (800 + prl C) v) 16 = upd (f 16) (800 + prl C) v := uA_self _ _ _
  refine ⟨_, _, key, ⟨⟨?_, ?_, ?_, g3, g4⟩, ⟨pl, nx, tk, v0, hA, ?_, ?_, ?_⟩, ?_, ?_⟩, ⟨fun j _ _ _ _ q => n26 j q, fun k q1 q2 => by rw [uA_ne q2, uA_ne q1], fun j hj => ?_⟩, n26⟩
  · rw [uA_ne (by decide), uA_ne (by decide)]; exact g1
  · rw [uA_ne (by decide), uA_ne (by decide)]; exact gY
  · rw [n26 _ (by decide)]; exact g2
  · rw [n26 _ (by decide)]; exact h6
  · rw [n26 _ (by decide)]; exact h7
  · unfold pxR at h8 ⊢
    rw [n26 _ (by decide), n26 _ (by decide)]
    exact h8
  · rw [uZ_s, e1]
  · rw [f15, f16, e1]
    refine tkR_app C _ (800 + prl C) _ (tkR_lo C _ _ (fun k q1 q2 => ⟨pk_un (by omega), pk_un (by omega)⟩) h11) ⟨ho, ha, ?_⟩
    rw [if_neg h2, pk_us, pk_us]
    exact ⟨hw, hv, rfl⟩
  · rw [f15, f16, pk_un (by omega), pk_un (by omega)]
    exact ⟨rfl, rfl⟩
/-- a number becomes a part -/
theorem prpart {t : FA} {n a : Nat} {ts : List TT} {C : List TK} {z : Nat → Int32} {f : Nat → FA} (h : prR t n ts (C ++ [(0, a)]) z f) (hC : prl C + 1 < 400) (d : Nat) : ∃ z' f', mcall (d + 1) 205 [vR 0, vI 5, vI 0] (LR z f) = some (none, LR z' f') ∧ prR t n ts (C ++ [(2, a)]) z' f' ∧ PRF z f z' f' := by
  obtain ⟨⟨g1, gY, g2, g3, g4⟩, ⟨pl, nx, tk, v0, hA, h6, h7, h8⟩, h10, h11⟩ := h
  have e0 : prl (C ++ [(0, a)]) = prl C + 1 := by rw [prl_app]; rfl
  have e1 : prl (C ++ [(2, a)]) = prl C + 1 + 1 := by rw [prl_app]; rfl
  rw [e0] at h10 h11
  have n26 : ∀ j, j ≠ 26 → uZ z 26 (nI (prl C + 1 + 1)) j = z j := fun j hj => uZ_n hj
  have key := emits_r d 5 0 z f (prl C + 1) h10 hC
  have f15 : uA (uA f 15 (upd (f 15) (800 + (prl C + 1)) 5)) 16 (upd (f 16) (800 + (prl C + 1)) 0) 15 = upd (f 15) (800 + (prl C + 1)) 5 := by rw [uA_ne (by decide), uA_self]
  have f16 : uA (uA f 15 (upd (f 15) (800 + (prl C + 1)) 5)) 16 (upd (f 16) (800 + (prl C + 1)) 0) 16 = upd (f 16) (800 + (prl C + 1)) 0 := uA_self _ _ _
  obtain ⟨q1, q2, q3, q4⟩ := tkR_spl C _ _ h11
  rw [if_neg (show ¬ (0 : Nat) = 2 by decide)] at q4
  obtain ⟨q4, q5, q6⟩ := q4
  refine ⟨_, _, key, ⟨⟨?_, ?_, ?_, g3, g4⟩, ⟨pl, nx, tk, v0, hA, ?_, ?_, ?_⟩, ?_, ?_⟩, ⟨fun j _ _ _ _ q => n26 j q, fun k q1 q2 => by rw [uA_ne q2, uA_ne q1], fun j hj => ?_⟩⟩
  · rw [uA_ne (by decide), uA_ne (by decide)]; exact g1
  · rw [uA_ne (by decide), uA_ne (by decide)]; exact gY
  · rw [n26 _ (by decide)]; exact g2
  · rw [n26 _ (by decide)]; exact h6
  · rw [n26 _ (by decide)]; exact h7
  · unfold pxR at h8 ⊢
    rw [n26 _ (by decide), n26 _ (by decide)]
    exact h8
  · rw [uZ_s, e1]
  · rw [f15, f16, e1]
    refine tkR_app C _ (800 + prl C) _ (tkR_lo C _ _ (fun k q1 q2 => ⟨pk_un (by omega), pk_un (by omega)⟩) q1) ⟨by show 2 < 12; decide, q3, ?_⟩
    rw [if_pos rfl, pk_un (by omega), pk_un (by omega), show 800 + prl C + 1 = 800 + (prl C + 1) by omega, pk_us]
    exact ⟨q4, q5 (by show 0 < 2; decide), rfl, by show 800 + prl C + 2 = 800 + (prl C + 1 + 1); omega⟩
  · rw [f15, f16, pk_un (by omega), pk_un (by omega)]
    exact ⟨rfl, rfl⟩
/-- how a reading ends -/
def PMs (K : Option PV × QH FA → Prop) (t : FA) (n : Nat) (C : List TK) (z : Nat → Int32) (f : Nat → FA) (r : PSS) : Prop := match r with
  | .inl e => ∃ z' f', K (some (vI (-1)), LR (uZ (uZ z' 30 (nI e.1)) 31 (nI e.2)) f') ∧ PRF z f z' f'
  | .inr (c, ts) => ∃ z' f', K (some (vI 0), LR z' f') ∧ prR t n ts (C ++ c) z' f' ∧ PRF z f z' f'
theorem PMs.mono {K K' : Option PV × QH FA → Prop} {t : FA} {n : Nat} {C : List TK} {z z1 : Nat → Int32} {f f1 : Nat → FA} {r : PSS} (h : PMs K t n C z1 f1 r) (hk : ∀ res, K res → K' res) (h0 : PRF z f z1 f1) : PMs K' t n C z f r := by
  rcases r with e | ⟨c, ts⟩
  · obtain ⟨z', f', a, b⟩ := h
    exact ⟨z', f', hk _ a, h0.tr b⟩
  · obtain ⟨z', f', a, b, c⟩ := h
    exact ⟨z', f', hk _ a, b, h0.tr c⟩
theorem PMs.pre {K K' : Option PV × QH FA → Prop} {t : FA} {n : Nat} {C c : List TK} {z z1 : Nat → Int32} {f f1 : Nat → FA} {r : PSS} (h : PMs K t n (C ++ c) z1 f1 r) (hk : ∀ res, K res → K' res) (h0 : PRF z f z1 f1) : PMs K' t n C z f (pxp c r) := by
  rcases r with e | ⟨d, ts⟩
  · obtain ⟨z', f', a, b⟩ := h
    exact ⟨z', f', hk _ a, h0.tr b⟩
  · obtain ⟨z', f', a, b, e⟩ := h
    rw [List.append_assoc] at b
    exact ⟨z', f', hk _ a, b, h0.tr e⟩
theorem er_x (d k : Nat) {z : Nat → Int32} {f : Nat → FA} {p : Nat} (h : z 14 = nI p) : mcall (d + 1) 208 [vR 0, vI (nI k)] (LR z f) = some (some (vI (-1)), LR (uZ (uZ z 30 (nI k)) 31 (nI p)) f) := by
  rw [errs_r d (nI k) z f, h]
theorem neg1_0 : ¬ (0 : Int32) = -1 := by decide
theorem prunit {t : FA} {n : Nat} {x : TT} {r : List TT} {C : List TK} {z : Nat → Int32} {f : Nat → FA} (h : prR t n (x :: r) C z f) (hC : prl C < 400) (d : Nat) : PMs (fun res => mcall (d + 4) 266 [vR 0] (LR z f) = some res) t n C z f (match pU 0 x with
    | .inl e => .inl e
    | .inr c => .inr (c, r)) := by
  obtain ⟨a1, a2, a3, a4⟩ := prR_hd2 h
  have go : ∀ res, _ → mcall (d + 4) 266 [vR 0] (LR z f) = some res := fun res H => mcall_i (mq266 (cu := [])).2.2 rfl (vc266_0 d none z f res H)
  have en := pxR_n a2 a3
  have ew := pxR_t a2 a3
  -- a code, and on
  have em : ∀ (o a : Nat) (w v : Int32), o < 2 → a < 100000 → w = nI o → v = nI a → ¬ x.2.1 = 2 → ∃ z1 f1 z2, mcall (d + 3) 205 [vR 0, vI w, vI v] (LR z f) = some (none, LR z1 f1) ∧ mcall (d + 3) 269 [vR 0] (LR z1 f1) = some (none, LR z2 f1) ∧ prR t n r (C ++ [(o, a)]) z2 f1 ∧ PRF z f z2 f1 := fun o a w v ho ha hw hv hx => by
    obtain ⟨z1, f1, b1, b2, b3, b4⟩ := premit h w v (o := o) (a := a) (by omega) (by omega) ha (by rw [hw]; rcases (show o = 0 ∨ o = 1 by omega) with rfl | rfl <;> rfl) (fun _ => hv) hC (d + 2)
    obtain ⟨z2, s1, s2, s3⟩ := prstep b2 hx d
    exact ⟨z1, f1, z2, b1, s1, s2, b3.tr (PRF.st s3)⟩
  unfold pU
  by_cases c1 : x.2.1 = 1
  · rw [if_pos c1, if_neg (fun q : (0 : Nat) = 47 ∧ _ => absurd q.1 (by decide)), if_neg (show ¬ (0 : Nat) = 47 by decide), if_neg (show ¬ (0 : Nat) = 42 by decide)]
    obtain ⟨z1, f1, z2, b1, b2, b3, b4⟩ := em 0 x.2.2 0 (z 16) (by decide) (by have := a4 c1; omega) rfl (a2.2.2.1 c1).2 (by omega)
    refine ⟨z2, f1, go _ ⟨fun _ => ⟨fun _ => ⟨z1, f1, b1, z2, f1, b2, rfl⟩, fun q => absurd (en.mpr c1) q⟩, fun q => ?_⟩, b3, b4⟩
    have := ew.mp q
    omega
  · have n3 : ¬ z 15 = 3 := fun q => c1 (en.mp q)
    rw [if_neg c1]
    by_cases c2 : 303 ≤ x.2.1 ∧ x.2.1 ≤ 312
    · rw [if_pos ⟨by decide, c2⟩, if_neg (show ¬ (0 : Nat) = 42 by decide)]
      obtain ⟨w1, w2⟩ := a2.2.2.2.2 (by omega)
      obtain ⟨p1, p2, p3, p4⟩ := pxr_ask (x.2.1 - 300) (by omega)
      have e16 : pxr (x.2.1 - 300) = x.2.1 - 300 + 4 := p2 (by omega)
      have i16 : I (z 16) = ((x.2.1 - 300 + 4 : Nat) : Int) := by rw [w2, e16]; exact I_nI (by omega)
      have v16 : z 16 - 7 = nI (x.2.1 - 303) := by
        rw [w2, e16, show (7 : Int32) = nI 7 from rfl, nI_sub (by omega), show x.2.1 - 300 + 4 - 7 = x.2.1 - 303 by omega]
      obtain ⟨z1, f1, z2, b1, b2, b3, b4⟩ := em 1 (x.2.1 - 303) 1 (z 16 - 7) (by decide) (by omega) rfl v16 (by omega)
      exact ⟨z2, f1, go _ ⟨fun q => absurd w1 q, fun _ => ⟨fun _ => ⟨z1, f1, b1, z2, f1, b2, rfl⟩, fun q => absurd ⟨by omega, by omega⟩ q⟩⟩, b3, b4⟩
    · rw [if_neg (fun q => c2 q.2)]
      have er := er_x (d + 2) 1 (f := f) a1
      refine ⟨z, f, go _ ⟨fun _ => ⟨fun q => absurd q n3, fun _ => ⟨_, _, _, er, rfl⟩⟩, fun q => ⟨fun q2 => ?_, fun _ => ⟨fun q => absurd q n3, fun _ => ⟨_, _, _, er, rfl⟩⟩⟩⟩, PRF.rf⟩
      have w0 := ew.mp q
      obtain ⟨w1, w2⟩ := a2.2.2.2.2 w0
      have hl := pxtk_lt a3
      obtain ⟨p1, p2, p3, p4⟩ := pxr_ask (x.2.1 - 300) (by omega)
      have hlt := pxr_lt (j := x.2.1 - 300) (by omega)
      have i16 : I (z 16) = ((pxr (x.2.1 - 300) : Nat) : Int) := by rw [w2]; exact I_nI (by omega)
      have := p1.mp ⟨by omega, by omega⟩
      omega
theorem prunit1 {t : FA} {n : Nat} {x : TT} {r : List TT} {C : List TK} {z : Nat → Int32} {f : Nat → FA} {e : Nat × Nat} (h : prR t n (x :: r) C z f) (hu : pU 0 x = .inl e) (d : Nat) : ∃ z' f', mcall (d + 4) 266 [vR 0] (LR z f) = some (some (vI (-1)), LR (uZ (uZ z' 30 (nI e.1)) 31 (nI e.2)) f') ∧ PRF z f z' f' := by
  obtain ⟨a1, a2, a3, a4⟩ := prR_hd2 h
  have go : ∀ res, _ → mcall (d + 4) 266 [vR 0] (LR z f) = some res := fun res H => mcall_i (mq266 (cu := [])).2.2 rfl (vc266_0 d none z f res H)
  have en := pxR_n a2 a3
  have ew := pxR_t a2 a3
  unfold pU at hu
  by_cases c1 : x.2.1 = 1
  · rw [if_pos c1, if_neg (fun q : (0 : Nat) = 47 ∧ _ => absurd q.1 (by decide))] at hu
    cases hu
  · have n3 : ¬ z 15 = 3 := fun q => c1 (en.mp q)
    rw [if_neg c1] at hu
    by_cases c2 : 303 ≤ x.2.1 ∧ x.2.1 ≤ 312
    · rw [if_pos ⟨by decide, c2⟩] at hu
      cases hu
    · rw [if_neg (fun q => c2 q.2)] at hu
      have hu := Sum.inl.inj hu
      subst hu
      have er := er_x (d + 2) 1 (f := f) a1
      refine ⟨z, f, go _ ⟨fun _ => ⟨fun q => absurd q n3, fun _ => ⟨_, _, _, er, rfl⟩⟩, fun q => ⟨fun q2 => ?_, fun _ => ⟨fun q => absurd q n3, fun _ => ⟨_, _, _, er, rfl⟩⟩⟩⟩, PRF.rf⟩
      have w0 := ew.mp q
      obtain ⟨w1, w2⟩ := a2.2.2.2.2 w0
      have hl := pxtk_lt a3
      obtain ⟨p1, p2, p3, p4⟩ := pxr_ask (x.2.1 - 300) (by omega)
      have hlt := pxr_lt (j := x.2.1 - 300) (by omega)
      have i16 : I (z 16) = ((pxr (x.2.1 - 300) : Nat) : Int) := by rw [w2]; exact I_nI (by omega)
      have := p1.mp ⟨by omega, by omega⟩
      omega
/-- T behind a joint -/
def pxP : List TT → Nat → PSS
  | [], _ => .inl (0, 0)
  | [x], j => match pU j x with
    | .inl e => .inl e
    | .inr c => .inr (c, [])
  | x :: y :: r, j => match pU j x with
    | .inl e => .inl e
    | .inr c => if y.2.1 = 42 ∨ y.2.1 = 47 then pxp c (pxP r y.2.1) else .inr (c, y :: r)
def pQy (y : TT) (r : List TT) : PSS := if y.2.1 = 42 ∨ y.2.1 = 47 then pxP r y.2.1 else .inr ([], y :: r)
theorem pxP_c {x y : TT} {r : List TT} {j : Nat} {c : List TK} (h : pU j x = .inr c) : pxP (x :: y :: r) j = pxp c (pQy y r) := by
  rw [pxP, h]
  unfold pQy
  by_cases c1 : y.2.1 = 42 ∨ y.2.1 = 47
  · rw [if_pos c1]
    exact if_pos c1
  · rw [if_neg c1]
    refine (if_neg c1).trans ?_
    show (Sum.inr (c, y :: r) : PSS) = .inr (c ++ [], y :: r)
    rw [List.append_nil]
theorem pxP_e {x : TT} {r : List TT} {j : Nat} {e : Nat × Nat} (h : pU j x = .inl e) : pxP (x :: r) j = .inl e := by
  cases r with
  | nil => rw [pxP, h]
  | cons y r => rw [pxP, h]
def pW (y : TT) (r : List TT) : PSS := if y.2.1 = 43 then pxf r 4 y.2.1 else if y.2.1 = 45 then pxf r 5 y.2.1 else .inr ([], y :: r)
theorem pxp_p {c d : List TK} {p : PSS} : pxp c (pxp d p) = pxp (c ++ d) p := by
  rcases p with e | ⟨a, r⟩
  · rfl
  · show (Sum.inr (c ++ (d ++ a), r) : PSS) = .inr (c ++ d ++ a, r)
    rw [List.append_assoc]
/-- a sum is a product, and what follows -/
theorem pxf_P : ∀ (m : Nat) (ts : List TT), ts.length ≤ m → ∀ (s j : Nat), (∀ e, pxP ts j = .inl e → pxf ts s j = .inl e) ∧ (∀ c y r, pxP ts j = .inr (c, y :: r) → pxf ts s j = pxp (c ++ psc s) (pW y r)) := by
  intro m
  induction m with
  | zero =>
    intro ts hm s j
    cases ts with
    | nil => exact ⟨fun e h => h, fun c y r h => by cases h⟩
    | cons x r' => exact absurd hm (Nat.not_succ_le_zero _)
  | succ m ih =>
    intro ts hm s j
    match ts with
    | [] => exact ⟨fun e h => h, fun c y r h => by cases h⟩
    | [x] =>
      cases hu : pU j x with
      | inl e =>
        rw [pxP_e hu]
        exact ⟨fun e' h => by rw [pxf_7 hu, ← h], fun c y r h => by cases h⟩
      | inr c0 =>
        rw [pxP, hu]
        exact ⟨fun e h => (by cases h), fun c y r h => by have := congrArg Prod.snd (Sum.inr.inj h); cases this⟩
    | x :: y :: r0 =>
      have hm : r0.length + 1 + 1 ≤ m + 1 := hm
      cases hu : pU j x with
      | inl e =>
        rw [pxP_e hu]
        exact ⟨fun e' h => by rw [pxf_1 hu, ← h], fun c y r h => by cases h⟩
      | inr c0 =>
        rw [pxP_c hu]
        unfold pQy
        by_cases c1 : y.2.1 = 42 ∨ y.2.1 = 47
        · rw [if_pos c1, pxf_2 hu c1]
          obtain ⟨i1, i2⟩ := ih r0 (by omega) s y.2.1
          refine ⟨fun e h => ?_, fun c y' r h => ?_⟩
          · rw [i1 e (pxp_inl h)]
            rfl
          · obtain ⟨d, h1, rfl⟩ := pxp_inr h
            rw [i2 d y' r h1, pxp_p, List.append_assoc]
        · rw [if_neg c1]
          refine ⟨fun e h => (by cases h), fun c y' r h => ?_⟩
          have h := Sum.inr.inj h
          have e1 : c0 ++ [] = c := congrArg Prod.fst h
          have e2 : y :: r0 = y' :: r := congrArg Prod.snd h
          obtain ⟨e3, e4⟩ := List.cons.inj e2
          rw [List.append_nil] at e1
          subst e1 e3 e4
          unfold pW
          by_cases c2 : y.2.1 = 43
          · rw [pxf_3 hu c2, if_pos c2]
          · rw [if_neg c2]
            by_cases c3 : y.2.1 = 45
            · rw [pxf_4 hu c3, if_pos c3]
            · rw [pxf_5 hu c1 c2 c3, if_neg c3]
              show _ = (Sum.inr (c0 ++ psc s ++ [], y :: r0) : PSS)
              rw [List.append_nil]
theorem pxP_len : ∀ (m : Nat) (ts : List TT), ts.length ≤ m → ∀ (j : Nat) (c : List TK) (r : List TT), pxP ts j = .inr (c, r) → prl c + r.length ≤ ts.length + pwt j ∧ r.length < ts.length := by
  intro m
  induction m with
  | zero =>
    intro ts hm j c r h
    cases ts with
    | nil => cases h
    | cons x r' => exact absurd hm (Nat.not_succ_le_zero _)
  | succ m ih =>
    intro ts hm j c r h
    match ts with
    | [] => cases h
    | [x] =>
      cases hu : pU j x with
      | inl e => rw [pxP_e hu] at h; cases h
      | inr c0 =>
        rw [pxP, hu] at h
        have h := Sum.inr.inj h
        have e1 : c0 = c := congrArg Prod.fst h
        have e2 : [] = r := congrArg Prod.snd h
        subst e1 e2
        rw [pU_len hu]
        show 1 + pwt j + 0 ≤ 1 + pwt j ∧ 0 < 1
        omega
    | x :: y :: r0 =>
      have hm : r0.length + 1 + 1 ≤ m + 1 := hm
      show prl c + r.length ≤ r0.length + 1 + 1 + pwt j ∧ r.length < r0.length + 1 + 1
      cases hu : pU j x with
      | inl e => rw [pxP_e hu] at h; cases h
      | inr c0 =>
        have hl := pU_len hu
        rw [pxP_c hu] at h
        obtain ⟨d, h1, rfl⟩ := pxp_inr h
        unfold pQy at h1
        rw [prl_app]
        by_cases c1 : y.2.1 = 42 ∨ y.2.1 = 47
        · rw [if_pos c1] at h1
          obtain ⟨g1, g2⟩ := ih r0 (by omega) _ d r h1
          have : pwt y.2.1 = 1 := if_pos c1
          omega
        · rw [if_neg c1] at h1
          have h := Sum.inr.inj h1
          have e1 : [] = d := congrArg Prod.fst h
          have e2 : y :: r0 = r := congrArg Prod.snd h
          subst e1 e2
          show prl c0 + 0 + (r0.length + 1) ≤ _ ∧ r0.length + 1 < _
          omega
theorem pU_42 (x : TT) : pU 42 x = match pU 0 x with
    | .inl e => .inl e
    | .inr c => .inr (c ++ [(6, 0)]) := by
  unfold pU
  rw [if_neg (fun q : (42 : Nat) = 47 ∧ _ => absurd q.1 (by decide)), if_neg (fun q : (0 : Nat) = 47 ∧ _ => absurd q.1 (by decide)), if_neg (show ¬ (42 : Nat) = 47 by decide), if_neg (show ¬ (0 : Nat) = 47 by decide), if_pos (rfl : (42 : Nat) = 42), if_neg (show ¬ (0 : Nat) = 42 by decide)]
  by_cases c : x.2.1 = 1
  · rw [if_pos c, if_pos c]
    rfl
  · rw [if_neg c, if_neg c]
    by_cases c2 : 303 ≤ x.2.1 ∧ x.2.1 ≤ 312
    · rw [if_pos ⟨by decide, c2⟩, if_pos ⟨by decide, c2⟩]
      rfl
    · rw [if_neg (fun q => c2 q.2), if_neg (fun q => c2 q.2)]
theorem pprod {t : FA} {n : Nat} (d : Nat) : ∀ (m : Nat) (y : TT) (r : List TT), r.length < m → ∀ (C : List TK) (z : Nat → Int32) (f : Nat → FA) (o1 : Option PV), prR t n (y :: r) C z f → prl C + r.length + 1 ≤ 401 → PMs (fun res => RC (mcall (d + 4)) (mP 259) 6 [some (vR 0), o1] [] (LR z f) res) t n C z f (pQy y r) := by
  intro m
  induction m with
  | zero => intro y r hm; omega
  | succ m ih =>
    intro y r hm C z f o1 h hb
    obtain ⟨a1, a2, a3, a4⟩ := prR_hd2 h
    have e42 := pxR_s a2 a3 42 (by decide) (by decide)
    have e47 := pxR_s a2 a3 47 (by decide) (by decide)
    have go : ∀ res, _ → RC (mcall (d + 4)) (mP 259) 6 [some (vR 0), o1] [] (LR z f) res := fun res H => vcc6_259_6 d o1 z f res H
    unfold pQy
    by_cases c1 : y.2.1 = 42
    · have y42 := e42.mpr c1
      rw [if_pos (Or.inl c1), c1]
      obtain ⟨z1, s1, s2, s3⟩ := prstep h (by omega) (d + 1)
      obtain ⟨x, r, rfl, -⟩ := prR_hd s2
      have hb : prl C + (r.length + 1) + 1 ≤ 401 := hb
      have hm : r.length + 1 < m + 1 := hm
      have u := prunit s2 (by omega) d
      have u42 := pU_42 x
      cases hu : pU 0 x with
      | inl e =>
        rw [hu] at u u42
        rw [pxP_e u42]
        obtain ⟨z2, f2, b1, b2⟩ := u
        exact ⟨z2, f2, go _ ⟨fun _ => ⟨z1, f, s1, _, _, _, b1, fun q => absurd rfl q, fun _ => rfl⟩, fun q => absurd y42 q⟩, (PRF.st s3).tr b2⟩
      | inr c =>
        rw [hu] at u u42
        obtain ⟨z2, f2, b1, b2, b3⟩ := u
        obtain ⟨y2, r2, rfl, -⟩ := prR_hd b2
        have hl := pU_len hu
        have hl : prl c = 1 + 0 := hl
        have hb : prl C + (r2.length + 1 + 1) + 1 ≤ 401 := hb
        have hm : r2.length + 1 + 1 < m + 1 := hm
        rw [pxP_c u42]
        obtain ⟨z3, f3, m1, m2, m3, m4⟩ := premit b2 4 0 (o := 6) (a := 0) (by decide) (by decide) (by decide) rfl (fun q => absurd q (by decide)) (by rw [prl_app]; omega) (d + 3)
        rw [List.append_assoc] at m2
        have k := ih y2 r2 (by omega) (C ++ (c ++ [(6, 0)])) z3 f3 (some (vI (bI (z 15 = 4 ∧ z 16 = 42)))) m2 (by rw [prl_app, prl_app, show prl [(6, 0)] = 1 from rfl]; omega)
        exact k.pre (fun res hr => go _ ⟨fun _ => ⟨z1, f, s1, _, _, _, b1, fun _ => ⟨z3, f3, m1, hr⟩, fun q => absurd q neg1_0⟩, fun q => absurd y42 q⟩) (((PRF.st s3).tr b3).tr m3)
    · have n42 : ¬ (z 15 = 4 ∧ z 16 = 42) := fun q => c1 (e42.mp q)
      by_cases c2 : y.2.1 = 47
      · have y47 := e47.mpr c2
        rw [if_pos (Or.inr c2), c2]
        obtain ⟨z1, s1, s2, s3⟩ := prstep h (by omega) (d + 1)
        obtain ⟨x, r, rfl, -⟩ := prR_hd s2
        obtain ⟨x1, x2, x3, x4⟩ := prR_hd2 s2
        have hb : prl C + (r.length + 1) + 1 ≤ 401 := hb
        have hm : r.length + 1 < m + 1 := hm
        have en := pxR_n x2 x3
        by_cases c3 : x.2.1 = 1
        · have z3 := en.mpr c3
          have v16 := (x2.2.2.1 c3).2
          by_cases c4 : x.2.2 = 0
          · have hu : pU 47 x = .inl (2, x.1) := by
              unfold pU
              rw [if_pos c3, if_pos ⟨rfl, c4⟩]
            rw [pxP_e hu]
            refine ⟨z1, f, go _ ⟨fun q => absurd q n42, fun _ => ⟨fun _ => ⟨z1, f, s1, fun _ => ⟨fun q => ?_, fun _ => ⟨_, _, _, er_x (d + 3) 2 x1, rfl⟩⟩, fun q => absurd z3 q⟩, fun q => absurd y47 q⟩⟩, PRF.st s3⟩
            exact absurd (by rw [v16, c4]; rfl) q
          · have hu : pU 47 x = .inr [(2, x.2.2)] := by
              unfold pU
              rw [if_pos c3, if_neg (fun q => c4 q.2)]
              rfl
            have hu0 : pU 0 x = .inr [(0, x.2.2)] := by
              unfold pU
              rw [if_pos c3, if_neg (fun q : (0 : Nat) = 47 ∧ _ => absurd q.1 (by decide))]
              rfl
            have u := prunit s2 (by omega) d
            rw [hu0] at u
            obtain ⟨z2, f2, b1, b2, b3⟩ := u
            obtain ⟨y2, r2, rfl, -⟩ := prR_hd b2
            have hb : prl C + (r2.length + 1 + 1) + 1 ≤ 401 := hb
            have hm : r2.length + 1 + 1 < m + 1 := hm
            rw [pxP_c hu]
            obtain ⟨z3', f3, m1, m2, m3⟩ := prpart b2 (by omega) (d + 3)
            have k := ih y2 r2 (by omega) (C ++ [(2, x.2.2)]) z3' f3 (some (vI (bI (z 15 = 4 ∧ z 16 = 42)))) m2 (by rw [prl_app, show prl [(2, x.2.2)] = 2 from rfl]; omega)
            refine k.pre (fun res hr => go _ ⟨fun q => absurd q n42, fun _ => ⟨fun _ => ⟨z1, f, s1, fun _ => ⟨fun _ => ⟨_, _, _, b1, fun _ => ⟨z3', f3, m1, hr⟩, fun q => absurd q neg1_0⟩, fun q => ?_⟩, fun q => absurd z3 q⟩, fun q => absurd y47 q⟩⟩) (((PRF.st s3).tr b3).tr m3)
            rw [v16] at q
            exact absurd (nI_inj (a := x.2.2) (b := 0) (by have := x4 c3; omega) (by omega) q) c4
        · have hu : pU 47 x = .inl (1, x.1) := by
            unfold pU
            rw [if_neg c3, if_neg (fun q => q.1 rfl)]
          rw [pxP_e hu]
          exact ⟨z1, f, go _ ⟨fun q => absurd q n42, fun _ => ⟨fun _ => ⟨z1, f, s1, fun q => absurd (en.mp q) c3, fun _ => ⟨_, _, _, er_x (d + 3) 1 x1, rfl⟩⟩, fun q => absurd y47 q⟩⟩, PRF.st s3⟩
      · have n47 : ¬ (z 15 = 4 ∧ z 16 = 47) := fun q => c2 (e47.mp q)
        rw [if_neg (fun q => q.elim c1 c2)]
        refine ⟨z, f, go _ ⟨fun q => absurd q n42, fun _ => ⟨fun q => absurd q n47, fun _ => rfl⟩⟩, ?_, PRF.rf⟩
        rw [List.append_nil]
        exact h
theorem prprod {t : FA} {n : Nat} (d : Nat) {ts : List TT} {C : List TK} {z : Nat → Int32} {f : Nat → FA} (h : prR t n ts C z f) (hb : prl C + ts.length ≤ 401) (h1 : 1 < ts.length ∨ ∃ e, pxP ts 0 = .inl e) : PMs (fun res => mcall (d + 5) 259 [vR 0] (LR z f) = some res) t n C z f (pxP ts 0) := by
  obtain ⟨x, r, rfl, -⟩ := prR_hd h
  have hb : prl C + (r.length + 1) ≤ 401 := hb
  have go : ∀ res, _ → mcall (d + 5) 259 [vR 0] (LR z f) = some res := fun res H => mcall_i (mq259 (cu := [])).2.2 rfl (vc259_0 d none z f res H)
  cases hu : pU 0 x with
  | inl e =>
    rw [pxP_e hu]
    have u := prunit1 h hu d
    obtain ⟨z2, f2, b1, b2⟩ := u
    exact ⟨z2, f2, go _ ⟨_, _, _, b1, fun q => absurd rfl q, fun _ => rfl⟩, b2⟩
  | inr c =>
    have hr : 1 < r.length + 1 := by
      rcases h1 with h1 | ⟨e, h1⟩
      · exact h1
      · cases r with
        | nil => rw [pxP, hu] at h1; cases h1
        | cons y r => show 1 < r.length + 1 + 1; omega
    have u := prunit h (by omega) d
    rw [hu] at u
    obtain ⟨z2, f2, b1, b2, b3⟩ := u
    obtain ⟨y2, r2, rfl, -⟩ := prR_hd b2
    have hl := pU_len hu
    have hl : prl c = 1 + 0 := hl
    have hb : prl C + (r2.length + 1 + 1) ≤ 401 := hb
    rw [pxP_c hu]
    have k := pprod d (r2.length + 1) y2 r2 (by omega) (C ++ c) z2 f2 none b2 (by rw [prl_app]; omega)
    exact k.pre (fun res hr => go _ ⟨_, _, _, b1, fun _ => hr, fun q => absurd q neg1_0⟩) b3
theorem prsumW {t : FA} {n : Nat} (d : Nat) : ∀ (m : Nat) (y : TT) (r : List TT), r.length < m → ∀ (C : List TK) (z : Nat → Int32) (f : Nat → FA) (o1 : Option PV), prR t n (y :: r) C z f → prl C + r.length + 1 ≤ 401 → PMs (fun res => RC (mcall (d + 5)) (mP 262) 6 [some (vR 0), o1] [] (LR z f) res) t n C z f (pW y r) := by
  intro m
  induction m with
  | zero => intro y r hm; omega
  | succ m ih =>
    intro y r hm C z f o1 h hb
    obtain ⟨a1, a2, a3, a4⟩ := prR_hd2 h
    have e43 := pxR_s a2 a3 43 (by decide) (by decide)
    have e45 := pxR_s a2 a3 45 (by decide) (by decide)
    -- from the sign on
    have loop : ∀ (s : Nat) (w : Int32), (s = 4 ∨ s = 5) → w = nI (rcn s) → ¬ y.2.1 = 2 → PMs (fun res => RC (mcall (d + 5)) (mP 262) 22 [some (vR 0), some (vI w)] [] (LR z f) res) t n C z f (pxf r s 0) := by
      intro s w hs hw hy
      obtain ⟨z1, s1, s2, s3⟩ := prstep h hy (d + 2)
      obtain ⟨x, r, rfl, -⟩ := prR_hd s2
      have hb : prl C + (r.length + 1) + 1 ≤ 401 := hb
      have hm : r.length + 1 < m + 1 := hm
      have go : ∀ res, _ → RC (mcall (d + 5)) (mP 262) 22 [some (vR 0), some (vI w)] [] (LR z f) res := fun res H => vcc22_262_22 d w z f res H
      have u := prprod d s2 (by show prl C + (r.length + 1) ≤ 401; omega)
      obtain ⟨i1, i2⟩ := pxf_P _ (x :: r) (Nat.le_refl _) s 0
      cases hp : pxP (x :: r) 0 with
      | inl e =>
        rw [i1 e hp]
        have u := u (Or.inr ⟨e, hp⟩)
        rw [hp] at u
        obtain ⟨z2, f2, b1, b2⟩ := u
        exact ⟨z2, f2, go _ ⟨z1, f, s1, _, _, _, b1, fun q => absurd rfl q, fun _ => rfl⟩, (PRF.st s3).tr b2⟩
      | inr p =>
        obtain ⟨c, q⟩ := p
        obtain ⟨l1, l2⟩ := pxP_len _ (x :: r) (Nat.le_refl _) 0 c q hp
        have l1 : prl c + q.length ≤ r.length + 1 + 0 := l1
        have l2 : q.length < r.length + 1 := l2
        have hr : 1 < (x :: r).length := by
          cases r with
          | nil =>
            exfalso
            have hx2 : ¬ x.2.1 = 2 := fun k => by
              cases hu : pU 0 x with
              | inl e => rw [pxP_e hu] at hp; cases hp
              | inr c1 =>
                unfold pU at hu
                rw [if_neg (show ¬ x.2.1 = 1 by omega), if_neg (fun q => by omega)] at hu
                cases hu
            obtain ⟨y', r', e⟩ := prR_tl s2 hx2
            cases e
          | cons y' r' => show 1 < r'.length + 1 + 1; omega
        have u := u (Or.inl hr)
        rw [hp] at u
        obtain ⟨z2, f2, b1, b2, b3⟩ := u
        obtain ⟨y2, r2, rfl, -⟩ := prR_hd b2
        have l1 : prl c + (r2.length + 1) ≤ r.length + 1 + 0 := l1
        have l2 : r2.length + 1 < r.length + 1 := l2
        rw [i2 c y2 r2 hp]
        obtain ⟨z3, f3, m1, m2, m3, m4⟩ := premit b2 w 0 (o := s) (a := 0) (by omega) (by omega) (by decide) hw (fun q => by omega) (by rw [prl_app]; omega) (d + 4)
        rw [List.append_assoc, show c ++ [(s, 0)] = c ++ psc s from by rw [show psc s = [(s, 0)] from if_neg (by omega)]] at m2
        have ps1 : prl (psc s) = 1 := by
          rw [psc_len s (by omega)]
          exact if_neg (by omega)
        have k := ih y2 r2 (by omega) (C ++ (c ++ psc s)) z3 f3 (some (vI w)) m2 (by rw [prl_app, prl_app, ps1]; omega)
        exact k.pre (fun res hr => go _ ⟨z1, f, s1, _, _, _, b1, fun _ => ⟨z3, f3, m1, hr⟩, fun q => absurd q neg1_0⟩) (((PRF.st s3).tr b3).tr m3)
    have go : ∀ res, _ → RC (mcall (d + 5)) (mP 262) 6 [some (vR 0), o1] [] (LR z f) res := fun res H => vcc6_262_6 d o1 z f res H
    unfold pW
    by_cases c1 : y.2.1 = 43
    · have y43 := e43.mpr c1
      rw [if_pos c1, pxf_j (by omega) (by omega)]
      exact (loop 4 2 (Or.inl rfl) rfl (by omega)).mono (fun res hr => go _ ⟨fun _ => hr, fun q => absurd y43 q⟩) PRF.rf
    · have n43 : ¬ (z 15 = 4 ∧ z 16 = 43) := fun q => c1 (e43.mp q)
      rw [if_neg c1]
      by_cases c2 : y.2.1 = 45
      · have y45 := e45.mpr c2
        rw [if_pos c2, pxf_j (by omega) (by omega)]
        refine (loop 5 3 (Or.inr rfl) rfl (by omega)).mono (fun res hr => go _ ⟨fun q => absurd q n43, fun _ => ⟨fun _ => ⟨fun _ => hr, fun q => ?_⟩, fun q => absurd y45 q⟩⟩) PRF.rf
        exact absurd ⟨y45.1, q⟩ n43
      · rw [if_neg c2]
        refine ⟨z, f, go _ ⟨fun q => absurd q n43, fun _ => ⟨fun q => absurd (e45.mp q) c2, fun _ => rfl⟩⟩, ?_, PRF.rf⟩
        rw [List.append_nil]
        exact h
theorem prsum {t : FA} {n : Nat} (d : Nat) {ts : List TT} {C : List TK} {z : Nat → Int32} {f : Nat → FA} (h : prR t n ts C z f) (hb : prl C + ts.length ≤ 401) : PMs (fun res => mcall (d + 6) 262 [vR 0] (LR z f) = some res) t n C z f (pxf ts 0 0) := by
  obtain ⟨x, r, rfl, -⟩ := prR_hd h
  have hb : prl C + (r.length + 1) ≤ 401 := hb
  have go : ∀ res, _ → mcall (d + 6) 262 [vR 0] (LR z f) = some res := fun res H => mcall_i (mq262 (cu := [])).2.2 rfl (vc262_0 d none z f res H)
  have u := prprod d h (by show prl C + (r.length + 1) ≤ 401; omega)
  obtain ⟨i1, i2⟩ := pxf_P _ (x :: r) (Nat.le_refl _) 0 0
  cases hp : pxP (x :: r) 0 with
  | inl e =>
    rw [i1 e hp]
    have u := u (Or.inr ⟨e, hp⟩)
    rw [hp] at u
    obtain ⟨z2, f2, b1, b2⟩ := u
    exact ⟨z2, f2, go _ ⟨_, _, _, b1, fun q => absurd rfl q, fun _ => rfl⟩, b2⟩
  | inr p =>
    obtain ⟨c, q⟩ := p
    obtain ⟨l1, l2⟩ := pxP_len _ (x :: r) (Nat.le_refl _) 0 c q hp
    have l1 : prl c + q.length ≤ r.length + 1 + 0 := l1
    have l2 : q.length < r.length + 1 := l2
    have hr : 1 < (x :: r).length := by
      cases r with
      | nil =>
        exfalso
        have hx2 : ¬ x.2.1 = 2 := fun k => by
          cases hu : pU 0 x with
          | inl e => rw [pxP_e hu] at hp; cases hp
          | inr c1 =>
            unfold pU at hu
            rw [if_neg (show ¬ x.2.1 = 1 by omega), if_neg (fun q => by omega)] at hu
            cases hu
        obtain ⟨y', r', e⟩ := prR_tl h hx2
        cases e
      | cons y' r' => show 1 < r'.length + 1 + 1; omega
    have u := u (Or.inl hr)
    rw [hp] at u
    obtain ⟨z2, f2, b1, b2, b3⟩ := u
    obtain ⟨y2, r2, rfl, -⟩ := prR_hd b2
    have l1 : prl c + (r2.length + 1) ≤ r.length + 1 + 0 := l1
    rw [i2 c y2 r2 hp, show c ++ psc 0 = c from List.append_nil c]
    have k := prsumW d (r2.length + 1) y2 r2 (by omega) (C ++ c) z2 f2 none b2 (by rw [prl_app]; omega)
    exact k.pre (fun res hr => go _ ⟨_, _, _, b1, fun _ => hr, fun q => absurd q neg1_0⟩) b3
theorem prcmp {t : FA} {n : Nat} (d : Nat) {ts : List TT} {C : List TK} {z : Nat → Int32} {f : Nat → FA} (h : prR t n ts C z f) (hb : prl C + ts.length ≤ 401) : PMs (fun res => mcall (d + 7) 252 [vR 0] (LR z f) = some res) t n C z f (pC ts) := by
  have go : ∀ res, _ → mcall (d + 7) 252 [vR 0] (LR z f) = some res := fun res H => mcall_i (mq252 (cu := [])).2.2 rfl (vc252_0 d none z f res H)
  have k1 := prsum d h hb
  cases h1 : pxf ts 0 0 with
  | inl e =>
    rw [pC_1 h1]
    rw [h1] at k1
    obtain ⟨z1, f1, b1, b2⟩ := k1
    exact ⟨z1, f1, go _ ⟨_, _, _, b1, fun q => absurd rfl q, fun _ => rfl⟩, b2⟩
  | inr p =>
    obtain ⟨c, q⟩ := p
    rw [h1] at k1
    obtain ⟨z1, f1, b1, b2, b3⟩ := k1
    obtain ⟨y, q, rfl, -⟩ := prR_hd b2
    obtain ⟨y1, y2, y3, y4⟩ := prR_hd2 b2
    obtain ⟨l1, l2⟩ := pxf_len _ ts (Nat.le_refl _) 0 0 c _ (Or.inl rfl) h1
    have l1 : prl c + (q.length + 1) ≤ ts.length + 0 + 0 := l1
    have l2 : q.length + 1 < ts.length := l2
    have e60 := pxR_s y2 y3 60 (by decide) (by decide)
    have e61 := pxR_s y2 y3 61 (by decide) (by decide)
    have e62 := pxR_s y2 y3 62 (by decide) (by decide)
    by_cases c1 : y.2.1 = 60 ∨ y.2.1 = 61 ∨ y.2.1 = 62
    · obtain ⟨z2, s1, s2, s3⟩ := prstep b2 (by omega) (d + 3)
      have k2 := prsum d s2 (by rw [prl_app]; omega)
      -- behind the sign
      have fin : ∀ (w : Int32), w = nI (rcn (y.2.1 - 53)) → PMs (fun res => RC (mcall (d + 6)) (mP 252) 36 [some (vR 0), some (vI w)] [] (LR z1 f1) res) t n C z f (pC ts) := by
        intro w hw
        have go36 : ∀ res, _ → RC (mcall (d + 6)) (mP 252) 36 [some (vR 0), some (vI w)] [] (LR z1 f1) res := fun res H => vcc36_252_36 d w z1 f1 res H
        cases h2 : pxf q 0 0 with
        | inl e =>
          rw [pC_3 h1 c1 h2]
          rw [h2] at k2
          obtain ⟨z3, f3, g1, g2⟩ := k2
          exact ⟨z3, f3, go36 _ ⟨z2, f1, s1, _, _, _, g1, fun q => absurd rfl q, fun _ => rfl⟩, (b3.tr (PRF.st s3)).tr g2⟩
        | inr p2 =>
          obtain ⟨c', r'⟩ := p2
          rw [pC_4 h1 c1 h2]
          rw [h2] at k2
          obtain ⟨z3, f3, g1, g2, g3⟩ := k2
          obtain ⟨l3, l4⟩ := pxf_len _ q (Nat.le_refl _) 0 0 c' _ (Or.inl rfl) h2
          have l3 : prl c' + r'.length ≤ q.length + 0 + 0 := l3
          have hr' : 0 < r'.length := by
            obtain ⟨y', q', e', -⟩ := prR_hd g2
            rw [e']
            exact Nat.succ_pos _
          obtain ⟨z4, f4, m1, m2, m3, m4⟩ := premit g2 w 0 (o := y.2.1 - 53) (a := 0) (by omega) (by omega) (by decide) hw (fun q => by omega) (by rw [prl_app, prl_app]; omega) (d + 5)
          refine ⟨z4, f4, go36 _ ⟨z2, f1, s1, _, _, _, g1, fun _ => ⟨z4, f4, m1, rfl⟩, fun q => absurd q neg1_0⟩, ?_, ((b3.tr (PRF.st s3)).tr g3).tr m3⟩
          rw [← List.append_assoc, ← List.append_assoc]
          exact m2
      have no : ∀ {a b : Nat}, a < 100 → b < 100 → a ≠ b → (z1 15 = 4 ∧ z1 16 = nI a) → ¬ z1 16 = nI b := fun ha hb hn q1 q2 => hn (nI_inj (by omega) (by omega) (q1.2.symm.trans q2))
      rcases c1 with c1 | c1 | c1
      · have y60 := e60.mpr c1
        exact (fin 6 (by rw [c1]; rfl)).mono (fun res hr => go _ ⟨_, _, _, b1, fun _ => ⟨fun _ => hr, fun q => absurd y60 q⟩, fun q => absurd q neg1_0⟩) PRF.rf
      · have y61 := e61.mpr c1
        have n60 := no (a := 61) (b := 60) (by decide) (by decide) (by decide) y61
        exact (fin 7 (by rw [c1]; rfl)).mono (fun res hr => go _ ⟨_, _, _, b1, fun _ => ⟨fun q => absurd q.2 n60, fun _ => ⟨fun _ => ⟨fun _ => hr, fun q => absurd q n60⟩, fun q => absurd y61 q⟩⟩, fun q => absurd q neg1_0⟩) PRF.rf
      · have y62 := e62.mpr c1
        have n60 := no (a := 62) (b := 60) (by decide) (by decide) (by decide) y62
        have n61 := no (a := 62) (b := 61) (by decide) (by decide) (by decide) y62
        exact (fin 8 (by rw [c1]; rfl)).mono (fun res hr => go _ ⟨_, _, _, b1, fun _ => ⟨fun q => absurd q.2 n60, fun _ => ⟨fun q => absurd q.2 n61, fun _ => ⟨fun _ => ⟨fun _ => ⟨fun _ => hr, fun q => absurd q n61⟩, fun q => absurd q n60⟩, fun q => absurd y62 q⟩⟩⟩, fun q => absurd q neg1_0⟩) PRF.rf
    · rw [pC_2 h1 c1]
      exact ⟨z1, f1, go _ ⟨_, _, _, b1, fun _ => ⟨fun q => absurd (Or.inl (e60.mp q)) c1, fun _ => ⟨fun q => absurd (Or.inr (Or.inl (e61.mp q))) c1, fun _ => ⟨fun q => absurd (Or.inr (Or.inr (e62.mp q))) c1, fun _ => ⟨_, _, _, er_x (d + 5) 1 y1, rfl⟩⟩⟩⟩, fun q => absurd q neg1_0⟩, b3⟩
