/-! two readers of one tape: what they keep is alike -/
section TapeE
variable {t t' : FA} {n : Nat}
theorem pxK_e (h : ∀ j, j < n → t' j = t j) (q : Int32 → Bool) : ∀ k a, pxK q t' n k a = pxK q t n k a := by
  intro k
  induction k with
  | zero => intro a; rfl
  | succ k ih =>
    intro a
    show (if a < n ∧ q (t' a) = true then pxK q t' n k (a + 1) else a) = if a < n ∧ q (t a) = true then pxK q t n k (a + 1) else a
    rw [ih]
    by_cases c : a < n
    · rw [h a c]
    · rw [if_neg (fun x => c x.1), if_neg (fun x => c x.1)]
theorem pxm_e (h : ∀ j, j < n → t' j = t j) : ∀ (w : List Int32) (a : Nat), a + w.length ≤ n → pxm t' w a = pxm t w a := by
  intro w
  induction w with
  | nil => intro a _; rfl
  | cons c w ih =>
    intro a ha
    have ha : a + (w.length + 1) ≤ n := ha
    show (decide (t' a = c) && pxm t' w (a + 1)) = (decide (t a = c) && pxm t w (a + 1))
    rw [h a (by omega), ih (a + 1) (by omega)]
theorem pxq_e (h : ∀ j, j < n → t' j = t j) {a b : Nat} (hb : b ≤ n) (w : List Int32) : pxq t' a b w = pxq t a b w := by
  unfold pxq
  by_cases c : b = a + w.length
  · rw [pxm_e h w a (by omega)]
  · rw [decide_eq_false c, Bool.false_and, Bool.false_and]
theorem pxF_e (h : ∀ j, j < n → t' j = t j) {a b : Nat} (hb : b ≤ n) : ∀ (l : List (List Int32)) (k : Nat), pxF t' a b l k = pxF t a b l k := by
  intro l
  induction l with
  | nil => intro k; rfl
  | cons w l ih =>
    intro k
    show (if pxq t' a b w = true then k else pxF t' a b l (k + 1)) = if pxq t a b w = true then k else pxF t a b l (k + 1)
    rw [pxq_e h hb, ih]
theorem pxN_e (h : ∀ j, j < n → t' j = t j) {b : Nat} : ∀ k, b + k ≤ n → pxN t' b k = pxN t b k := by
  intro k
  induction k with
  | zero => intro _; rfl
  | succ k ih =>
    intro hk
    show 10 * pxN t' b k + (ix (t' (b + k)) - 48) = 10 * pxN t b k + (ix (t (b + k)) - 48)
    rw [ih (by omega), h (b + k) (by omega)]
def pxTb (t : FA) (n b : Nat) : Nat × Nat × Nat × Nat := if n ≤ b then (b, b, 2, 0)
  else if pxL (t b) = true then (b, pxE pxL t n b, pxw t b (pxE pxL t n b), 0)
  else if pxD (t b) = true then (b, pxE pxD t n b, if pxE pxD t n b ≤ b + 4 then 1 else 3, pxN t b (pxE pxD t n b - b))
  else (b, b + 1, if pxS (t b) = true then ix (t b) else 3, 0)
theorem pxTb_e (h : ∀ j, j < n → t' j = t j) (b : Nat) : pxTb t' n b = pxTb t n b := by
  unfold pxTb
  by_cases c : n ≤ b
  · rw [if_pos c, if_pos c]
  · have eL := (pxE_all pxL t n (n - b) b rfl).2.1 (by omega)
    have eD := pxE_all pxD t n (n - b) b rfl
    have eD2 := eD.2.1 (by omega)
    have eD1 := eD.1
    rw [h b (by omega), show pxE pxL t' n b = pxE pxL t n b from pxK_e h _ _ _, show pxE pxD t' n b = pxE pxD t n b from pxK_e h _ _ _, show pxw t' b (pxE pxL t n b) = pxw t b (pxE pxL t n b) from pxF_e h eL _ _, pxN_e h _ (by omega)]
theorem pxT_e (h : ∀ j, j < n → t' j = t j) (a : Nat) : pxT t' n a = pxT t n a := by
  show pxTb t' n (pxE pxB t' n a) = pxTb t n (pxE pxB t n a)
  rw [pxTb_e h, show pxE pxB t' n a = pxE pxB t n a from pxK_e h _ _ _]
theorem pxA_e (h : ∀ j, j < n → t' j = t j) : ∀ k a, pxA t' n k a = pxA t n k a := by
  intro k
  induction k with
  | zero => intro a; rfl
  | succ k ih =>
    intro a
    show ((pxT t' n a).1, (pxT t' n a).2.2.1, (pxT t' n a).2.2.2) :: (if (pxT t' n a).2.2.1 = 2 then [] else pxA t' n k (pxT t' n a).2.1) = ((pxT t n a).1, (pxT t n a).2.2.1, (pxT t n a).2.2.2) :: (if (pxT t n a).2.2.1 = 2 then [] else pxA t n k (pxT t n a).2.1)
    rw [pxT_e h, ih]
end TapeE
theorem cpO_at {N k j : Nat} {f : FA} (hj : j < k) (hk : k ≤ N) : cpO N k f j = f j := by
  unfold cpO
  by_cases e : k = N
  · rw [if_pos e]
  · rw [if_neg e, show Nat.min N k = k from Nat.min_eq_right hk, pk_cpy_in (by omega) (by omega), Nat.zero_add, Nat.sub_zero]
/-- the law that the class keeps -/
theorem pfl_at : ∀ (L : List (Nat × List TK × List TK)) (g h : FA) (k a : Nat), pKl g k a L → tkC (pfl L) h a → ∀ i, i < L.length → ∃ b, a ≤ b ∧ g (5 * (k + i)) = nI (300 + (pLAW L i).1) ∧ g (5 * (k + i) + 1) = nI b ∧ g (5 * (k + i) + 2) = nI (b + (pLAW L i).2.1.length) ∧ g (5 * (k + i) + 3) = nI (b + (pLAW L i).2.1.length + (pLAW L i).2.2.length) ∧ b + (pLAW L i).2.1.length + (pLAW L i).2.2.length ≤ a + (pfl L).length ∧ tkC (pLAW L i).2.1 h b ∧ tkC (pLAW L i).2.2 h (b + (pLAW L i).2.1.length) := by
  intro L
  induction L with
  | nil => intro g h k a _ _ i hi; exact absurd hi (Nat.not_lt_zero i)
  | cons l L ih =>
    intro g h k a hk ht i hi
    obtain ⟨⟨p1, p2, p3, p4⟩, p5⟩ := hk
    have ht : tkC (l.2.1 ++ l.2.2 ++ pfl L) h a := ht
    obtain ⟨t1, t4⟩ := (tkC_app _ _).mp ht
    obtain ⟨t2, t3⟩ := (tkC_app _ _).mp t1
    have el : (pfl (l :: L)).length = l.2.1.length + l.2.2.length + (pfl L).length := by
      show (l.2.1 ++ l.2.2 ++ pfl L).length = _
      rw [List.length_append, List.length_append]
    rw [List.length_append] at t4
    cases i with
    | zero => exact ⟨a, Nat.le_refl _, p1, p2, p3, p4, by rw [el]; show a + l.2.1.length + l.2.2.length ≤ _; omega, t2, t3⟩
    | succ i =>
      have hi : i + 1 < L.length + 1 := hi
      obtain ⟨b, q1, q2, q3, q4, q5, q6, q7, q8⟩ := ih g h (k + 1) (a + l.2.1.length + l.2.2.length) p5 (by rw [Nat.add_assoc]; exact t4) i (by omega)
      rw [show k + 1 + i = k + (i + 1) by omega] at q2 q3 q4 q5
      exact ⟨b, by omega, q2, q3, q4, q5, by rw [el]; show b + (pLAW L i).2.1.length + (pLAW L i).2.2.length ≤ _; omega, q7, q8⟩
theorem tkC_e {g h : FA} : ∀ (P : List TK) (a : Nat), (∀ j, a ≤ j → j < a + P.length → h j = g j) → tkC P g a → tkC P h a := by
  intro P
  induction P with
  | nil => intro _ _ _; trivial
  | cons e P ih =>
    rintro a hj ⟨⟨h1, h2, h3⟩, h4⟩
    have hj : ∀ j, a ≤ j → j < a + (P.length + 1) → h j = g j := hj
    exact ⟨⟨h1, h2, (hj a (Nat.le_refl a) (by omega)).trans h3⟩, ih (a + 1) (fun j h1 h2 => hj j (by omega) (by omega)) h4⟩
theorem LWC_of {W : TXW} {k : Nat} {L : List (Nat × List TK × List TK)} {g h : FA} (h16 : L.length ≤ 16) (h400 : (pfl L).length ≤ 400) (hk : pKl g 0 0 L) (ht : tkC (pfl L) h 0) (h3 : ∀ i, i < L.length → (pLAW L i).1 < 3) (en : wn W k = nI L.length) (eN : wN W k = 5 * L.length) (eM : wM W k = (pfl L).length) (eg : wg W k = cpO 80 (5 * L.length) g) (eh : wh W k = cpO 400 (pfl L).length h) : LWC W k (pLAW L) L.length := by
  refine ⟨h16, en, eN, by rw [eM]; exact h400, fun i hi => ?_⟩
  obtain ⟨b, q1, q2, q3, q4, q5, q6, q7, q8⟩ := pfl_at L g h 0 0 hk ht i hi
  rw [Nat.zero_add] at q2 q3 q4 q5 q6
  have c : ∀ j, j < 5 * L.length → wg W k j = g j := fun j hj => by rw [eg]; exact cpO_at hj (by omega)
  have c2 : ∀ j, j < (pfl L).length → wh W k j = h j := fun j hj => by rw [eh]; exact cpO_at hj h400
  exact ⟨b, h3 i hi, (c _ (by omega)).trans q2, (c _ (by omega)).trans q3, (c _ (by omega)).trans q4, (c _ (by omega)).trans q5, by rw [eM]; exact q6, tkC_e _ _ (fun j _ h2 => c2 j (by omega)) q7, tkC_e _ _ (fun j _ h2 => c2 j (by omega)) q8⟩
/-- the ways that both keep -/
theorem wy_at {m : Nat} : ∀ (L : List (List Nat)) (g r : FA) (k : Nat), pKo pGw g k L → pLw m r k L → ∀ i, i < L.length → ∃ v b a, v < m ∧ a < 12 ∧ g (5 * (k + i)) = nI v ∧ g (5 * (k + i) + 1) = nI b ∧ g (5 * (k + i) + 2) = nI a ∧ r (48 + 3 * (k + i)) = nI v ∧ r (48 + 3 * (k + i) + 1) = nI b ∧ r (48 + 3 * (k + i) + 2) = nI a := by
  intro L
  induction L with
  | nil => intro g r k _ _ i hi; exact absurd hi (Nat.not_lt_zero i)
  | cons l L ih =>
    rintro g r k ⟨⟨a, b, c, e1, e2, e3, e4⟩, h2⟩ ⟨⟨a', b', c', f1, f2, f3, f4, f5, f6, f7⟩, h4⟩ i hi
    rw [e1] at f1
    injection f1 with f1 f8
    injection f8 with f8 f9
    injection f9 with f9 _
    subst f1 f8 f9
    have hi : i < L.length + 1 := hi
    cases i with
    | zero => exact ⟨a, b, c, f2, f4, e2, e3, e4, f5, f6, f7⟩
    | succ i =>
      have q := ih g r (k + 1) h2 h4 i (by omega)
      rw [show k + 1 + i = k + (i + 1) by omega] at q
      exact q
theorem cpr_at {g : FA} {s n j : Nat} (h : j < n) : cpr g s n j = g (s + j) := if_pos h
theorem WYR_of {W : TXW} {m : Nat} {L : List (List Nat)} {g r : FA} {zr : Nat → Int32} (h16 : L.length ≤ 16) (hk : pKo pGw g 0 L) (hm : pLw m r 0 L) (en : wn W 1 = nI L.length) (eN : wN W 1 = 5 * L.length) (eg : wg W 1 = cpO 80 (5 * L.length) g) (ez : zr 34 = nI L.length) : WYR W m L.length zr (cpr r 48 (3 * L.length)) := by
  refine ⟨h16, en, eN, ez, fun i hi => ?_⟩
  obtain ⟨v, b, a, q1, q2, q3, q4, q5, q6, q7, q8⟩ := wy_at L g r 0 hk hm i hi
  rw [Nat.zero_add] at q3 q4 q5 q6 q7 q8
  have c : ∀ j, j < 5 * L.length → wg W 1 j = g j := fun j hj => by rw [eg]; exact cpO_at hj (by omega)
  have c2 : ∀ j, j < 3 * L.length → cpr r 48 (3 * L.length) j = r (48 + j) := fun j hj => cpr_at hj
  exact ⟨v, a, q1, q2, (c (5 * i) (by omega)).trans q3, (c2 (3 * i) (by omega)).trans q6, (c (5 * i + 1) (by omega)).trans (q4.trans (q7.symm.trans (c2 (3 * i + 1) (by omega)).symm)), (c (5 * i + 2) (by omega)).trans q5, (c2 (3 * i + 2) (by omega)).trans q8⟩
/-- the sky that both keep -/
def skX (m : Nat) (g r : FA) (i p : Nat) : Prop := g (5 * i) = r p ∧ g (5 * i + 2) = r (p + 1) ∧ ((g (5 * i + 1) = nI 307 ∧ r (p + 2) = 0 ∧ g (5 * i + 3) = r (p + 3)) ∨ (g (5 * i + 1) = nI 321 ∧ r (p + 2) = 1 ∧ ∃ a b, a < 12 ∧ b < 12 ∧ g (5 * i + 3) = nI a ∧ r (p + 3) = nI a ∧ g (5 * i + 4) = nI b ∧ r (p + 4) = nI b) ∨ (g (5 * i + 1) = nI 303 ∧ r (p + 2) = 2 ∧ ∃ v x, v < m ∧ (x = -1 ∨ x = 0 ∨ x = 1) ∧ g (5 * i + 3) = nI v ∧ r (p + 3) = nI v ∧ g (5 * i + 4) = x ∧ r (p + 4) = x))
theorem inj3 {a b c a' b' c' : Nat} (h : [a, b, c] = [a', b', c']) : a = a' ∧ b = b' ∧ c = c' := by
  injection h with h1 h
  injection h with h2 h
  injection h with h3 _
  exact ⟨h1, h2, h3⟩
theorem inj4 {a b c e a' b' c' e' : Nat} (h : [a, b, c, e] = [a', b', c', e']) : a = a' ∧ b = b' ∧ c = c' ∧ e = e' := by
  injection h with h1 h
  exact ⟨h1, inj3 h⟩
theorem inj5 {a b c e x a' b' c' e' x' : Nat} (h : [a, b, c, e, x] = [a', b', c', e', x']) : a = a' ∧ b = b' ∧ c = c' ∧ e = e' ∧ x = x' := by
  injection h with h1 h
  exact ⟨h1, inj4 h⟩
theorem ite3 (c : Nat) : (if c = 1 then 1 else if c = 2 then -1 else 0 : Int32) = -1 ∨ (if c = 1 then 1 else if c = 2 then -1 else 0 : Int32) = 0 ∨ (if c = 1 then 1 else if c = 2 then -1 else 0 : Int32) = 1 := by
  by_cases c1 : c = 1
  · rw [if_pos c1]
    exact Or.inr (Or.inr rfl)
  · rw [if_neg c1]
    by_cases c2 : c = 2
    · rw [if_pos c2]
      exact Or.inl rfl
    · rw [if_neg c2]
      exact Or.inr (Or.inl rfl)
theorem sk_one {m : Nat} {l : List Nat} {g r : FA} {i p : Nat} (h1 : pGs l (fun w => g (5 * i + w))) (h2 : pGm l p m r) : skX m g r i p := by
  rcases h1 with ⟨a, b, c, e1, e2, e3, e4, e5⟩ | ⟨a, b, c, e, e1, e2, e3, e4, e5, e6, e7, e8⟩ | ⟨a, b, c, e1, e2, e3, e4, e5, e6, e7⟩
  · rcases h2 with ⟨a', b', c', f1, f2, f3, f4, f5, f6⟩ | ⟨a', b', c', e', f1, -⟩ | ⟨a', b', c', f1, -⟩
    · obtain ⟨rfl, -, rfl, rfl⟩ := inj4 (e1.symm.trans f1)
      exact ⟨Eq.trans e2 f3.symm, Eq.trans e4 f4.symm, Or.inl ⟨e3, f5, Eq.trans e5 f6.symm⟩⟩
    · have := congrArg List.length (e1.symm.trans f1)
      cases this
    · exact absurd (inj4 (e1.symm.trans f1)).2.1 (by decide)
  · rcases h2 with ⟨a', b', c', f1, -⟩ | ⟨a', b', c', e', f1, f2, f3, f4, f5, f6, f7, f8, f9⟩ | ⟨a', b', c', f1, -⟩
    · have := congrArg List.length (e1.symm.trans f1)
      cases this
    · obtain ⟨rfl, -, rfl, rfl, rfl⟩ := inj5 (e1.symm.trans f1)
      exact ⟨Eq.trans e4 f5.symm, Eq.trans e6 f6.symm, Or.inr (Or.inl ⟨e5, f7, c, e, e2, e3, e7, f8, e8, f9⟩)⟩
    · have := congrArg List.length (e1.symm.trans f1)
      cases this
  · rcases h2 with ⟨a', b', c', f1, -⟩ | ⟨a', b', c', e', f1, -⟩ | ⟨a', b', c', f1, f2, f3, f4, f5, f6, f7, f8⟩
    · exact absurd (inj4 (e1.symm.trans f1)).2.1 (by decide)
    · have := congrArg List.length (e1.symm.trans f1)
      cases this
    · obtain ⟨rfl, -, rfl, rfl⟩ := inj4 (e1.symm.trans f1)
      exact ⟨Eq.trans e3 f4.symm, Eq.trans e5 f5.symm, Or.inr (Or.inr ⟨e4, f6, b, _, f2, ite3 c, e6, f7, e7, f8⟩)⟩
theorem sk_at {m : Nat} : ∀ (L : List (List Nat)) (g r : FA) (k : Nat), pKo pGs g k L → pLs m r k L → ∀ i, i < L.length → skX m g r (k + i) (80 + 5 * (k + i)) := by
  intro L
  induction L with
  | nil => intro g r k _ _ i hi; exact absurd hi (Nat.not_lt_zero i)
  | cons l L ih =>
    rintro g r k ⟨h1, h2⟩ ⟨h3, h4⟩ i hi
    have hi : i < L.length + 1 := hi
    cases i with
    | zero => exact sk_one h1 h3
    | succ i =>
      have q := ih g r (k + 1) h2 h4 i (by omega)
      rw [show k + 1 + i = k + (i + 1) by omega] at q
      exact q
theorem SKR_of {W : TXW} {m : Nat} {L : List (List Nat)} {g r : FA} {zr : Nat → Int32} (h16 : L.length ≤ 16) (hk : pKo pGs g 0 L) (hm : pLs m r 0 L) (en : wn W 2 = nI L.length) (eN : wN W 2 = 5 * L.length) (eg : wg W 2 = cpO 80 (5 * L.length) g) (ez : zr 36 = nI L.length) : SKR W m L.length zr (cpr r 80 (5 * L.length)) := by
  refine ⟨h16, en, eN, ez, fun i hi => ?_⟩
  have q := sk_at L g r 0 hk hm i hi
  rw [Nat.zero_add] at q
  have c : ∀ j, j < 5 * L.length → wg W 2 j = g j := fun j hj => by rw [eg]; exact cpO_at hj (by omega)
  have c2 : ∀ j, j < 5 * L.length → cpr r 80 (5 * L.length) j = r (80 + j) := fun j hj => cpr_at hj
  rw [c (5 * i) (by omega), c (5 * i + 1) (by omega), c (5 * i + 2) (by omega), c (5 * i + 3) (by omega), c (5 * i + 4) (by omega), c2 (5 * i) (by omega), c2 (5 * i + 1) (by omega), c2 (5 * i + 2) (by omega), c2 (5 * i + 3) (by omega), c2 (5 * i + 4) (by omega)]
  exact q
/-- the twins that both keep -/
theorem tw_at {m : Nat} (hm : m ≤ 20) (h : FA) : ∀ (L : List (List Nat)) (k : Nat) (g g' : FA), pKo pGt h k L → pLt m g L g' → (∀ v, v < 20 → g (20 + v) = twS h (nI v) k) → ∀ v, v < 20 → g' (20 + v) = twS h (nI v) (k + L.length) := by
  intro L
  induction L with
  | nil =>
    rintro k g g' _ e hg v hv
    have e : g' = g := e
    rw [e]
    exact hg v hv
  | cons l L ih =>
    rintro k g g' ⟨⟨a, b, e1, e2, e3⟩, h2⟩ ⟨a', b', f1, f2, f3, f4, f5⟩ hg v hv
    rw [e1] at f1
    injection f1 with f1 f8
    injection f8 with f8 _
    subst f1 f8
    have e2 : h (5 * k) = nI a := e2
    have e3 : h (5 * k + 1) = nI b := e3
    have q := ih (k + 1) _ g' h2 f5 (fun v hv => ?_) v hv
    · rw [show k + 1 + L.length = k + (L.length + 1) by omega] at q
      exact q
    · have inj : ∀ x y : Nat, x < 20 → y < 20 → (nI x = nI y ↔ x = y) := fun x y hx hy => ⟨fun q => nI_inj (by omega) (by omega) q, fun q => by rw [q]⟩
      show _ = if h (5 * k + 1) = nI v then (if h (5 * k) = nI v then twS h (nI v) k ||| (1 <<< (h (5 * k + 1) &&& 31)) else twS h (nI v) k) ||| (1 <<< (h (5 * k) &&& 31)) else if h (5 * k) = nI v then twS h (nI v) k ||| (1 <<< (h (5 * k + 1) &&& 31)) else twS h (nI v) k
      rw [e2, e3]
      by_cases c1 : b = v
      · subst c1
        rw [pk_us, if_pos rfl, if_neg (fun q => f4 ((inj a b (by omega) (by omega)).mp q)), hg b hv]
      · rw [pk_un (by omega), if_neg (fun q => c1 ((inj b v (by omega) (by omega)).mp q))]
        by_cases c2 : a = v
        · subst c2
          rw [pk_us, if_pos rfl, hg a hv]
        · rw [pk_un (by omega), if_neg (fun q => c2 ((inj a v (by omega) (by omega)).mp q)), hg v hv]
theorem twS_e {g h : FA} {x : Int32} : ∀ k, (∀ j, j < 5 * k → h j = g j) → twS h x k = twS g x k := by
  intro k
  induction k with
  | zero => intro _; rfl
  | succ k ih =>
    intro hj
    show (if h (5 * k + 1) = x then (if h (5 * k) = x then twS h x k ||| (1 <<< (h (5 * k + 1) &&& 31)) else twS h x k) ||| (1 <<< (h (5 * k) &&& 31)) else if h (5 * k) = x then twS h x k ||| (1 <<< (h (5 * k + 1) &&& 31)) else twS h x k) = if g (5 * k + 1) = x then (if g (5 * k) = x then twS g x k ||| (1 <<< (g (5 * k + 1) &&& 31)) else twS g x k) ||| (1 <<< (g (5 * k) &&& 31)) else if g (5 * k) = x then twS g x k ||| (1 <<< (g (5 * k + 1) &&& 31)) else twS g x k
    rw [ih (fun j h1 => hj j (by omega)), hj (5 * k) (by omega), hj (5 * k + 1) (by omega)]
theorem TWR_of {W : TXW} {m : Nat} (hm : m ≤ 20) {L : List (List Nat)} {g r0 r : FA} (h16 : L.length ≤ 16) (hk : pKo pGt g 0 L) (hr : pLt m (tw0 r0 20) L r) (en : wn W 3 = nI L.length) (eN : wN W 3 = 5 * L.length) (eg : wg W 3 = cpO 80 (5 * L.length) g) : TWR W L.length (cpr r 20 20) := by
  refine ⟨h16, en, eN, fun v hv => ?_⟩
  have q := tw_at hm g L 0 (tw0 r0 20) r hk hr (fun v hv => if_pos ⟨by omega, by omega⟩) v hv
  rw [Nat.zero_add] at q
  rw [cpr_at hv, q]
  exact (twS_e _ (fun j hj => by rw [eg]; exact cpO_at hj (by omega))).symm
