/-! tokens of a tape, in themselves -/
def pxB (c : Int32) : Bool := decide (c = 32 ∨ c = 10)
def pxL (c : Int32) : Bool := decide ((97 ≤ I c ∧ I c ≤ 122) ∨ (65 ≤ I c ∧ I c ≤ 90))
def pxD (c : Int32) : Bool := decide (48 ≤ I c ∧ I c ≤ 57)
def pxS (c : Int32) : Bool := decide (c = 59 ∨ c = 43 ∨ c = 45 ∨ c = 42 ∨ c = 47 ∨ c = 40 ∨ c = 41 ∨ c = 60 ∨ c = 61 ∨ c = 62)
def pxK (q : Int32 → Bool) (t : FA) (n : Nat) : Nat → Nat → Nat
  | 0, a => a
  | k + 1, a => if a < n ∧ q (t a) = true then pxK q t n k (a + 1) else a
/-- from a on over all that are q -/
def pxE (q : Int32 → Bool) (t : FA) (n a : Nat) : Nat := pxK q t n (n - a) a
theorem pxE_t {q : Int32 → Bool} {t : FA} {n a : Nat} (h : a < n) (hq : q (t a) = true) : pxE q t n a = pxE q t n (a + 1) := by
  unfold pxE
  obtain ⟨k, hk⟩ : ∃ k, n - a = k + 1 := ⟨n - a - 1, by omega⟩
  rw [hk, show n - (a + 1) = k by omega]
  show (if a < n ∧ q (t a) = true then pxK q t n k (a + 1) else a) = _
  rw [if_pos ⟨h, hq⟩]
theorem pxE_f {q : Int32 → Bool} {t : FA} {n a : Nat} (h : ¬ (a < n ∧ q (t a) = true)) : pxE q t n a = a := by
  unfold pxE
  cases n - a with
  | zero => rfl
  | succ k =>
    show (if a < n ∧ q (t a) = true then pxK q t n k (a + 1) else a) = _
    rw [if_neg h]
theorem pxE_all (q : Int32 → Bool) (t : FA) (n : Nat) : ∀ k a, n - a = k → a ≤ pxE q t n a ∧ (a ≤ n → pxE q t n a ≤ n) ∧ ¬ (pxE q t n a < n ∧ q (t (pxE q t n a)) = true) ∧ ∀ j, a ≤ j → j < pxE q t n a → j < n ∧ q (t j) = true := by
  intro k
  induction k with
  | zero =>
    intro a h
    rw [pxE_f (fun c => by have := c.1; omega)]
    exact ⟨Nat.le_refl _, fun h => h, fun c => by have := c.1; omega, fun j h1 h2 => by omega⟩
  | succ k ih =>
    intro a h
    by_cases c : a < n ∧ q (t a) = true
    · rw [pxE_t c.1 c.2]
      obtain ⟨h1, h2, h3, h4⟩ := ih (a + 1) (by omega)
      refine ⟨by omega, fun _ => h2 (by omega), h3, fun j hj hl => ?_⟩
      by_cases e : j = a
      · subst e
        exact c
      · exact h4 j (by omega) hl
    · rw [pxE_f c]
      exact ⟨Nat.le_refl _, fun h => h, c, fun j h1 h2 => by omega⟩
/-- the words as the class tells them, and as the reference does -/
def pxW : List (List Int32) := [[99, 111, 109, 101, 115], [109, 101, 108, 116, 115], [119, 101, 105, 103, 104, 115], [109, 105, 110, 100], [112, 114, 101, 115, 115], [104, 101, 105, 103, 104, 116], [100, 101, 112, 116, 104], [104, 101, 97, 116], [104, 111, 117, 114], [114, 111, 119], [98, 101, 115, 105, 100, 101], [99, 97, 109, 101], [100, 97, 121], [119, 104, 101, 110], [111, 114], [97, 110, 100], [110, 111, 116], [118, 111, 116, 101, 114], [97, 116], [116, 111], [111, 110], [112, 117, 116, 116, 121], [102, 111, 114], [97, 103, 97, 105, 110, 115, 116], [110, 111, 110, 101], [116, 119, 105, 110]]
def pxV : List (List Int32) := [[99, 111, 109, 101, 115], [109, 101, 108, 116, 115], [119, 101, 105, 103, 104, 115], [119, 104, 101, 110], [111, 114], [97, 110, 100], [110, 111, 116], [109, 105, 110, 100], [112, 114, 101, 115, 115], [104, 101, 105, 103, 104, 116], [100, 101, 112, 116, 104], [104, 101, 97, 116], [104, 111, 117, 114], [114, 111, 119], [98, 101, 115, 105, 100, 101], [99, 97, 109, 101], [100, 97, 121], [118, 111, 116, 101, 114], [97, 116], [116, 111], [111, 110], [112, 117, 116, 116, 121], [102, 111, 114], [97, 103, 97, 105, 110, 115, 116], [110, 111, 110, 101], [116, 119, 105, 110]]
def pxm (t : FA) : List Int32 → Nat → Bool
  | [], _ => true
  | c :: w, a => decide (t a = c) && pxm t w (a + 1)
theorem pxm_c {t : FA} {c : Int32} {w : List Int32} {a : Nat} : pxm t (c :: w) a = true ↔ t a = c ∧ pxm t w (a + 1) = true := by
  show (decide (t a = c) && pxm t w (a + 1)) = true ↔ _
  rw [Bool.and_eq_true, decide_eq_true_eq]
def pxq (t : FA) (a b : Nat) (w : List Int32) : Bool := decide (b = a + w.length) && pxm t w a
theorem pxq_iff {t : FA} {a b : Nat} {w : List Int32} : pxq t a b w = true ↔ b = a + w.length ∧ pxm t w a = true := by
  unfold pxq
  rw [Bool.and_eq_true, decide_eq_true_eq]
/-- the first word of a list that lies from a to b, behind k; 3: none -/
def pxF (t : FA) (a b : Nat) : List (List Int32) → Nat → Nat
  | [], _ => 3
  | w :: r, k => if pxq t a b w = true then k else pxF t a b r (k + 1)
theorem pxm_u (t : FA) : ∀ (w w' : List Int32) (a : Nat), w.length = w'.length → pxm t w a = true → pxm t w' a = true → w = w' := by
  intro w
  induction w with
  | nil =>
    intro w' a h _ _
    cases w' with
    | nil => rfl
    | cons c r => cases h
  | cons c w ih =>
    intro w' a h h1 h2
    cases w' with
    | nil => cases h
    | cons c' w' =>
      obtain ⟨a1, a2⟩ := pxm_c.mp h1
      obtain ⟨b1, b2⟩ := pxm_c.mp h2
      rw [← a1, b1, ih w' (a + 1) (by have h : w.length + 1 = w'.length + 1 := h; omega) a2 b2]
theorem pxq_u {t : FA} {a b : Nat} {w w' : List Int32} (h1 : pxq t a b w = true) (h2 : pxq t a b w' = true) : w = w' := by
  obtain ⟨a1, a2⟩ := pxq_iff.mp h1
  obtain ⟨b1, b2⟩ := pxq_iff.mp h2
  exact pxm_u t w w' a (by omega) a2 b2
def pxi (w : List Int32) : List (List Int32) → Nat
  | [] => 0
  | v :: l => if v = w then 0 else pxi w l + 1
theorem pxF_at {t : FA} {a b : Nat} {w : List Int32} (h : pxq t a b w = true) : ∀ (l : List (List Int32)) (k : Nat), w ∈ l → pxF t a b l k = k + pxi w l := by
  intro l
  induction l with
  | nil =>
    intro k hm
    cases hm
  | cons v l ih =>
    intro k hm
    show (if pxq t a b v = true then k else pxF t a b l (k + 1)) = k + (if v = w then 0 else pxi w l + 1)
    by_cases e : v = w
    · rw [if_pos (by rw [e]; exact h), if_pos e]
      rfl
    · have hm' : w ∈ l := by
        rcases List.mem_cons.mp hm with q | q
        · exact absurd q.symm e
        · exact q
      rw [if_neg (fun q => e (pxq_u q h)), if_neg e, ih (k + 1) hm']
      omega
theorem pxF_no {t : FA} {a b : Nat} : ∀ (l : List (List Int32)) (k : Nat), (∀ w, w ∈ l → ¬ pxq t a b w = true) → pxF t a b l k = 3 := by
  intro l
  induction l with
  | nil => intro k _; rfl
  | cons v l ih =>
    intro k h
    show (if pxq t a b v = true then k else pxF t a b l (k + 1)) = 3
    rw [if_neg (h v List.mem_cons_self)]
    exact ih (k + 1) (fun w hw => h w (List.mem_cons_of_mem v hw))
theorem pxF_lt {t : FA} {a b : Nat} : ∀ (l : List (List Int32)) (k : Nat), pxF t a b l k = 3 ∨ (k ≤ pxF t a b l k ∧ pxF t a b l k < k + l.length) := by
  intro l
  induction l with
  | nil => intro k; exact Or.inl rfl
  | cons v l ih =>
    intro k
    show (if pxq t a b v = true then k else pxF t a b l (k + 1)) = 3 ∨ (k ≤ (if pxq t a b v = true then k else pxF t a b l (k + 1)) ∧ (if pxq t a b v = true then k else pxF t a b l (k + 1)) < k + (l.length + 1))
    by_cases c : pxq t a b v = true
    · rw [if_pos c]
      exact Or.inr ⟨Nat.le_refl _, by omega⟩
    · rw [if_neg c]
      rcases ih (k + 1) with q | q
      · exact Or.inl q
      · exact Or.inr ⟨by omega, by omega⟩
/-- where a word of the class stands in the reference's row -/
def pxr (j : Nat) : Nat := if j < 3 then j else if j < 13 then j + 4 else if j < 17 then j - 10 else j
set_option maxRecDepth 100000 in
theorem pxW_V : ∀ w, w ∈ pxW → w ∈ pxV ∧ pxi w pxV = pxr (pxi w pxW) := by decide +kernel
set_option maxRecDepth 100000 in
theorem pxV_W : ∀ w, w ∈ pxV → w ∈ pxW := by decide +kernel
/-- the class's number of the word from a to b, and the reference's -/
def pxw (t : FA) (a b : Nat) : Nat := pxF t a b pxW 300
theorem pxw_no {t : FA} {a b : Nat} (h : pxw t a b = 3) : ∀ w, w ∈ pxV → ¬ pxq t a b w = true := by
  intro w hw hq
  have e := pxF_at hq pxW 300 (pxV_W w hw)
  have h : pxF t a b pxW 300 = 3 := h
  omega
theorem pxw_at {t : FA} {a b : Nat} (h : ¬ pxw t a b = 3) : ∃ w, w ∈ pxV ∧ pxq t a b w = true ∧ pxi w pxV = pxr (pxw t a b - 300) := by
  by_cases c : ∃ w, w ∈ pxW ∧ pxq t a b w = true
  · obtain ⟨w, hw, hq⟩ := c
    obtain ⟨h1, h2⟩ := pxW_V w hw
    refine ⟨w, h1, hq, ?_⟩
    have e : pxw t a b = _ := pxF_at hq pxW 300 hw
    rw [e, h2, Nat.add_sub_cancel_left]
  · exact absurd (pxF_no pxW 300 (fun w hw hq => c ⟨w, hw, hq⟩)) h
theorem pxw_lt (t : FA) (a b : Nat) : pxw t a b = 3 ∨ (300 ≤ pxw t a b ∧ pxw t a b < 326) := pxF_lt pxW 300
/-- a number's digits -/
def pxN (t : FA) (b : Nat) : Nat → Nat
  | 0 => 0
  | k + 1 => 10 * pxN t b k + (ix (t (b + k)) - 48)
/-- the token from a on: its place, what is behind it, what it is (1 a number, 2 the end, 3 none, 40 .. 62 a sign, 300 .. 325 a word), the number -/
def pxT (t : FA) (n a : Nat) : Nat × Nat × Nat × Nat :=
  let b := pxE pxB t n a
  if n ≤ b then (b, b, 2, 0)
  else if pxL (t b) = true then (b, pxE pxL t n b, pxw t b (pxE pxL t n b), 0)
  else if pxD (t b) = true then (b, pxE pxD t n b, if pxE pxD t n b ≤ b + 4 then 1 else 3, pxN t b (pxE pxD t n b - b))
  else (b, b + 1, if pxS (t b) = true then ix (t b) else 3, 0)
abbrev TT : Type := Nat × Nat × Nat
def pxA (t : FA) (n : Nat) : Nat → Nat → List TT
  | 0, a => [(a, 2, 0)]
  | k + 1, a => ((pxT t n a).1, (pxT t n a).2.2.1, (pxT t n a).2.2.2) :: (if (pxT t n a).2.2.1 = 2 then [] else pxA t n k (pxT t n a).2.1)
theorem pxS_ix {c : Int32} (h : pxS c = true) : 40 ≤ ix c ∧ ix c ≤ 62 ∧ ix c ≠ 44 ∧ ix c ≠ 46 ∧ ix c ≠ 58 := by
  have h := of_decide_eq_true h
  rcases h with h | h | h | h | h | h | h | h | h | h <;> subst h <;> decide
theorem pxN_4 {t : FA} {b : Nat} : ∀ k, k ≤ 4 → (∀ j, j < k → pxD (t (b + j)) = true) → pxN t b k < 10 ^ k := by
  intro k
  induction k with
  | zero => intro _ _; exact Nat.one_pos
  | succ k ih =>
    intro hk h
    have h1 := ih (by omega) (fun j hj => h j (by omega))
    have h2 : 48 ≤ I (t (b + k)) ∧ I (t (b + k)) ≤ 57 := of_decide_eq_true (h k (by omega))
    obtain ⟨m, hm, hm2, hm3⟩ := nI_ofI (x := t (b + k)) (by omega)
    have e : ix (t (b + k)) = m := by rw [hm]; exact ix_nI (by omega)
    show 10 * pxN t b k + (ix (t (b + k)) - 48) < 10 ^ (k + 1)
    rw [e, Nat.pow_succ]
    omega
/-- all that a token can be -/
abbrev pxtk (tk : Nat) : Prop := tk = 1 ∨ tk = 2 ∨ tk = 3 ∨ (40 ≤ tk ∧ tk ≤ 62) ∨ (300 ≤ tk ∧ tk < 326)
theorem pxtk_lt {tk : Nat} (h : pxtk tk) : tk < 326 := by
  unfold pxtk at h
  omega
/-- what a token is, in bounds -/
theorem pxT_ok (t : FA) {n a : Nat} (ha : a ≤ n) : (pxT t n a).2.1 ≤ n ∧ ((pxT t n a).2.2.1 = 2 → (pxT t n a).1 = n ∧ (pxT t n a).2.1 = n) ∧ (¬ (pxT t n a).2.2.1 = 2 → (pxT t n a).1 < (pxT t n a).2.1 ∧ a ≤ (pxT t n a).1) ∧ pxtk (pxT t n a).2.2.1 ∧ ((pxT t n a).2.2.1 = 1 → (pxT t n a).2.2.2 < 10000) := by
  obtain ⟨b1, b2, b3, b4⟩ := pxE_all pxB t n (n - a) a rfl
  have b2 := b2 ha
  unfold pxT
  generalize pxE pxB t n a = b at b1 b2 b3 b4
  show (if n ≤ b then (b, b, 2, 0) else if pxL (t b) = true then (b, pxE pxL t n b, pxw t b (pxE pxL t n b), 0) else if pxD (t b) = true then (b, pxE pxD t n b, if pxE pxD t n b ≤ b + 4 then 1 else 3, pxN t b (pxE pxD t n b - b)) else (b, b + 1, if pxS (t b) = true then ix (t b) else 3, 0) : Nat × Nat × Nat × Nat).2.1 ≤ n ∧ _
  by_cases c1 : n ≤ b
  · rw [if_pos c1]
    exact ⟨b2, fun _ => ⟨by show b = n; omega, by show b = n; omega⟩, fun q => absurd rfl q, by show pxtk 2; decide, fun q => absurd (show (2 : Nat) = 1 from q) (by decide)⟩
  · rw [if_neg c1]
    by_cases c2 : pxL (t b) = true
    · rw [if_pos c2]
      obtain ⟨e1, e2, e3, e4⟩ := pxE_all pxL t n (n - b) b rfl
      have e2 := e2 b2
      have e5 : pxE pxL t n b = pxE pxL t n (b + 1) := pxE_t (by omega) c2
      have e6 := (pxE_all pxL t n (n - (b + 1)) (b + 1) rfl).1
      rcases pxw_lt t b (pxE pxL t n b) with q | q
      · exact ⟨e2, fun q2 => by have q2 : pxw t b (pxE pxL t n b) = 2 := q2; omega, fun _ => ⟨by show b < pxE pxL t n b; omega, b1⟩, by show pxtk (pxw t b (pxE pxL t n b)); unfold pxtk; omega, fun q2 => by have q2 : pxw t b (pxE pxL t n b) = 1 := q2; omega⟩
      · exact ⟨e2, fun q2 => by have q2 : pxw t b (pxE pxL t n b) = 2 := q2; omega, fun _ => ⟨by show b < pxE pxL t n b; omega, b1⟩, by show pxtk (pxw t b (pxE pxL t n b)); unfold pxtk; omega, fun q2 => by have q2 : pxw t b (pxE pxL t n b) = 1 := q2; omega⟩
    · rw [if_neg c2]
      by_cases c3 : pxD (t b) = true
      · rw [if_pos c3]
        obtain ⟨e1, e2, e3, e4⟩ := pxE_all pxD t n (n - b) b rfl
        have e2 := e2 b2
        have e5 : pxE pxD t n b = pxE pxD t n (b + 1) := pxE_t (by omega) c3
        have e6 := (pxE_all pxD t n (n - (b + 1)) (b + 1) rfl).1
        by_cases c4 : pxE pxD t n b ≤ b + 4
        · rw [if_pos c4]
          refine ⟨e2, fun q => absurd (show (1 : Nat) = 2 from q) (by decide), fun _ => ⟨by show b < pxE pxD t n b; omega, b1⟩, by show pxtk 1; decide, fun _ => ?_⟩
          have h := pxN_4 (t := t) (b := b) (pxE pxD t n b - b) (by omega) (fun j hj => (e4 (b + j) (by omega) (by omega)).2)
          have h2 : 10 ^ (pxE pxD t n b - b) ≤ 10 ^ 4 := Nat.pow_le_pow_right (by decide) (by omega)
          show pxN t b (pxE pxD t n b - b) < 10000
          omega
        · rw [if_neg c4]
          exact ⟨e2, fun q => absurd (show (3 : Nat) = 2 from q) (by decide), fun _ => ⟨by show b < pxE pxD t n b; omega, b1⟩, by show pxtk 3; decide, fun q => absurd (show (3 : Nat) = 1 from q) (by decide)⟩
      · rw [if_neg c3]
        by_cases c4 : pxS (t b) = true
        · rw [if_pos c4]
          have := pxS_ix c4
          exact ⟨by show b + 1 ≤ n; omega, fun q => by have q : ix (t b) = 2 := q; omega, fun _ => ⟨by show b < b + 1; omega, b1⟩, by show pxtk (ix (t b)); unfold pxtk; omega, fun q => by have q : ix (t b) = 1 := q; omega⟩
        · rw [if_neg c4]
          exact ⟨by show b + 1 ≤ n; omega, fun q => absurd (show (3 : Nat) = 2 from q) (by decide), fun _ => ⟨by show b < b + 1; omega, b1⟩, by show pxtk 3; decide, fun q => absurd (show (3 : Nat) = 1 from q) (by decide)⟩
/-- all tokens from the one that is looked at -/
def pxAt (t : FA) (n pl nx tk v : Nat) (ts : List TT) : Prop := nx ≤ n ∧ pxtk tk ∧ (tk = 1 → v < 10000) ∧ ∃ k, n ≤ nx + k ∧ ts = (pl, tk, v) :: (if tk = 2 then [] else pxA t n k nx)
theorem pxAt_0 (t : FA) (n : Nat) : pxAt t n (pxT t n 0).1 (pxT t n 0).2.1 (pxT t n 0).2.2.1 (pxT t n 0).2.2.2 (pxA t n (n + 1) 0) := by
  obtain ⟨h1, h2, h3, h4, h5⟩ := pxT_ok t (n := n) (a := 0) (by omega)
  exact ⟨h1, h4, h5, n, by omega, rfl⟩
theorem pxAt_s {t : FA} {n pl nx tk v : Nat} {x : TT} {ts : List TT} (h : pxAt t n pl nx tk v (x :: ts)) (hx : ¬ tk = 2) : pxAt t n (pxT t n nx).1 (pxT t n nx).2.1 (pxT t n nx).2.2.1 (pxT t n nx).2.2.2 ts := by
  obtain ⟨h1, h2, h3, k, h4, h5⟩ := h
  rw [if_neg hx] at h5
  have h6 : ts = pxA t n k nx := (List.cons.inj h5).2
  obtain ⟨g1, g2, g3, g4, g5⟩ := pxT_ok t h1
  refine ⟨g1, g4, g5, ?_⟩
  cases k with
  | zero =>
    obtain rfl : nx = n := by omega
    have e : pxT t nx nx = (nx, nx, 2, 0) := by
      unfold pxT
      have e1 : pxE pxB t nx nx = nx := pxE_f (fun c => by have := c.1; omega)
      rw [e1]
      exact if_pos (Nat.le_refl _)
    rw [e, h6]
    exact ⟨0, by omega, rfl⟩
  | succ k =>
    rw [h6]
    refine ⟨k, ?_, rfl⟩
    by_cases c : (pxT t n nx).2.2.1 = 2
    · have q1 := (g2 c).2
      omega
    · have := g3 c
      omega
theorem pxA_len (t : FA) (n : Nat) : ∀ k a, a ≤ n → n ≤ a + k → (pxA t n k a).length + a ≤ n + 1 := by
  intro k
  induction k with
  | zero =>
    intro a h1 h2
    show 1 + a ≤ n + 1
    omega
  | succ k ih =>
    intro a h1 h2
    obtain ⟨g1, g2, g3, g4, g5⟩ := pxT_ok t h1
    show (if (pxT t n a).2.2.1 = 2 then [] else pxA t n k (pxT t n a).2.1).length + 1 + a ≤ n + 1
    by_cases c : (pxT t n a).2.2.1 = 2
    · rw [if_pos c]
      show 0 + 1 + a ≤ n + 1
      omega
    · rw [if_neg c]
      have := g3 c
      have := ih (pxT t n a).2.1 g1 (by omega)
      omega
theorem pif_cg {α : Type} {P Q : Prop} [Decidable P] [Decidable Q] {x y : α} (h : P ↔ Q) : (if P then x else y) = if Q then x else y := by
  by_cases c : P
  · rw [if_pos c, if_pos (h.mp c)]
  · rw [if_neg c, if_neg (fun q => c (h.mpr q))]
/-- over the words of a row, letter by letter, as the class does it -/
def pxs (t : FA) (a b : Nat) : List Int32 → Nat → Nat → Bool → Nat
  | [], w, x, al => if al = true ∧ x = b then w else 3
  | c :: r, w, x, al => if c = 32 then (if al = true ∧ x = b then w else pxs t a b r (w + 1) a true) else pxs t a b r w (x + 1) (al && decide (x < b ∧ t x = c))
theorem pxs_go {t : FA} {b x : Nat} {c : Int32} {w : List Int32} {al : Bool} : (((al && decide (x < b ∧ t x = c)) = true ∧ x + 1 + w.length = b ∧ pxm t w (x + 1) = true)) ↔ (al = true ∧ x + (c :: w).length = b ∧ pxm t (c :: w) x = true) := by
  rw [pxm_c, Bool.and_eq_true, decide_eq_true_eq]
  show _ ↔ (al = true ∧ x + (w.length + 1) = b ∧ t x = c ∧ pxm t w (x + 1) = true)
  constructor
  · rintro ⟨⟨h1, h2, h3⟩, h4, h5⟩
    exact ⟨h1, by omega, h3, h5⟩
  · rintro ⟨h1, h2, h3, h4⟩
    exact ⟨⟨h1, by omega, h3⟩, by omega, h4⟩
theorem pxs_w (t : FA) (a b : Nat) (r : List Int32) : ∀ (w : List Int32), (∀ c, c ∈ w → ¬ c = 32) → ∀ k x al, pxs t a b (w ++ 32 :: r) k x al = if al = true ∧ x + w.length = b ∧ pxm t w x = true then k else pxs t a b r (k + 1) a true := by
  intro w
  induction w with
  | nil =>
    intro _ k x al
    show (if (32 : Int32) = 32 then (if al = true ∧ x = b then k else pxs t a b r (k + 1) a true) else _) = _
    rw [if_pos rfl]
    exact pif_cg ⟨fun q => ⟨q.1, q.2, rfl⟩, fun q => ⟨q.1, q.2.1⟩⟩
  | cons c w ih =>
    intro h k x al
    show (if c = 32 then _ else pxs t a b (w ++ 32 :: r) k (x + 1) (al && decide (x < b ∧ t x = c))) = _
    rw [if_neg (h c List.mem_cons_self), ih (fun c' hc => h c' (List.mem_cons_of_mem c hc))]
    exact pif_cg pxs_go
theorem pxs_e (t : FA) (a b : Nat) : ∀ (w : List Int32), (∀ c, c ∈ w → ¬ c = 32) → ∀ k x al, pxs t a b w k x al = if al = true ∧ x + w.length = b ∧ pxm t w x = true then k else 3 := by
  intro w
  induction w with
  | nil =>
    intro _ k x al
    show (if al = true ∧ x = b then k else 3) = _
    exact pif_cg ⟨fun q => ⟨q.1, q.2, rfl⟩, fun q => ⟨q.1, q.2.1⟩⟩
  | cons c w ih =>
    intro h k x al
    show (if c = 32 then _ else pxs t a b w k (x + 1) (al && decide (x < b ∧ t x = c))) = _
    rw [if_neg (h c List.mem_cons_self), ih (fun c' hc => h c' (List.mem_cons_of_mem c hc))]
    exact pif_cg pxs_go
def pxJ : List (List Int32) → List Int32
  | [] => []
  | w :: l => match l with
    | [] => w
    | _ :: _ => w ++ 32 :: pxJ l
theorem pxs_J (t : FA) (a b : Nat) : ∀ (l : List (List Int32)), l ≠ [] → (∀ w, w ∈ l → ∀ c, c ∈ w → ¬ c = 32) → ∀ k, pxs t a b (pxJ l) k a true = pxF t a b l k := by
  have hq : ∀ w, (true = true ∧ a + w.length = b ∧ pxm t w a = true) ↔ pxq t a b w = true := by
    intro w
    rw [pxq_iff]
    exact ⟨fun q => ⟨q.2.1.symm, q.2.2⟩, fun q => ⟨rfl, q.1.symm, q.2⟩⟩
  intro l
  induction l with
  | nil => intro h; exact absurd rfl h
  | cons w l ih =>
    intro _ h k
    cases l with
    | nil =>
      show pxs t a b w k a true = (if pxq t a b w = true then k else 3)
      rw [pxs_e t a b w (h w List.mem_cons_self)]
      exact pif_cg (hq w)
    | cons v l =>
      show pxs t a b (w ++ 32 :: pxJ (v :: l)) k a true = (if pxq t a b w = true then k else pxF t a b (v :: l) (k + 1))
      rw [pxs_w t a b _ w (h w List.mem_cons_self), ih (List.cons_ne_nil _ _) (fun u hu => h u (List.mem_cons_of_mem w hu))]
      exact pif_cg (hq w)
set_option maxRecDepth 100000 in
theorem pxJ_W : pxJ pxW = sByt := by decide +kernel
set_option maxRecDepth 100000 in
theorem pxW_32 : ∀ w, w ∈ pxW → ∀ c, c ∈ w → ¬ c = 32 := by decide +kernel
set_option maxRecDepth 100000 in
theorem pxV_32 : ∀ w, w ∈ pxV → ∀ c, c ∈ w → ¬ c = 32 := by decide +kernel
theorem pxs_S (t : FA) (a b : Nat) : pxs t a b sByt 300 a true = pxw t a b := by
  rw [← pxJ_W]
  exact pxs_J t a b pxW (List.cons_ne_nil _ _) pxW_32 300
