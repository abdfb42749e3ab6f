/-! parishes: ways from house to house, each step a parish -/
def pzS (h : Nat → Nat) : Nat → Nat
  | 0 => 0
  | i + 1 => pzS h i + h i
theorem pzS_mono {h : Nat → Nat} : ∀ b a, a ≤ b → pzS h a ≤ pzS h b := by
  intro b
  induction b with
  | zero =>
    intro a ha
    obtain rfl : a = 0 := by omega
    exact Nat.le_refl _
  | succ b ih =>
    intro a ha
    by_cases q : a = b + 1
    · rw [q]
      exact Nat.le_refl _
    · have := ih a (by omega)
      show pzS h a ≤ pzS h b + h b
      omega
theorem pzS_le {h : Nat → Nat} : ∀ n, (∀ i, i < n → h i ≤ 1) → pzS h n ≤ n := by
  intro n
  induction n with
  | zero => intro _; exact Nat.le_refl _
  | succ n ih =>
    intro hh
    have h1 := ih (fun i hi => hh i (by omega))
    have h2 := hh n (by omega)
    show pzS h n + h n ≤ n + 1
    omega
/-- whether more than half between a and c are for -/
def pzw (h : Nat → Nat) (a c : Nat) : Nat := if c - a < 2 * (pzS h c - pzS h a) then 1 else 0
theorem pzw_le (h : Nat → Nat) (a c : Nat) : pzw h a c ≤ 1 := by
  unfold pzw
  split <;> omega
/-- so many parishes from a to b, so many for; the last one told last -/
def PzR (w : Nat → Nat → Nat) (a : Nat) : Nat → Nat → Nat → Prop
  | 0, b, v => a = b ∧ v = 0
  | k + 1, b, v => ∃ c v', c < b ∧ PzR w a k c v' ∧ v = v' + w c b
/-- the same, the first one told first -/
def PzL (w : Nat → Nat → Nat) (b : Nat) : Nat → Nat → Nat → Prop
  | 0, a, v => a = b ∧ v = 0
  | k + 1, a, v => ∃ c v', a < c ∧ c ≤ b ∧ PzL w b k c v' ∧ v = w a c + v'
theorem PzR_le {w : Nat → Nat → Nat} {a : Nat} : ∀ k b v, PzR w a k b v → a + k ≤ b := by
  intro k
  induction k with
  | zero => rintro b v ⟨h1, _⟩; omega
  | succ k ih =>
    rintro b v ⟨c, v', h1, h2, _⟩
    have := ih c v' h2
    omega
theorem PzR_v {w : Nat → Nat → Nat} {a : Nat} (hw : ∀ a c, w a c ≤ 1) : ∀ k b v, PzR w a k b v → v ≤ k := by
  intro k
  induction k with
  | zero => rintro b v ⟨_, h1⟩; omega
  | succ k ih =>
    rintro b v ⟨c, v', h1, h2, h3⟩
    have := ih c v' h2
    have := hw c b
    omega
theorem PzR_ex {w : Nat → Nat → Nat} : ∀ k b, k ≤ b → (k = 0 → b = 0) → ∃ v, PzR w 0 k b v := by
  intro k
  induction k with
  | zero => intro b _ h; exact ⟨0, (h rfl).symm, rfl⟩
  | succ k ih =>
    intro b hb _
    by_cases q : k = 0
    · subst q
      exact ⟨_, 0, 0, by omega, ⟨rfl, rfl⟩, rfl⟩
    · obtain ⟨v, hv⟩ := ih (b - 1) (by omega) (fun c => absurd c q)
      exact ⟨_, b - 1, v, by omega, hv, rfl⟩
theorem PzR_f {w : Nat → Nat → Nat} : ∀ k a b v, PzR w a (k + 1) b v ↔ ∃ c v', a < c ∧ c ≤ b ∧ PzR w c k b v' ∧ v = w a c + v' := by
  intro k
  induction k with
  | zero =>
    intro a b v
    constructor
    · rintro ⟨c, v', h1, ⟨h2, h3⟩, h4⟩
      subst h2
      subst h3
      exact ⟨b, 0, h1, Nat.le_refl _, ⟨rfl, rfl⟩, by omega⟩
    · rintro ⟨c, v', h1, h2, ⟨h3, h4⟩, h5⟩
      subst h3
      subst h4
      exact ⟨a, 0, h1, ⟨rfl, rfl⟩, by omega⟩
  | succ k ih =>
    intro a b v
    constructor
    · rintro ⟨e, v1, h1, h2, h3⟩
      obtain ⟨c, v', h4, h5, h6, h7⟩ := (ih a e v1).mp h2
      exact ⟨c, v' + w e b, h4, by omega, ⟨e, v', h1, h6, rfl⟩, by omega⟩
    · rintro ⟨c, v2, h1, h2, ⟨e, v', h3, h4, h5⟩, h6⟩
      have hc := PzR_le k e v' h4
      exact ⟨e, w a c + v', h3, (ih a e _).mpr ⟨c, v', h1, by omega, h4, rfl⟩, by omega⟩
theorem PzL_R {w : Nat → Nat → Nat} {b : Nat} : ∀ k a v, PzL w b k a v ↔ PzR w a k b v := by
  intro k
  induction k with
  | zero => intro a v; exact Iff.rfl
  | succ k ih =>
    intro a v
    rw [PzR_f]
    constructor
    · rintro ⟨c, v', h1, h2, h3, h4⟩
      exact ⟨c, v', h1, h2, (ih c v').mp h3, h4⟩
    · rintro ⟨c, v', h1, h2, h3, h4⟩
      exact ⟨c, v', h1, h2, (ih c v').mpr h3, h4⟩
/-- the best of what P tells: the most (m), the fewest -/
def PzB (m : Bool) (P : Nat → Prop) (x : Nat) : Prop := P x ∧ ∀ v, P v → if m = true then v ≤ x else x ≤ v
theorem PzB_u {m : Bool} {P Q : Nat → Prop} {x y : Nat} (hPQ : ∀ v, P v ↔ Q v) (h1 : PzB m P x) (h2 : PzB m Q y) : x = y := by
  have a := h1.2 y ((hPQ y).mpr h2.1)
  have b := h2.2 x ((hPQ x).mp h1.1)
  cases m with
  | true =>
    rw [if_pos rfl] at a b
    omega
  | false =>
    rw [if_neg (by decide)] at a b
    omega
/-- as the class keeps it: NONE where there is no way -/
def PzC (m : Bool) (P : Nat → Prop) (y : Int32) : Prop := (y = -1 ∧ ∀ v, ¬ P v) ∨ ∃ x, x ≤ 100 ∧ y = nI x ∧ PzB m P x
theorem PzC.iff {m : Bool} {P Q : Nat → Prop} {y : Int32} (hPQ : ∀ v, Q v ↔ P v) (h : PzC m P y) : PzC m Q y := by
  rcases h with ⟨h1, h2⟩ | ⟨x, h1, h2, h3, h4⟩
  · exact Or.inl ⟨h1, fun v hv => h2 v ((hPQ v).mp hv)⟩
  · exact Or.inr ⟨x, h1, h2, (hPQ x).mpr h3, fun v hv => h4 v ((hPQ v).mp hv)⟩
/-- one more that could be the best -/
theorem PzB_new {m : Bool} {P P1 Q : Nat → Prop} {e x1 : Nat} (hQ : ∀ v, Q v ↔ (P v ∨ ∃ v', P1 v' ∧ v = v' + e)) (h0 : ∀ v, ¬ P v) (h1 : PzB m P1 x1) : PzB m Q (x1 + e) := by
  refine ⟨(hQ _).mpr (Or.inr ⟨x1, h1.1, rfl⟩), fun v hv => ?_⟩
  rcases (hQ v).mp hv with q | ⟨v', q1, q2⟩
  · exact absurd q (h0 v)
  · have := h1.2 v' q1
    cases m with
    | true =>
      rw [if_pos rfl] at this ⊢
      omega
    | false =>
      rw [if_neg (by decide)] at this ⊢
      omega
theorem PzB_two {m : Bool} {P P1 Q : Nat → Prop} {e x x1 : Nat} (hQ : ∀ v, Q v ↔ (P v ∨ ∃ v', P1 v' ∧ v = v' + e)) (h0 : PzB m P x) (h1 : PzB m P1 x1) : PzB m Q (if m = true then (if x < x1 + e then x1 + e else x) else (if x1 + e < x then x1 + e else x)) := by
  have hx : Q x := (hQ x).mpr (Or.inl h0.1)
  have hy : Q (x1 + e) := (hQ _).mpr (Or.inr ⟨x1, h1.1, rfl⟩)
  refine ⟨?_, fun v hv => ?_⟩
  · split <;> split <;> assumption
  · rcases (hQ v).mp hv with q | ⟨v', q1, q2⟩
    · have := h0.2 v q
      cases m with
      | true =>
        rw [if_pos rfl] at this
        rw [if_pos rfl, if_pos rfl]
        split <;> omega
      | false =>
        rw [if_neg (by decide)] at this
        rw [if_neg (by decide), if_neg (by decide)]
        split <;> omega
    · have := h1.2 v' q1
      cases m with
      | true =>
        rw [if_pos rfl] at this
        rw [if_pos rfl, if_pos rfl]
        split <;> omega
      | false =>
        rw [if_neg (by decide)] at this
        rw [if_neg (by decide), if_neg (by decide)]
        split <;> omega
def pzI (w : Nat → Nat → Nat) (k to i : Nat) : Nat → Prop := fun v => ∃ c v', c < i ∧ PzR w 0 k c v' ∧ v = v' + w c to
theorem pzI_s {w : Nat → Nat → Nat} {k to i : Nat} (v : Nat) : pzI w k to (i + 1) v ↔ (pzI w k to i v ∨ ∃ v', PzR w 0 k i v' ∧ v = v' + w i to) := by
  constructor
  · rintro ⟨c, v', h1, h2, h3⟩
    by_cases q : c = i
    · subst q
      exact Or.inr ⟨v', h2, h3⟩
    · exact Or.inl ⟨c, v', by omega, h2, h3⟩
  · rintro (⟨c, v', h1, h2, h3⟩ | ⟨v', h2, h3⟩)
    · exact ⟨c, v', by omega, h2, h3⟩
    · exact ⟨i, v', by omega, h2, h3⟩
theorem nI_dbl (a : Nat) : 2 * nI a = nI (2 * a) := by
  rw [show (2 : Int32) = nI 2 from rfl, mul_nI]
theorem nI_p0 (a : Nat) : nI a + 0 = nI a := Int32.add_zero _
/-- a row of one number, put -/
def zrv (g : FA) (v : Int32) (n : Nat) : FA := fun j => if j < n then v else g j
theorem zrv_0 (g : FA) (v : Int32) : zrv g v 0 = g := by
  funext j
  exact if_neg (Nat.not_lt_zero j)
theorem zrv_s (g : FA) (v : Int32) (n : Nat) : upd (zrv g v n) n v = zrv g v (n + 1) := by
  funext j
  unfold upd zrv
  by_cases e : j = n
  · subst e
    simp
  · simp only [e, if_false]
    by_cases q : j < n
    · rw [if_pos q, if_pos (by omega)]
    · rw [if_neg q, if_neg (by omega)]
section TLs
variable {u : Nat → Option Nat}
set_option maxRecDepth 100000 in
theorem bf_2_1 (call : QC FA) (x1 : Int32) (o2 : Option PV) (o3 : Option PV) (z : Nat → Int32) (f : Nat → FA) (F : Nat) : rnG call 2 (F + 5) 0 [some (vR 22), some (vI x1), o2, o3] [] (LT u z f) = rnG call 2 F 5 [some (vR 22), some (vI x1), some (vI 0), some (vI (nI 401))] [] (LT u z f) := rfl
theorem vcf_2_0 (call : QC FA) (x1 : Int32) (o2 : Option PV) (o3 : Option PV) (z : Nat → Int32) (f : Nat → FA) (res : Option PV × QH FA) (H : RC call (mP 2) 5 [some (vR 22), some (vI x1), some (vI 0), some (vI (nI 401))] [] (LT u z f) res) : RC call (mP 2) 0 [some (vR 22), some (vI x1), o2, o3] [] (LT u z f) res := by
  refine rc_b (i' := 5) (ls' := [some (vR 22), some (vI x1), some (vI 0), some (vI (nI 401))]) (st' := []) (L' := LT u z f) 5 (bf_2_1 call x1 o2 o3 z f) ?_
  exact H
set_option maxRecDepth 100000 in
theorem bfc_2_1 (call : QC FA) (x1 : Int32) (x2 : Int32) (x3 : Int32) (L : QH FA) (F : Nat) : rnG call 2 (F + 2) 5 [some (vR 22), some (vI x1), some (vI x2), some (vI x3)] [] L = rnG call 2 F 7 [some (vR 22), some (vI x1), some (vI x2), some (vI x3)] [vI x3, vI x2] L := rfl
set_option maxRecDepth 100000 in
theorem bfc_2_2 (call : QC FA) (x y : Int32) (ls : List (Option PV)) (L : QH FA) (F : Nat) : rnG call 2 (F + 1) 7 ls [vI y, vI x] L = bif pcmp 3 x y then rnG call 2 F 14 ls [] L else rnG call 2 F 8 ls [] L := rfl
set_option maxRecDepth 100000 in
theorem bfc_2_3 (call : QC FA) (ls : List (Option PV)) (L : QH FA) (F : Nat) : rnG call 2 (F + 1) 14 ls [] L = some (none, L) := rfl
set_option maxRecDepth 100000 in
theorem bfc_2_4 (call : QC FA) (x1 : Int32) (x2 : Int32) (x3 : Int32) (L : QH FA) (F : Nat) : rnG call 2 (F + 3) 8 [some (vR 22), some (vI x1), some (vI x2), some (vI x3)] [] L = rnG call 2 F 11 [some (vR 22), some (vI x1), some (vI x2), some (vI x3)] [vI x1, vI x2, vR 22] L := rfl
set_option maxRecDepth 100000 in
theorem bfc_2_5 (call : QC FA) (x y : Int32) (ls : List (Option PV)) (z : Nat → Int32) (f : Nat → FA) (F : Nat) : rnG call 2 (F + 1) 11 ls [vI y, vI x, vR 22] (LT u z f) = bif (Nat.beq 0 0 && pin x 401) then rnG call 2 F 12 ls [] (LT u z (uA f 22 (upd (f 22) (ix x) y))) else none := rfl
set_option maxRecDepth 100000 in
theorem bfc_2_6 (call : QC FA) (x1 : Int32) (x2 : Int32) (x3 : Int32) (L : QH FA) (F : Nat) : rnG call 2 (F + 1) 12 [some (vR 22), some (vI x1), some (vI x2), some (vI x3)] [] L = rnG call 2 F 13 [some (vR 22), some (vI x1), some (vI (x2 + 1)), some (vI x3)] [] L := rfl
set_option maxRecDepth 100000 in
theorem bfc_2_7 (call : QC FA) (x1 : Int32) (x2 : Int32) (x3 : Int32) (L : QH FA) (F : Nat) : rnG call 2 (F + 1) 13 [some (vR 22), some (vI x1), some (vI x2), some (vI x3)] [] L = rnG call 2 F 5 [some (vR 22), some (vI x1), some (vI x2), some (vI x3)] [] L := rfl
theorem vcfc_2_5 (call : QC FA) (x1 : Int32) (x2 : Int32) (x3 : Int32) (z : Nat → Int32) (f : Nat → FA) (res : Option PV × QH FA) (H : ((I x3 ≤ I x2 → res = (none, LT u z f)) ∧ (I x2 < I x3 → (pin x2 401 = true ∧ RC call (mP 2) 5 [some (vR 22), some (vI x1), some (vI (x2 + 1)), some (vI x3)] [] (LT u z (uA f 22 (upd (f 22) (ix x2) x1))) res)))) : RC call (mP 2) 5 [some (vR 22), some (vI x1), some (vI x2), some (vI x3)] [] (LT u z f) res := by
  refine rc_b (i' := 7) (ls' := [some (vR 22), some (vI x1), some (vI x2), some (vI x3)]) (st' := [vI x3, vI x2]) (L' := LT u z f) 2 (bfc_2_1 call x1 x2 x3 _) ?_
  refine rc_if (it := 14) (ie := 8) (ls' := [some (vR 22), some (vI x1), some (vI x2), some (vI x3)]) (st' := []) (bfc_2_2 call x2 x3 _ _) (fun q1 => ?_) (fun q1 => ?_)
  · have H := H.1 (cI3t q1 rfl rfl)
    subst H
    exact rc_ret (bfc_2_3 call _ _)
  · have H := H.2 (cI3f q1 rfl rfl)
    refine rc_b (i' := 11) (ls' := [some (vR 22), some (vI x1), some (vI x2), some (vI x3)]) (st' := [vI x1, vI x2, vR 22]) (L' := LT u z f) 3 (bfc_2_4 call x1 x2 x3 _) ?_
    obtain ⟨g1, H⟩ := H
    refine rc_g (i' := 12) (ls' := [some (vR 22), some (vI x1), some (vI x2), some (vI x3)]) (st' := []) (L' := LT u z (uA f 22 (upd (f 22) (ix x2) x1))) (bfc_2_5 call x2 x1 _ z f) (pinG g1) ?_
    refine rc_b (i' := 13) (ls' := [some (vR 22), some (vI x1), some (vI (x2 + 1)), some (vI x3)]) (st' := []) (L' := LT u z (uA f 22 (upd (f 22) (ix x2) x1))) 1 (bfc_2_6 call x1 x2 x3 _) ?_
    refine rc_b (i' := 5) (ls' := [some (vR 22), some (vI x1), some (vI (x2 + 1)), some (vI x3)]) (st' := []) (L' := LT u z (uA f 22 (upd (f 22) (ix x2) x1))) 1 (bfc_2_7 call x1 (x2 + 1) x3 _) ?_
    exact H
set_option maxRecDepth 100000 in
theorem b108_1 (call : QC FA) (x1 : Int32) (x2 : Int32) (o3 : Option PV) (o4 : Option PV) (o5 : Option PV) (o6 : Option PV) (L : QH FA) (F : Nat) : rnG call 108 (F + 4) 0 [some (vR 21), some (vI x1), some (vI x2), o3, o4, o5, o6] [] L = rnG call 108 F 4 [some (vR 21), some (vI x1), some (vI x2), some (vI ((-1))), some (vI 0), o5, o6] [] L := rfl
theorem vc108_0 (call : QC FA) (x1 : Int32) (x2 : Int32) (o3 : Option PV) (o4 : Option PV) (o5 : Option PV) (o6 : Option PV) (z : Nat → Int32) (f : Nat → FA) (res : Option PV × QH FA) (H : RC call (mP 108) 4 [some (vR 21), some (vI x1), some (vI x2), some (vI ((-1))), some (vI 0), o5, o6] [] (LT u z f) res) : RC call (mP 108) 0 [some (vR 21), some (vI x1), some (vI x2), o3, o4, o5, o6] [] (LT u z f) res := by
  refine rc_b (i' := 4) (ls' := [some (vR 21), some (vI x1), some (vI x2), some (vI ((-1))), some (vI 0), o5, o6]) (st' := []) (L' := LT u z f) 4 (b108_1 call x1 x2 o3 o4 o5 o6 _) ?_
  exact H
set_option maxRecDepth 100000 in
theorem bc4_108_1 (call : QC FA) (x1 : Int32) (x2 : Int32) (x3 : Int32) (x4 : Int32) (o5 : Option PV) (o6 : Option PV) (L : QH FA) (F : Nat) : rnG call 108 (F + 2) 4 [some (vR 21), some (vI x1), some (vI x2), some (vI x3), some (vI x4), o5, o6] [] L = rnG call 108 F 6 [some (vR 21), some (vI x1), some (vI x2), some (vI x3), some (vI x4), o5, o6] [vI x1, vI x4] L := rfl
set_option maxRecDepth 100000 in
theorem bc4_108_2 (call : QC FA) (x y : Int32) (ls : List (Option PV)) (L : QH FA) (F : Nat) : rnG call 108 (F + 1) 6 ls [vI y, vI x] L = bif pcmp 3 x y then rnG call 108 F 60 ls [] L else rnG call 108 F 7 ls [] L := rfl
set_option maxRecDepth 100000 in
theorem bc4_108_3 (call : QC FA) (x1 : Int32) (x2 : Int32) (x3 : Int32) (x4 : Int32) (o5 : Option PV) (o6 : Option PV) (L : QH FA) (F : Nat) : rnG call 108 (F + 1) 60 [some (vR 21), some (vI x1), some (vI x2), some (vI x3), some (vI x4), o5, o6] [] L = rnG call 108 F 61 [some (vR 21), some (vI x1), some (vI x2), some (vI x3), some (vI x4), o5, o6] [vI x3] L := rfl
set_option maxRecDepth 100000 in
theorem bc4_108_4 (call : QC FA) (x : Int32) (ls : List (Option PV)) (L : QH FA) (F : Nat) : rnG call 108 (F + 1) 61 ls [vI x] L = some (some (vI x), L) := rfl
set_option maxRecDepth 100000 in
theorem bc4_108_5 (call : QC FA) (x1 : Int32) (x2 : Int32) (x3 : Int32) (x4 : Int32) (o5 : Option PV) (o6 : Option PV) (z : Nat → Int32) (f : Nat → FA) (F : Nat) : rnG call 108 (F + 4) 7 [some (vR 21), some (vI x1), some (vI x2), some (vI x3), some (vI x4), o5, o6] [] (LT u z f) = rnG call 108 F 11 [some (vR 21), some (vI x1), some (vI x2), some (vI x3), some (vI x4), o5, o6] [vI (nI 401), vI x1] (LT u z f) := rfl
set_option maxRecDepth 100000 in
theorem bc4_108_6 (call : QC FA) (x y : Int32) (ls : List (Option PV)) (L : QH FA) (F : Nat) : rnG call 108 (F + 1) 11 ls [vI y, vI x] L = bif pcmp 3 x y then rnG call 108 F 60 ls [] L else rnG call 108 F 12 ls [] L := rfl
set_option maxRecDepth 100000 in
theorem bc4_108_7 (call : QC FA) (x1 : Int32) (x2 : Int32) (x3 : Int32) (x4 : Int32) (o5 : Option PV) (o6 : Option PV) (z : Nat → Int32) (f : Nat → FA) (F : Nat) : rnG call 108 (F + 3) 12 [some (vR 21), some (vI x1), some (vI x2), some (vI x3), some (vI x4), o5, o6] [] (LT u z f) = rnG call 108 F 15 [some (vR 21), some (vI x1), some (vI x2), some (vI x3), some (vI x4), o5, o6] [vI x4, vR 22] (LT u z f) := rfl
set_option maxRecDepth 100000 in
theorem bc4_108_8 (call : QC FA) (x : Int32) (ls : List (Option PV)) (z : Nat → Int32) (f : Nat → FA) (F : Nat) : rnG call 108 (F + 1) 15 ls [vI x, vR 22] (LT u z f) = bif (Nat.beq 0 0 && pin x 401) then rnG call 108 F 16 ls [vI (f 22 (ix x))] (LT u z f) else none := rfl
set_option maxRecDepth 100000 in
theorem bc4_108_9 (call : QC FA) (x1 : Int32) (x2 : Int32) (x3 : Int32) (x4 : Int32) (o5 : Option PV) (o6 : Option PV) (s0 : Int32) (L : QH FA) (F : Nat) : rnG call 108 (F + 1) 16 [some (vR 21), some (vI x1), some (vI x2), some (vI x3), some (vI x4), o5, o6] [vI s0] L = rnG call 108 F 17 [some (vR 21), some (vI x1), some (vI x2), some (vI x3), some (vI x4), o5, o6] [vI ((-1)), vI s0] L := rfl
set_option maxRecDepth 100000 in
theorem bc4_108_10 (call : QC FA) (x y : Int32) (ls : List (Option PV)) (L : QH FA) (F : Nat) : rnG call 108 (F + 1) 17 ls [vI y, vI x] L = bif pcmp 0 x y then rnG call 108 F 58 ls [] L else rnG call 108 F 18 ls [] L := rfl
set_option maxRecDepth 100000 in
theorem bc4_108_11 (call : QC FA) (x1 : Int32) (x2 : Int32) (x3 : Int32) (x4 : Int32) (o5 : Option PV) (o6 : Option PV) (L : QH FA) (F : Nat) : rnG call 108 (F + 1) 58 [some (vR 21), some (vI x1), some (vI x2), some (vI x3), some (vI x4), o5, o6] [] L = rnG call 108 F 59 [some (vR 21), some (vI x1), some (vI x2), some (vI x3), some (vI (x4 + 1)), o5, o6] [] L := rfl
set_option maxRecDepth 100000 in
theorem bc4_108_12 (call : QC FA) (x1 : Int32) (x2 : Int32) (x3 : Int32) (x4 : Int32) (o5 : Option PV) (o6 : Option PV) (L : QH FA) (F : Nat) : rnG call 108 (F + 1) 59 [some (vR 21), some (vI x1), some (vI x2), some (vI x3), some (vI x4), o5, o6] [] L = rnG call 108 F 4 [some (vR 21), some (vI x1), some (vI x2), some (vI x3), some (vI x4), o5, o6] [] L := rfl
set_option maxRecDepth 100000 in
theorem bc4_108_13 (call : QC FA) (x1 : Int32) (x2 : Int32) (x3 : Int32) (x4 : Int32) (o5 : Option PV) (o6 : Option PV) (z : Nat → Int32) (f : Nat → FA) (F : Nat) : rnG call 108 (F + 4) 18 [some (vR 21), some (vI x1), some (vI x2), some (vI x3), some (vI x4), o5, o6] [] (LT u z f) = rnG call 108 F 22 [some (vR 21), some (vI x1), some (vI x2), some (vI x3), some (vI x4), o5, o6] [vI x1, vR 23, vI 2] (LT u z f) := rfl
set_option maxRecDepth 100000 in
theorem bc4_108_14 (call : QC FA) (x : Int32) (s0 : Int32) (ls : List (Option PV)) (z : Nat → Int32) (f : Nat → FA) (F : Nat) : rnG call 108 (F + 1) 22 ls [vI x, vR 23, vI s0] (LT u z f) = bif (Nat.beq 0 0 && pin x 401) then rnG call 108 F 23 ls [vI (f 23 (ix x)), vI s0] (LT u z f) else none := rfl
set_option maxRecDepth 100000 in
theorem bc4_108_15 (call : QC FA) (x1 : Int32) (x2 : Int32) (x3 : Int32) (x4 : Int32) (o5 : Option PV) (o6 : Option PV) (s0 : Int32) (s1 : Int32) (z : Nat → Int32) (f : Nat → FA) (F : Nat) : rnG call 108 (F + 3) 23 [some (vR 21), some (vI x1), some (vI x2), some (vI x3), some (vI x4), o5, o6] [vI s0, vI s1] (LT u z f) = rnG call 108 F 26 [some (vR 21), some (vI x1), some (vI x2), some (vI x3), some (vI x4), o5, o6] [vI x4, vR 23, vI s0, vI s1] (LT u z f) := rfl
set_option maxRecDepth 100000 in
theorem bc4_108_16 (call : QC FA) (x : Int32) (s0 : Int32) (s1 : Int32) (ls : List (Option PV)) (z : Nat → Int32) (f : Nat → FA) (F : Nat) : rnG call 108 (F + 1) 26 ls [vI x, vR 23, vI s0, vI s1] (LT u z f) = bif (Nat.beq 0 0 && pin x 401) then rnG call 108 F 27 ls [vI (f 23 (ix x)), vI s0, vI s1] (LT u z f) else none := rfl
set_option maxRecDepth 100000 in
theorem bc4_108_17 (call : QC FA) (x1 : Int32) (x2 : Int32) (x3 : Int32) (x4 : Int32) (o5 : Option PV) (o6 : Option PV) (s0 : Int32) (s1 : Int32) (s2 : Int32) (L : QH FA) (F : Nat) : rnG call 108 (F + 5) 27 [some (vR 21), some (vI x1), some (vI x2), some (vI x3), some (vI x4), o5, o6] [vI s0, vI s1, vI s2] L = rnG call 108 F 32 [some (vR 21), some (vI x1), some (vI x2), some (vI x3), some (vI x4), o5, o6] [vI (x1 - x4), vI (s2 * (s1 - s0))] L := rfl
set_option maxRecDepth 100000 in
theorem bc4_108_18 (call : QC FA) (x y : Int32) (ls : List (Option PV)) (L : QH FA) (F : Nat) : rnG call 108 (F + 1) 32 ls [vI y, vI x] L = bif pcmp 5 x y then rnG call 108 F 35 ls [] L else rnG call 108 F 33 ls [] L := rfl
set_option maxRecDepth 100000 in
theorem bc4_108_19 (call : QC FA) (x1 : Int32) (x2 : Int32) (x3 : Int32) (x4 : Int32) (o5 : Option PV) (o6 : Option PV) (z : Nat → Int32) (f : Nat → FA) (F : Nat) : rnG call 108 (F + 5) 35 [some (vR 21), some (vI x1), some (vI x2), some (vI x3), some (vI x4), o5, o6] [] (LT u z f) = rnG call 108 F 40 [some (vR 21), some (vI x1), some (vI x2), some (vI x3), some (vI x4), some (vI 0), o6] [vI x4, vR 22] (LT u z f) := rfl
set_option maxRecDepth 100000 in
theorem bc4_108_20 (call : QC FA) (x : Int32) (ls : List (Option PV)) (z : Nat → Int32) (f : Nat → FA) (F : Nat) : rnG call 108 (F + 1) 40 ls [vI x, vR 22] (LT u z f) = bif (Nat.beq 0 0 && pin x 401) then rnG call 108 F 41 ls [vI (f 22 (ix x))] (LT u z f) else none := rfl
set_option maxRecDepth 100000 in
theorem bc4_108_21 (call : QC FA) (x1 : Int32) (x2 : Int32) (x3 : Int32) (x4 : Int32) (x5 : Int32) (o6 : Option PV) (s0 : Int32) (L : QH FA) (F : Nat) : rnG call 108 (F + 5) 41 [some (vR 21), some (vI x1), some (vI x2), some (vI x3), some (vI x4), some (vI x5), o6] [vI s0] L = rnG call 108 F 46 [some (vR 21), some (vI x1), some (vI x2), some (vI x3), some (vI x4), some (vI x5), some (vI (s0 + x5))] [vI ((-1)), vI x3] L := rfl
set_option maxRecDepth 100000 in
theorem bc4_108_22 (call : QC FA) (x y : Int32) (ls : List (Option PV)) (L : QH FA) (F : Nat) : rnG call 108 (F + 1) 46 ls [vI y, vI x] L = bif pcmp 0 x y then rnG call 108 F 56 ls [] L else rnG call 108 F 47 ls [] L := rfl
set_option maxRecDepth 100000 in
theorem bc4_108_23 (call : QC FA) (x1 : Int32) (x2 : Int32) (x3 : Int32) (x4 : Int32) (x5 : Int32) (x6 : Int32) (L : QH FA) (F : Nat) : rnG call 108 (F + 2) 56 [some (vR 21), some (vI x1), some (vI x2), some (vI x3), some (vI x4), some (vI x5), some (vI x6)] [] L = rnG call 108 F 58 [some (vR 21), some (vI x1), some (vI x2), some (vI x6), some (vI x4), some (vI x5), some (vI x6)] [] L := rfl
set_option maxRecDepth 100000 in
theorem bc4_108_24 (call : QC FA) (x1 : Int32) (x2 : Int32) (x3 : Int32) (x4 : Int32) (x5 : Int32) (x6 : Int32) (L : QH FA) (F : Nat) : rnG call 108 (F + 1) 58 [some (vR 21), some (vI x1), some (vI x2), some (vI x3), some (vI x4), some (vI x5), some (vI x6)] [] L = rnG call 108 F 59 [some (vR 21), some (vI x1), some (vI x2), some (vI x3), some (vI (x4 + 1)), some (vI x5), some (vI x6)] [] L := rfl
set_option maxRecDepth 100000 in
theorem bc4_108_25 (call : QC FA) (x1 : Int32) (x2 : Int32) (x3 : Int32) (x4 : Int32) (x5 : Int32) (x6 : Int32) (L : QH FA) (F : Nat) : rnG call 108 (F + 1) 59 [some (vR 21), some (vI x1), some (vI x2), some (vI x3), some (vI x4), some (vI x5), some (vI x6)] [] L = rnG call 108 F 4 [some (vR 21), some (vI x1), some (vI x2), some (vI x3), some (vI x4), some (vI x5), some (vI x6)] [] L := rfl
set_option maxRecDepth 100000 in
theorem bc4_108_26 (call : QC FA) (x1 : Int32) (x2 : Int32) (x3 : Int32) (x4 : Int32) (x5 : Int32) (x6 : Int32) (L : QH FA) (F : Nat) : rnG call 108 (F + 1) 47 [some (vR 21), some (vI x1), some (vI x2), some (vI x3), some (vI x4), some (vI x5), some (vI x6)] [] L = rnG call 108 F 48 [some (vR 21), some (vI x1), some (vI x2), some (vI x3), some (vI x4), some (vI x5), some (vI x6)] [vI x2] L := rfl
set_option maxRecDepth 100000 in
theorem bc4_108_27 (call : QC FA) (x : Int32) (ls : List (Option PV)) (L : QH FA) (F : Nat) : rnG call 108 (F + 1) 48 ls [vI x] L = bif pcmp 0 x 0 then rnG call 108 F 53 ls [] L else rnG call 108 F 49 ls [] L := rfl
set_option maxRecDepth 100000 in
theorem bc4_108_28 (call : QC FA) (x1 : Int32) (x2 : Int32) (x3 : Int32) (x4 : Int32) (x5 : Int32) (x6 : Int32) (L : QH FA) (F : Nat) : rnG call 108 (F + 2) 53 [some (vR 21), some (vI x1), some (vI x2), some (vI x3), some (vI x4), some (vI x5), some (vI x6)] [] L = rnG call 108 F 55 [some (vR 21), some (vI x1), some (vI x2), some (vI x3), some (vI x4), some (vI x5), some (vI x6)] [vI x3, vI x6] L := rfl
set_option maxRecDepth 100000 in
theorem bc4_108_29 (call : QC FA) (x y : Int32) (ls : List (Option PV)) (L : QH FA) (F : Nat) : rnG call 108 (F + 1) 55 ls [vI y, vI x] L = bif pcmp 3 x y then rnG call 108 F 58 ls [] L else rnG call 108 F 56 ls [] L := rfl
set_option maxRecDepth 100000 in
theorem bc4_108_30 (call : QC FA) (x1 : Int32) (x2 : Int32) (x3 : Int32) (x4 : Int32) (x5 : Int32) (x6 : Int32) (L : QH FA) (F : Nat) : rnG call 108 (F + 2) 49 [some (vR 21), some (vI x1), some (vI x2), some (vI x3), some (vI x4), some (vI x5), some (vI x6)] [] L = rnG call 108 F 51 [some (vR 21), some (vI x1), some (vI x2), some (vI x3), some (vI x4), some (vI x5), some (vI x6)] [vI x3, vI x6] L := rfl
set_option maxRecDepth 100000 in
theorem bc4_108_31 (call : QC FA) (x y : Int32) (ls : List (Option PV)) (L : QH FA) (F : Nat) : rnG call 108 (F + 1) 51 ls [vI y, vI x] L = bif pcmp 5 x y then rnG call 108 F 58 ls [] L else rnG call 108 F 52 ls [] L := rfl
set_option maxRecDepth 100000 in
theorem bc4_108_32 (call : QC FA) (x1 : Int32) (x2 : Int32) (x3 : Int32) (x4 : Int32) (x5 : Int32) (x6 : Int32) (L : QH FA) (F : Nat) : rnG call 108 (F + 3) 52 [some (vR 21), some (vI x1), some (vI x2), some (vI x3), some (vI x4), some (vI x5), some (vI x6)] [] L = rnG call 108 F 58 [some (vR 21), some (vI x1), some (vI x2), some (vI x6), some (vI x4), some (vI x5), some (vI x6)] [] L := rfl
set_option maxRecDepth 100000 in
theorem bc4_108_33 (call : QC FA) (x1 : Int32) (x2 : Int32) (x3 : Int32) (x4 : Int32) (o5 : Option PV) (o6 : Option PV) (z : Nat → Int32) (f : Nat → FA) (F : Nat) : rnG call 108 (F + 6) 33 [some (vR 21), some (vI x1), some (vI x2), some (vI x3), some (vI x4), o5, o6] [] (LT u z f) = rnG call 108 F 40 [some (vR 21), some (vI x1), some (vI x2), some (vI x3), some (vI x4), some (vI 1), o6] [vI x4, vR 22] (LT u z f) := rfl
theorem vcc4_108_4 (call : QC FA) (x1 : Int32) (x2 : Int32) (x3 : Int32) (x4 : Int32) (o5 : Option PV) (o6 : Option PV) (z : Nat → Int32) (f : Nat → FA) (res : Option PV × QH FA) (H : ((I x1 ≤ I x4 → res = (some (vI x3), LT u z f)) ∧ (I x4 < I x1 → ((I (nI 401) ≤ I x1 → res = (some (vI x3), LT u z f)) ∧ (I x1 < I (nI 401) → (pin x4 401 = true ∧ ((f 22 (ix x4) = (-1) → RC call (mP 108) 4 [some (vR 21), some (vI x1), some (vI x2), some (vI x3), some (vI (x4 + 1)), o5, o6] [] (LT u z f) res) ∧ (¬ f 22 (ix x4) = (-1) → (pin x1 401 = true ∧ (pin x4 401 = true ∧ ((I (2 * ((f 23 (ix x1)) - (f 23 (ix x4)))) ≤ I (x1 - x4) → (pin x4 401 = true ∧ ((x3 = (-1) → RC call (mP 108) 4 [some (vR 21), some (vI x1), some (vI x2), some (vI ((f 22 (ix x4)) + 0)), some (vI (x4 + 1)), some (vI 0), some (vI ((f 22 (ix x4)) + 0))] [] (LT u z f) res) ∧ (¬ x3 = (-1) → ((x2 = 0 → ((I x3 ≤ I ((f 22 (ix x4)) + 0) → RC call (mP 108) 4 [some (vR 21), some (vI x1), some (vI x2), some (vI x3), some (vI (x4 + 1)), some (vI 0), some (vI ((f 22 (ix x4)) + 0))] [] (LT u z f) res) ∧ (I ((f 22 (ix x4)) + 0) < I x3 → RC call (mP 108) 4 [some (vR 21), some (vI x1), some (vI x2), some (vI ((f 22 (ix x4)) + 0)), some (vI (x4 + 1)), some (vI 0), some (vI ((f 22 (ix x4)) + 0))] [] (LT u z f) res))) ∧ (¬ x2 = 0 → ((I ((f 22 (ix x4)) + 0) ≤ I x3 → RC call (mP 108) 4 [some (vR 21), some (vI x1), some (vI x2), some (vI x3), some (vI (x4 + 1)), some (vI 0), some (vI ((f 22 (ix x4)) + 0))] [] (LT u z f) res) ∧ (I x3 < I ((f 22 (ix x4)) + 0) → RC call (mP 108) 4 [some (vR 21), some (vI x1), some (vI x2), some (vI ((f 22 (ix x4)) + 0)), some (vI (x4 + 1)), some (vI 0), some (vI ((f 22 (ix x4)) + 0))] [] (LT u z f) res)))))))) ∧ (I (x1 - x4) < I (2 * ((f 23 (ix x1)) - (f 23 (ix x4)))) → (pin x4 401 = true ∧ ((x3 = (-1) → RC call (mP 108) 4 [some (vR 21), some (vI x1), some (vI x2), some (vI ((f 22 (ix x4)) + 1)), some (vI (x4 + 1)), some (vI 1), some (vI ((f 22 (ix x4)) + 1))] [] (LT u z f) res) ∧ (¬ x3 = (-1) → ((x2 = 0 → ((I x3 ≤ I ((f 22 (ix x4)) + 1) → RC call (mP 108) 4 [some (vR 21), some (vI x1), some (vI x2), some (vI x3), some (vI (x4 + 1)), some (vI 1), some (vI ((f 22 (ix x4)) + 1))] [] (LT u z f) res) ∧ (I ((f 22 (ix x4)) + 1) < I x3 → RC call (mP 108) 4 [some (vR 21), some (vI x1), some (vI x2), some (vI ((f 22 (ix x4)) + 1)), some (vI (x4 + 1)), some (vI 1), some (vI ((f 22 (ix x4)) + 1))] [] (LT u z f) res))) ∧ (¬ x2 = 0 → ((I ((f 22 (ix x4)) + 1) ≤ I x3 → RC call (mP 108) 4 [some (vR 21), some (vI x1), some (vI x2), some (vI x3), some (vI (x4 + 1)), some (vI 1), some (vI ((f 22 (ix x4)) + 1))] [] (LT u z f) res) ∧ (I x3 < I ((f 22 (ix x4)) + 1) → RC call (mP 108) 4 [some (vR 21), some (vI x1), some (vI x2), some (vI ((f 22 (ix x4)) + 1)), some (vI (x4 + 1)), some (vI 1), some (vI ((f 22 (ix x4)) + 1))] [] (LT u z f) res))))))))))))))))))) : RC call (mP 108) 4 [some (vR 21), some (vI x1), some (vI x2), some (vI x3), some (vI x4), o5, o6] [] (LT u z f) res := by
  refine rc_b (i' := 6) (ls' := [some (vR 21), some (vI x1), some (vI x2), some (vI x3), some (vI x4), o5, o6]) (st' := [vI x1, vI x4]) (L' := LT u z f) 2 (bc4_108_1 call x1 x2 x3 x4 o5 o6 _) ?_
  refine rc_if (it := 60) (ie := 7) (ls' := [some (vR 21), some (vI x1), some (vI x2), some (vI x3), some (vI x4), o5, o6]) (st' := []) (bc4_108_2 call x4 x1 _ _) (fun q1 => ?_) (fun q1 => ?_)
  · have H := H.1 (cI3t q1 rfl rfl)
    refine rc_b (i' := 61) (ls' := [some (vR 21), some (vI x1), some (vI x2), some (vI x3), some (vI x4), o5, o6]) (st' := [vI x3]) (L' := LT u z f) 1 (bc4_108_3 call x1 x2 x3 x4 o5 o6 _) ?_
    subst H
    exact rc_ret (bc4_108_4 call _ _ _)
  · have H := H.2 (cI3f q1 rfl rfl)
    refine rc_b (i' := 11) (ls' := [some (vR 21), some (vI x1), some (vI x2), some (vI x3), some (vI x4), o5, o6]) (st' := [vI (nI 401), vI x1]) (L' := LT u z f) 4 (bc4_108_5 call x1 x2 x3 x4 o5 o6 z f) ?_
    refine rc_if (it := 60) (ie := 12) (ls' := [some (vR 21), some (vI x1), some (vI x2), some (vI x3), some (vI x4), o5, o6]) (st' := []) (bc4_108_6 call x1 (nI 401) _ _) (fun q2 => ?_) (fun q2 => ?_)
    · have H := H.1 (cI3t q2 rfl rfl)
      refine rc_b (i' := 61) (ls' := [some (vR 21), some (vI x1), some (vI x2), some (vI x3), some (vI x4), o5, o6]) (st' := [vI x3]) (L' := LT u z f) 1 (bc4_108_3 call x1 x2 x3 x4 o5 o6 _) ?_
      subst H
      exact rc_ret (bc4_108_4 call _ _ _)
    · have H := H.2 (cI3f q2 rfl rfl)
      refine rc_b (i' := 15) (ls' := [some (vR 21), some (vI x1), some (vI x2), some (vI x3), some (vI x4), o5, o6]) (st' := [vI x4, vR 22]) (L' := LT u z f) 3 (bc4_108_7 call x1 x2 x3 x4 o5 o6 z f) ?_
      obtain ⟨g1, H⟩ := H
      refine rc_g (i' := 16) (ls' := [some (vR 21), some (vI x1), some (vI x2), some (vI x3), some (vI x4), o5, o6]) (st' := [vI (f 22 (ix x4))]) (L' := LT u z f) (bc4_108_8 call x4 _ z f) (pinG g1) ?_
      refine rc_b (i' := 17) (ls' := [some (vR 21), some (vI x1), some (vI x2), some (vI x3), some (vI x4), o5, o6]) (st' := [vI ((-1)), vI (f 22 (ix x4))]) (L' := LT u z f) 1 (bc4_108_9 call x1 x2 x3 x4 o5 o6 (f 22 (ix x4)) _) ?_
      refine rc_if (it := 58) (ie := 18) (ls' := [some (vR 21), some (vI x1), some (vI x2), some (vI x3), some (vI x4), o5, o6]) (st' := []) (bc4_108_10 call (f 22 (ix x4)) ((-1)) _ _) (fun q3 => ?_) (fun q3 => ?_)
      · have H := H.1 (cI0t q3)
        refine rc_b (i' := 59) (ls' := [some (vR 21), some (vI x1), some (vI x2), some (vI x3), some (vI (x4 + 1)), o5, o6]) (st' := []) (L' := LT u z f) 1 (bc4_108_11 call x1 x2 x3 x4 o5 o6 _) ?_
        refine rc_b (i' := 4) (ls' := [some (vR 21), some (vI x1), some (vI x2), some (vI x3), some (vI (x4 + 1)), o5, o6]) (st' := []) (L' := LT u z f) 1 (bc4_108_12 call x1 x2 x3 (x4 + 1) o5 o6 _) ?_
        exact H
      · have H := H.2 (cI0f q3)
        refine rc_b (i' := 22) (ls' := [some (vR 21), some (vI x1), some (vI x2), some (vI x3), some (vI x4), o5, o6]) (st' := [vI x1, vR 23, vI 2]) (L' := LT u z f) 4 (bc4_108_13 call x1 x2 x3 x4 o5 o6 z f) ?_
        obtain ⟨g1, H⟩ := H
        refine rc_g (i' := 23) (ls' := [some (vR 21), some (vI x1), some (vI x2), some (vI x3), some (vI x4), o5, o6]) (st' := [vI (f 23 (ix x1)), vI 2]) (L' := LT u z f) (bc4_108_14 call x1 2 _ z f) (pinG g1) ?_
        refine rc_b (i' := 26) (ls' := [some (vR 21), some (vI x1), some (vI x2), some (vI x3), some (vI x4), o5, o6]) (st' := [vI x4, vR 23, vI (f 23 (ix x1)), vI 2]) (L' := LT u z f) 3 (bc4_108_15 call x1 x2 x3 x4 o5 o6 (f 23 (ix x1)) 2 z f) ?_
        obtain ⟨g1, H⟩ := H
        refine rc_g (i' := 27) (ls' := [some (vR 21), some (vI x1), some (vI x2), some (vI x3), some (vI x4), o5, o6]) (st' := [vI (f 23 (ix x4)), vI (f 23 (ix x1)), vI 2]) (L' := LT u z f) (bc4_108_16 call x4 (f 23 (ix x1)) 2 _ z f) (pinG g1) ?_
        refine rc_b (i' := 32) (ls' := [some (vR 21), some (vI x1), some (vI x2), some (vI x3), some (vI x4), o5, o6]) (st' := [vI (x1 - x4), vI (2 * ((f 23 (ix x1)) - (f 23 (ix x4))))]) (L' := LT u z f) 5 (bc4_108_17 call x1 x2 x3 x4 o5 o6 (f 23 (ix x4)) (f 23 (ix x1)) 2 _) ?_
        refine rc_if (it := 35) (ie := 33) (ls' := [some (vR 21), some (vI x1), some (vI x2), some (vI x3), some (vI x4), o5, o6]) (st' := []) (bc4_108_18 call (2 * ((f 23 (ix x1)) - (f 23 (ix x4)))) (x1 - x4) _ _) (fun q4 => ?_) (fun q4 => ?_)
        · have H := H.1 (cI5t q4 rfl rfl)
          refine rc_b (i' := 40) (ls' := [some (vR 21), some (vI x1), some (vI x2), some (vI x3), some (vI x4), some (vI 0), o6]) (st' := [vI x4, vR 22]) (L' := LT u z f) 5 (bc4_108_19 call x1 x2 x3 x4 o5 o6 z f) ?_
          obtain ⟨g1, H⟩ := H
          refine rc_g (i' := 41) (ls' := [some (vR 21), some (vI x1), some (vI x2), some (vI x3), some (vI x4), some (vI 0), o6]) (st' := [vI (f 22 (ix x4))]) (L' := LT u z f) (bc4_108_20 call x4 _ z f) (pinG g1) ?_
          refine rc_b (i' := 46) (ls' := [some (vR 21), some (vI x1), some (vI x2), some (vI x3), some (vI x4), some (vI 0), some (vI ((f 22 (ix x4)) + 0))]) (st' := [vI ((-1)), vI x3]) (L' := LT u z f) 5 (bc4_108_21 call x1 x2 x3 x4 0 o6 (f 22 (ix x4)) _) ?_
          refine rc_if (it := 56) (ie := 47) (ls' := [some (vR 21), some (vI x1), some (vI x2), some (vI x3), some (vI x4), some (vI 0), some (vI ((f 22 (ix x4)) + 0))]) (st' := []) (bc4_108_22 call x3 ((-1)) _ _) (fun q5 => ?_) (fun q5 => ?_)
          · have H := H.1 (cI0t q5)
            refine rc_b (i' := 58) (ls' := [some (vR 21), some (vI x1), some (vI x2), some (vI ((f 22 (ix x4)) + 0)), some (vI x4), some (vI 0), some (vI ((f 22 (ix x4)) + 0))]) (st' := []) (L' := LT u z f) 2 (bc4_108_23 call x1 x2 x3 x4 0 ((f 22 (ix x4)) + 0) _) ?_
            refine rc_b (i' := 59) (ls' := [some (vR 21), some (vI x1), some (vI x2), some (vI ((f 22 (ix x4)) + 0)), some (vI (x4 + 1)), some (vI 0), some (vI ((f 22 (ix x4)) + 0))]) (st' := []) (L' := LT u z f) 1 (bc4_108_24 call x1 x2 ((f 22 (ix x4)) + 0) x4 0 ((f 22 (ix x4)) + 0) _) ?_
            refine rc_b (i' := 4) (ls' := [some (vR 21), some (vI x1), some (vI x2), some (vI ((f 22 (ix x4)) + 0)), some (vI (x4 + 1)), some (vI 0), some (vI ((f 22 (ix x4)) + 0))]) (st' := []) (L' := LT u z f) 1 (bc4_108_25 call x1 x2 ((f 22 (ix x4)) + 0) (x4 + 1) 0 ((f 22 (ix x4)) + 0) _) ?_
            exact H
          · have H := H.2 (cI0f q5)
            refine rc_b (i' := 48) (ls' := [some (vR 21), some (vI x1), some (vI x2), some (vI x3), some (vI x4), some (vI 0), some (vI ((f 22 (ix x4)) + 0))]) (st' := [vI x2]) (L' := LT u z f) 1 (bc4_108_26 call x1 x2 x3 x4 0 ((f 22 (ix x4)) + 0) _) ?_
            refine rc_if (it := 53) (ie := 49) (ls' := [some (vR 21), some (vI x1), some (vI x2), some (vI x3), some (vI x4), some (vI 0), some (vI ((f 22 (ix x4)) + 0))]) (st' := []) (bc4_108_27 call x2 _ _) (fun q6 => ?_) (fun q6 => ?_)
            · have H := H.1 (cI0t q6)
              refine rc_b (i' := 55) (ls' := [some (vR 21), some (vI x1), some (vI x2), some (vI x3), some (vI x4), some (vI 0), some (vI ((f 22 (ix x4)) + 0))]) (st' := [vI x3, vI ((f 22 (ix x4)) + 0)]) (L' := LT u z f) 2 (bc4_108_28 call x1 x2 x3 x4 0 ((f 22 (ix x4)) + 0) _) ?_
              refine rc_if (it := 58) (ie := 56) (ls' := [some (vR 21), some (vI x1), some (vI x2), some (vI x3), some (vI x4), some (vI 0), some (vI ((f 22 (ix x4)) + 0))]) (st' := []) (bc4_108_29 call ((f 22 (ix x4)) + 0) x3 _ _) (fun q7 => ?_) (fun q7 => ?_)
              · have H := H.1 (cI3t q7 rfl rfl)
                refine rc_b (i' := 59) (ls' := [some (vR 21), some (vI x1), some (vI x2), some (vI x3), some (vI (x4 + 1)), some (vI 0), some (vI ((f 22 (ix x4)) + 0))]) (st' := []) (L' := LT u z f) 1 (bc4_108_24 call x1 x2 x3 x4 0 ((f 22 (ix x4)) + 0) _) ?_
                refine rc_b (i' := 4) (ls' := [some (vR 21), some (vI x1), some (vI x2), some (vI x3), some (vI (x4 + 1)), some (vI 0), some (vI ((f 22 (ix x4)) + 0))]) (st' := []) (L' := LT u z f) 1 (bc4_108_25 call x1 x2 x3 (x4 + 1) 0 ((f 22 (ix x4)) + 0) _) ?_
                exact H
              · have H := H.2 (cI3f q7 rfl rfl)
                refine rc_b (i' := 58) (ls' := [some (vR 21), some (vI x1), some (vI x2), some (vI ((f 22 (ix x4)) + 0)), some (vI x4), some (vI 0), some (vI ((f 22 (ix x4)) + 0))]) (st' := []) (L' := LT u z f) 2 (bc4_108_23 call x1 x2 x3 x4 0 ((f 22 (ix x4)) + 0) _) ?_
                refine rc_b (i' := 59) (ls' := [some (vR 21), some (vI x1), some (vI x2), some (vI ((f 22 (ix x4)) + 0)), some (vI (x4 + 1)), some (vI 0), some (vI ((f 22 (ix x4)) + 0))]) (st' := []) (L' := LT u z f) 1 (bc4_108_24 call x1 x2 ((f 22 (ix x4)) + 0) x4 0 ((f 22 (ix x4)) + 0) _) ?_
                refine rc_b (i' := 4) (ls' := [some (vR 21), some (vI x1), some (vI x2), some (vI ((f 22 (ix x4)) + 0)), some (vI (x4 + 1)), some (vI 0), some (vI ((f 22 (ix x4)) + 0))]) (st' := []) (L' := LT u z f) 1 (bc4_108_25 call x1 x2 ((f 22 (ix x4)) + 0) (x4 + 1) 0 ((f 22 (ix x4)) + 0) _) ?_
                exact H
            · have H := H.2 (cI0f q6)
              refine rc_b (i' := 51) (ls' := [some (vR 21), some (vI x1), some (vI x2), some (vI x3), some (vI x4), some (vI 0), some (vI ((f 22 (ix x4)) + 0))]) (st' := [vI x3, vI ((f 22 (ix x4)) + 0)]) (L' := LT u z f) 2 (bc4_108_30 call x1 x2 x3 x4 0 ((f 22 (ix x4)) + 0) _) ?_
              refine rc_if (it := 58) (ie := 52) (ls' := [some (vR 21), some (vI x1), some (vI x2), some (vI x3), some (vI x4), some (vI 0), some (vI ((f 22 (ix x4)) + 0))]) (st' := []) (bc4_108_31 call ((f 22 (ix x4)) + 0) x3 _ _) (fun q8 => ?_) (fun q8 => ?_)
              · have H := H.1 (cI5t q8 rfl rfl)
                refine rc_b (i' := 59) (ls' := [some (vR 21), some (vI x1), some (vI x2), some (vI x3), some (vI (x4 + 1)), some (vI 0), some (vI ((f 22 (ix x4)) + 0))]) (st' := []) (L' := LT u z f) 1 (bc4_108_24 call x1 x2 x3 x4 0 ((f 22 (ix x4)) + 0) _) ?_
                refine rc_b (i' := 4) (ls' := [some (vR 21), some (vI x1), some (vI x2), some (vI x3), some (vI (x4 + 1)), some (vI 0), some (vI ((f 22 (ix x4)) + 0))]) (st' := []) (L' := LT u z f) 1 (bc4_108_25 call x1 x2 x3 (x4 + 1) 0 ((f 22 (ix x4)) + 0) _) ?_
                exact H
              · have H := H.2 (cI5f q8 rfl rfl)
                refine rc_b (i' := 58) (ls' := [some (vR 21), some (vI x1), some (vI x2), some (vI ((f 22 (ix x4)) + 0)), some (vI x4), some (vI 0), some (vI ((f 22 (ix x4)) + 0))]) (st' := []) (L' := LT u z f) 3 (bc4_108_32 call x1 x2 x3 x4 0 ((f 22 (ix x4)) + 0) _) ?_
                refine rc_b (i' := 59) (ls' := [some (vR 21), some (vI x1), some (vI x2), some (vI ((f 22 (ix x4)) + 0)), some (vI (x4 + 1)), some (vI 0), some (vI ((f 22 (ix x4)) + 0))]) (st' := []) (L' := LT u z f) 1 (bc4_108_24 call x1 x2 ((f 22 (ix x4)) + 0) x4 0 ((f 22 (ix x4)) + 0) _) ?_
                refine rc_b (i' := 4) (ls' := [some (vR 21), some (vI x1), some (vI x2), some (vI ((f 22 (ix x4)) + 0)), some (vI (x4 + 1)), some (vI 0), some (vI ((f 22 (ix x4)) + 0))]) (st' := []) (L' := LT u z f) 1 (bc4_108_25 call x1 x2 ((f 22 (ix x4)) + 0) (x4 + 1) 0 ((f 22 (ix x4)) + 0) _) ?_
                exact H
        · have H := H.2 (cI5f q4 rfl rfl)
          refine rc_b (i' := 40) (ls' := [some (vR 21), some (vI x1), some (vI x2), some (vI x3), some (vI x4), some (vI 1), o6]) (st' := [vI x4, vR 22]) (L' := LT u z f) 6 (bc4_108_33 call x1 x2 x3 x4 o5 o6 z f) ?_
          obtain ⟨g1, H⟩ := H
          refine rc_g (i' := 41) (ls' := [some (vR 21), some (vI x1), some (vI x2), some (vI x3), some (vI x4), some (vI 1), o6]) (st' := [vI (f 22 (ix x4))]) (L' := LT u z f) (bc4_108_20 call x4 _ z f) (pinG g1) ?_
          refine rc_b (i' := 46) (ls' := [some (vR 21), some (vI x1), some (vI x2), some (vI x3), some (vI x4), some (vI 1), some (vI ((f 22 (ix x4)) + 1))]) (st' := [vI ((-1)), vI x3]) (L' := LT u z f) 5 (bc4_108_21 call x1 x2 x3 x4 1 o6 (f 22 (ix x4)) _) ?_
          refine rc_if (it := 56) (ie := 47) (ls' := [some (vR 21), some (vI x1), some (vI x2), some (vI x3), some (vI x4), some (vI 1), some (vI ((f 22 (ix x4)) + 1))]) (st' := []) (bc4_108_22 call x3 ((-1)) _ _) (fun q9 => ?_) (fun q9 => ?_)
          · have H := H.1 (cI0t q9)
            refine rc_b (i' := 58) (ls' := [some (vR 21), some (vI x1), some (vI x2), some (vI ((f 22 (ix x4)) + 1)), some (vI x4), some (vI 1), some (vI ((f 22 (ix x4)) + 1))]) (st' := []) (L' := LT u z f) 2 (bc4_108_23 call x1 x2 x3 x4 1 ((f 22 (ix x4)) + 1) _) ?_
            refine rc_b (i' := 59) (ls' := [some (vR 21), some (vI x1), some (vI x2), some (vI ((f 22 (ix x4)) + 1)), some (vI (x4 + 1)), some (vI 1), some (vI ((f 22 (ix x4)) + 1))]) (st' := []) (L' := LT u z f) 1 (bc4_108_24 call x1 x2 ((f 22 (ix x4)) + 1) x4 1 ((f 22 (ix x4)) + 1) _) ?_
            refine rc_b (i' := 4) (ls' := [some (vR 21), some (vI x1), some (vI x2), some (vI ((f 22 (ix x4)) + 1)), some (vI (x4 + 1)), some (vI 1), some (vI ((f 22 (ix x4)) + 1))]) (st' := []) (L' := LT u z f) 1 (bc4_108_25 call x1 x2 ((f 22 (ix x4)) + 1) (x4 + 1) 1 ((f 22 (ix x4)) + 1) _) ?_
            exact H
          · have H := H.2 (cI0f q9)
            refine rc_b (i' := 48) (ls' := [some (vR 21), some (vI x1), some (vI x2), some (vI x3), some (vI x4), some (vI 1), some (vI ((f 22 (ix x4)) + 1))]) (st' := [vI x2]) (L' := LT u z f) 1 (bc4_108_26 call x1 x2 x3 x4 1 ((f 22 (ix x4)) + 1) _) ?_
            refine rc_if (it := 53) (ie := 49) (ls' := [some (vR 21), some (vI x1), some (vI x2), some (vI x3), some (vI x4), some (vI 1), some (vI ((f 22 (ix x4)) + 1))]) (st' := []) (bc4_108_27 call x2 _ _) (fun q10 => ?_) (fun q10 => ?_)
            · have H := H.1 (cI0t q10)
              refine rc_b (i' := 55) (ls' := [some (vR 21), some (vI x1), some (vI x2), some (vI x3), some (vI x4), some (vI 1), some (vI ((f 22 (ix x4)) + 1))]) (st' := [vI x3, vI ((f 22 (ix x4)) + 1)]) (L' := LT u z f) 2 (bc4_108_28 call x1 x2 x3 x4 1 ((f 22 (ix x4)) + 1) _) ?_
              refine rc_if (it := 58) (ie := 56) (ls' := [some (vR 21), some (vI x1), some (vI x2), some (vI x3), some (vI x4), some (vI 1), some (vI ((f 22 (ix x4)) + 1))]) (st' := []) (bc4_108_29 call ((f 22 (ix x4)) + 1) x3 _ _) (fun q11 => ?_) (fun q11 => ?_)
              · have H := H.1 (cI3t q11 rfl rfl)
                refine rc_b (i' := 59) (ls' := [some (vR 21), some (vI x1), some (vI x2), some (vI x3), some (vI (x4 + 1)), some (vI 1), some (vI ((f 22 (ix x4)) + 1))]) (st' := []) (L' := LT u z f) 1 (bc4_108_24 call x1 x2 x3 x4 1 ((f 22 (ix x4)) + 1) _) ?_
                refine rc_b (i' := 4) (ls' := [some (vR 21), some (vI x1), some (vI x2), some (vI x3), some (vI (x4 + 1)), some (vI 1), some (vI ((f 22 (ix x4)) + 1))]) (st' := []) (L' := LT u z f) 1 (bc4_108_25 call x1 x2 x3 (x4 + 1) 1 ((f 22 (ix x4)) + 1) _) ?_
                exact H
              · have H := H.2 (cI3f q11 rfl rfl)
                refine rc_b (i' := 58) (ls' := [some (vR 21), some (vI x1), some (vI x2), some (vI ((f 22 (ix x4)) + 1)), some (vI x4), some (vI 1), some (vI ((f 22 (ix x4)) + 1))]) (st' := []) (L' := LT u z f) 2 (bc4_108_23 call x1 x2 x3 x4 1 ((f 22 (ix x4)) + 1) _) ?_
                refine rc_b (i' := 59) (ls' := [some (vR 21), some (vI x1), some (vI x2), some (vI ((f 22 (ix x4)) + 1)), some (vI (x4 + 1)), some (vI 1), some (vI ((f 22 (ix x4)) + 1))]) (st' := []) (L' := LT u z f) 1 (bc4_108_24 call x1 x2 ((f 22 (ix x4)) + 1) x4 1 ((f 22 (ix x4)) + 1) _) ?_
                refine rc_b (i' := 4) (ls' := [some (vR 21), some (vI x1), some (vI x2), some (vI ((f 22 (ix x4)) + 1)), some (vI (x4 + 1)), some (vI 1), some (vI ((f 22 (ix x4)) + 1))]) (st' := []) (L' := LT u z f) 1 (bc4_108_25 call x1 x2 ((f 22 (ix x4)) + 1) (x4 + 1) 1 ((f 22 (ix x4)) + 1) _) ?_
                exact H
            · have H := H.2 (cI0f q10)
              refine rc_b (i' := 51) (ls' := [some (vR 21), some (vI x1), some (vI x2), some (vI x3), some (vI x4), some (vI 1), some (vI ((f 22 (ix x4)) + 1))]) (st' := [vI x3, vI ((f 22 (ix x4)) + 1)]) (L' := LT u z f) 2 (bc4_108_30 call x1 x2 x3 x4 1 ((f 22 (ix x4)) + 1) _) ?_
              refine rc_if (it := 58) (ie := 52) (ls' := [some (vR 21), some (vI x1), some (vI x2), some (vI x3), some (vI x4), some (vI 1), some (vI ((f 22 (ix x4)) + 1))]) (st' := []) (bc4_108_31 call ((f 22 (ix x4)) + 1) x3 _ _) (fun q12 => ?_) (fun q12 => ?_)
              · have H := H.1 (cI5t q12 rfl rfl)
                refine rc_b (i' := 59) (ls' := [some (vR 21), some (vI x1), some (vI x2), some (vI x3), some (vI (x4 + 1)), some (vI 1), some (vI ((f 22 (ix x4)) + 1))]) (st' := []) (L' := LT u z f) 1 (bc4_108_24 call x1 x2 x3 x4 1 ((f 22 (ix x4)) + 1) _) ?_
                refine rc_b (i' := 4) (ls' := [some (vR 21), some (vI x1), some (vI x2), some (vI x3), some (vI (x4 + 1)), some (vI 1), some (vI ((f 22 (ix x4)) + 1))]) (st' := []) (L' := LT u z f) 1 (bc4_108_25 call x1 x2 x3 (x4 + 1) 1 ((f 22 (ix x4)) + 1) _) ?_
                exact H
              · have H := H.2 (cI5f q12 rfl rfl)
                refine rc_b (i' := 58) (ls' := [some (vR 21), some (vI x1), some (vI x2), some (vI ((f 22 (ix x4)) + 1)), some (vI x4), some (vI 1), some (vI ((f 22 (ix x4)) + 1))]) (st' := []) (L' := LT u z f) 3 (bc4_108_32 call x1 x2 x3 x4 1 ((f 22 (ix x4)) + 1) _) ?_
                refine rc_b (i' := 59) (ls' := [some (vR 21), some (vI x1), some (vI x2), some (vI ((f 22 (ix x4)) + 1)), some (vI (x4 + 1)), some (vI 1), some (vI ((f 22 (ix x4)) + 1))]) (st' := []) (L' := LT u z f) 1 (bc4_108_24 call x1 x2 ((f 22 (ix x4)) + 1) x4 1 ((f 22 (ix x4)) + 1) _) ?_
                refine rc_b (i' := 4) (ls' := [some (vR 21), some (vI x1), some (vI x2), some (vI ((f 22 (ix x4)) + 1)), some (vI (x4 + 1)), some (vI 1), some (vI ((f 22 (ix x4)) + 1))]) (st' := []) (L' := LT u z f) 1 (bc4_108_25 call x1 x2 ((f 22 (ix x4)) + 1) (x4 + 1) 1 ((f 22 (ix x4)) + 1) _) ?_
                exact H
set_option maxRecDepth 100000 in
theorem b113_1 (call : QC FA) (x2 : Int32) (x3 : Int32) (o4 : Option PV) (o5 : Option PV) (o6 : Option PV) (z : Nat → Int32) (f : Nat → FA) (F : Nat) : rnG call 113 (F + 7) 0 [some (vR 21), some (vR 5), some (vI x2), some (vI x3), o4, o5, o6] [] (LT u z f) = rnG call 113 F 7 [some (vR 21), some (vR 5), some (vI x2), some (vI x3), o4, o5, o6] [vI ((nI 401) - 1), vI (z 5)] (LT u z f) := rfl
set_option maxRecDepth 100000 in
theorem b113_2 (call : QC FA) (x y : Int32) (ls : List (Option PV)) (L : QH FA) (F : Nat) : rnG call 113 (F + 1) 7 ls [vI y, vI x] L = bif pcmp 2 y x then rnG call 113 F 8 ls [vI y] L else rnG call 113 F 8 ls [vI x] L := pmn (rnG call 113 F) 8 x y ls [] L rfl
set_option maxRecDepth 100000 in
theorem b113_3 (call : QC FA) (x2 : Int32) (x3 : Int32) (o4 : Option PV) (o5 : Option PV) (o6 : Option PV) (s0 : Int32) (z : Nat → Int32) (f : Nat → FA) (F : Nat) : rnG call 113 (F + 4) 8 [some (vR 21), some (vR 5), some (vI x2), some (vI x3), o4, o5, o6] [vI s0] (LT u z f) = rnG call 113 F 12 [some (vR 21), some (vR 5), some (vI x2), some (vI x3), some (vI s0), o5, o6] [vI ((-1)), vR 22] (LT u z f) := rfl
set_option maxRecDepth 100000 in
theorem b113_4 (call : QC FA) (a1 : Int32) (ls : List (Option PV)) (z : Nat → Int32) (f : Nat → FA) (F : Nat) : rnG call 113 (F + 1) 12 ls [vI a1, vR 22] (LT u z f) = cbd (call 2 [vR 22, vI a1] (LT u z f)) (fun r L' => rnG call 113 F 13 ls (r.toList ++ []) L') := pcZ (ih := rnG call 113 F) (call := call) (a := 2) (b := 2) (t := 13) (ls := ls) (As := [vR 22, vI a1]) (st' := []) (L := LT u z f) rfl rfl
set_option maxRecDepth 100000 in
theorem b113_5 (call : QC FA) (x2 : Int32) (x3 : Int32) (x4 : Int32) (o5 : Option PV) (o6 : Option PV) (z : Nat → Int32) (f : Nat → FA) (F : Nat) : rnG call 113 (F + 4) 13 [some (vR 21), some (vR 5), some (vI x2), some (vI x3), some (vI x4), o5, o6] [] (LT u z f) = rnG call 113 F 17 [some (vR 21), some (vR 5), some (vI x2), some (vI x3), some (vI x4), o5, o6] [vI 0, vI 0, vR 22] (LT u z f) := rfl
set_option maxRecDepth 100000 in
theorem b113_6 (call : QC FA) (x y : Int32) (ls : List (Option PV)) (z : Nat → Int32) (f : Nat → FA) (F : Nat) : rnG call 113 (F + 1) 17 ls [vI y, vI x, vR 22] (LT u z f) = bif (Nat.beq 0 0 && pin x 401) then rnG call 113 F 18 ls [] (LT u z (uA f 22 (upd (f 22) (ix x) y))) else none := rfl
set_option maxRecDepth 100000 in
theorem b113_7 (call : QC FA) (x2 : Int32) (x3 : Int32) (x4 : Int32) (o5 : Option PV) (o6 : Option PV) (z : Nat → Int32) (f : Nat → FA) (F : Nat) : rnG call 113 (F + 4) 18 [some (vR 21), some (vR 5), some (vI x2), some (vI x3), some (vI x4), o5, o6] [] (LT u z f) = rnG call 113 F 22 [some (vR 21), some (vR 5), some (vI x2), some (vI x3), some (vI x4), o5, o6] [vI 0, vI 0, vR 23] (LT u z f) := rfl
set_option maxRecDepth 100000 in
theorem b113_8 (call : QC FA) (x y : Int32) (ls : List (Option PV)) (z : Nat → Int32) (f : Nat → FA) (F : Nat) : rnG call 113 (F + 1) 22 ls [vI y, vI x, vR 23] (LT u z f) = bif (Nat.beq 0 0 && pin x 401) then rnG call 113 F 23 ls [] (LT u z (uA f 23 (upd (f 23) (ix x) y))) else none := rfl
set_option maxRecDepth 100000 in
theorem b113_9 (call : QC FA) (x2 : Int32) (x3 : Int32) (x4 : Int32) (o5 : Option PV) (o6 : Option PV) (L : QH FA) (F : Nat) : rnG call 113 (F + 2) 23 [some (vR 21), some (vR 5), some (vI x2), some (vI x3), some (vI x4), o5, o6] [] L = rnG call 113 F 25 [some (vR 21), some (vR 5), some (vI x2), some (vI x3), some (vI x4), some (vI 0), o6] [] L := rfl
theorem vc113_0 (call : QC FA) (x2 : Int32) (x3 : Int32) (o4 : Option PV) (o5 : Option PV) (o6 : Option PV) (z : Nat → Int32) (f : Nat → FA) (res : Option PV × QH FA) (H : ((I ((nI 401) - 1) < I (z 5) → (∃ (z1 : Nat → Int32) (f1 : Nat → FA), call 2 [vR 22, vI ((-1))] (LT u z f) = some (none, LT u z1 f1) ∧ (pin 0 401 = true ∧ (pin 0 401 = true ∧ RC call (mP 113) 25 [some (vR 21), some (vR 5), some (vI x2), some (vI x3), some (vI ((nI 401) - 1)), some (vI 0), o6] [] (LT u z1 (uA (uA f1 22 (upd (f1 22) (ix 0) 0)) 23 (upd (f1 23) (ix 0) 0))) res)))) ∧ (I (z 5) ≤ I ((nI 401) - 1) → (∃ (z2 : Nat → Int32) (f2 : Nat → FA), call 2 [vR 22, vI ((-1))] (LT u z f) = some (none, LT u z2 f2) ∧ (pin 0 401 = true ∧ (pin 0 401 = true ∧ RC call (mP 113) 25 [some (vR 21), some (vR 5), some (vI x2), some (vI x3), some (vI (z 5)), some (vI 0), o6] [] (LT u z2 (uA (uA f2 22 (upd (f2 22) (ix 0) 0)) 23 (upd (f2 23) (ix 0) 0))) res)))))) : RC call (mP 113) 0 [some (vR 21), some (vR 5), some (vI x2), some (vI x3), o4, o5, o6] [] (LT u z f) res := by
  refine rc_b (i' := 7) (ls' := [some (vR 21), some (vR 5), some (vI x2), some (vI x3), o4, o5, o6]) (st' := [vI ((nI 401) - 1), vI (z 5)]) (L' := LT u z f) 7 (b113_1 call x2 x3 o4 o5 o6 z f) ?_
  refine rc_if2 (it := 8) (ie := 8) (ls' := [some (vR 21), some (vR 5), some (vI x2), some (vI x3), o4, o5, o6]) (st1 := [vI ((nI 401) - 1)]) (st2 := [vI (z 5)]) (b113_2 call (z 5) ((nI 401) - 1) _ _) (fun q1 => ?_) (fun q1 => ?_)
  · have H := H.1 (cI2t q1 rfl rfl)
    refine rc_b (i' := 12) (ls' := [some (vR 21), some (vR 5), some (vI x2), some (vI x3), some (vI ((nI 401) - 1)), o5, o6]) (st' := [vI ((-1)), vR 22]) (L' := LT u z f) 4 (b113_3 call x2 x3 o4 o5 o6 ((nI 401) - 1) z f) ?_
    obtain ⟨z1, f1, hc, H⟩ := H
    refine rc_call (t := 13) (ls' := [some (vR 21), some (vR 5), some (vI x2), some (vI x3), some (vI ((nI 401) - 1)), o5, o6]) (st' := []) (b113_4 call ((-1)) _ z f) hc ?_
    show RC call (mP 113) 13 [some (vR 21), some (vR 5), some (vI x2), some (vI x3), some (vI ((nI 401) - 1)), o5, o6] [] (LT u z1 f1) res
    refine rc_b (i' := 17) (ls' := [some (vR 21), some (vR 5), some (vI x2), some (vI x3), some (vI ((nI 401) - 1)), o5, o6]) (st' := [vI 0, vI 0, vR 22]) (L' := LT u z1 f1) 4 (b113_5 call x2 x3 ((nI 401) - 1) o5 o6 z1 f1) ?_
    obtain ⟨g1, H⟩ := H
    refine rc_g (i' := 18) (ls' := [some (vR 21), some (vR 5), some (vI x2), some (vI x3), some (vI ((nI 401) - 1)), o5, o6]) (st' := []) (L' := LT u z1 (uA f1 22 (upd (f1 22) (ix 0) 0))) (b113_6 call 0 0 _ z1 f1) (pinG g1) ?_
    refine rc_b (i' := 22) (ls' := [some (vR 21), some (vR 5), some (vI x2), some (vI x3), some (vI ((nI 401) - 1)), o5, o6]) (st' := [vI 0, vI 0, vR 23]) (L' := LT u z1 (uA f1 22 (upd (f1 22) (ix 0) 0))) 4 (b113_7 call x2 x3 ((nI 401) - 1) o5 o6 z1 (uA f1 22 (upd (f1 22) (ix 0) 0))) ?_
    obtain ⟨g1, H⟩ := H
    refine rc_g (i' := 23) (ls' := [some (vR 21), some (vR 5), some (vI x2), some (vI x3), some (vI ((nI 401) - 1)), o5, o6]) (st' := []) (L' := LT u z1 (uA (uA f1 22 (upd (f1 22) (ix 0) 0)) 23 (upd (f1 23) (ix 0) 0))) (b113_8 call 0 0 _ z1 (uA f1 22 (upd (f1 22) (ix 0) 0))) (pinG g1) ?_
    refine rc_b (i' := 25) (ls' := [some (vR 21), some (vR 5), some (vI x2), some (vI x3), some (vI ((nI 401) - 1)), some (vI 0), o6]) (st' := []) (L' := LT u z1 (uA (uA f1 22 (upd (f1 22) (ix 0) 0)) 23 (upd (f1 23) (ix 0) 0))) 2 (b113_9 call x2 x3 ((nI 401) - 1) o5 o6 _) ?_
    exact H
  · have H := H.2 (cI2f q1 rfl rfl)
    refine rc_b (i' := 12) (ls' := [some (vR 21), some (vR 5), some (vI x2), some (vI x3), some (vI (z 5)), o5, o6]) (st' := [vI ((-1)), vR 22]) (L' := LT u z f) 4 (b113_3 call x2 x3 o4 o5 o6 (z 5) z f) ?_
    obtain ⟨z2, f2, hc, H⟩ := H
    refine rc_call (t := 13) (ls' := [some (vR 21), some (vR 5), some (vI x2), some (vI x3), some (vI (z 5)), o5, o6]) (st' := []) (b113_4 call ((-1)) _ z f) hc ?_
    show RC call (mP 113) 13 [some (vR 21), some (vR 5), some (vI x2), some (vI x3), some (vI (z 5)), o5, o6] [] (LT u z2 f2) res
    refine rc_b (i' := 17) (ls' := [some (vR 21), some (vR 5), some (vI x2), some (vI x3), some (vI (z 5)), o5, o6]) (st' := [vI 0, vI 0, vR 22]) (L' := LT u z2 f2) 4 (b113_5 call x2 x3 (z 5) o5 o6 z2 f2) ?_
    obtain ⟨g1, H⟩ := H
    refine rc_g (i' := 18) (ls' := [some (vR 21), some (vR 5), some (vI x2), some (vI x3), some (vI (z 5)), o5, o6]) (st' := []) (L' := LT u z2 (uA f2 22 (upd (f2 22) (ix 0) 0))) (b113_6 call 0 0 _ z2 f2) (pinG g1) ?_
    refine rc_b (i' := 22) (ls' := [some (vR 21), some (vR 5), some (vI x2), some (vI x3), some (vI (z 5)), o5, o6]) (st' := [vI 0, vI 0, vR 23]) (L' := LT u z2 (uA f2 22 (upd (f2 22) (ix 0) 0))) 4 (b113_7 call x2 x3 (z 5) o5 o6 z2 (uA f2 22 (upd (f2 22) (ix 0) 0))) ?_
    obtain ⟨g1, H⟩ := H
    refine rc_g (i' := 23) (ls' := [some (vR 21), some (vR 5), some (vI x2), some (vI x3), some (vI (z 5)), o5, o6]) (st' := []) (L' := LT u z2 (uA (uA f2 22 (upd (f2 22) (ix 0) 0)) 23 (upd (f2 23) (ix 0) 0))) (b113_8 call 0 0 _ z2 (uA f2 22 (upd (f2 22) (ix 0) 0))) (pinG g1) ?_
    refine rc_b (i' := 25) (ls' := [some (vR 21), some (vR 5), some (vI x2), some (vI x3), some (vI (z 5)), some (vI 0), o6]) (st' := []) (L' := LT u z2 (uA (uA f2 22 (upd (f2 22) (ix 0) 0)) 23 (upd (f2 23) (ix 0) 0))) 2 (b113_9 call x2 x3 (z 5) o5 o6 _) ?_
    exact H
set_option maxRecDepth 100000 in
theorem bc25_113_1 (call : QC FA) (x2 : Int32) (x3 : Int32) (x4 : Int32) (x5 : Int32) (o6 : Option PV) (L : QH FA) (F : Nat) : rnG call 113 (F + 2) 25 [some (vR 21), some (vR 5), some (vI x2), some (vI x3), some (vI x4), some (vI x5), o6] [] L = rnG call 113 F 27 [some (vR 21), some (vR 5), some (vI x2), some (vI x3), some (vI x4), some (vI x5), o6] [vI x4, vI x5] L := rfl
set_option maxRecDepth 100000 in
theorem bc25_113_2 (call : QC FA) (x y : Int32) (ls : List (Option PV)) (L : QH FA) (F : Nat) : rnG call 113 (F + 1) 27 ls [vI y, vI x] L = bif pcmp 3 x y then rnG call 113 F 44 ls [] L else rnG call 113 F 28 ls [] L := rfl
set_option maxRecDepth 100000 in
theorem bc25_113_3 (call : QC FA) (x2 : Int32) (x3 : Int32) (x4 : Int32) (x5 : Int32) (o6 : Option PV) (L : QH FA) (F : Nat) : rnG call 113 (F + 2) 44 [some (vR 21), some (vR 5), some (vI x2), some (vI x3), some (vI x4), some (vI x5), o6] [] L = rnG call 113 F 46 [some (vR 21), some (vR 5), some (vI x2), some (vI x3), some (vI x4), some (vI 0), o6] [] L := rfl
set_option maxRecDepth 100000 in
theorem bc25_113_4 (call : QC FA) (x2 : Int32) (x3 : Int32) (x4 : Int32) (x5 : Int32) (o6 : Option PV) (z : Nat → Int32) (f : Nat → FA) (F : Nat) : rnG call 113 (F + 8) 28 [some (vR 21), some (vR 5), some (vI x2), some (vI x3), some (vI x4), some (vI x5), o6] [] (LT u z f) = rnG call 113 F 36 [some (vR 21), some (vR 5), some (vI x2), some (vI x3), some (vI x4), some (vI x5), o6] [vI x5, vR 23, vI (x5 + 1), vR 23] (LT u z f) := rfl
set_option maxRecDepth 100000 in
theorem bc25_113_5 (call : QC FA) (x : Int32) (s0 : Int32) (ls : List (Option PV)) (z : Nat → Int32) (f : Nat → FA) (F : Nat) : rnG call 113 (F + 1) 36 ls [vI x, vR 23, vI s0, vR 23] (LT u z f) = bif (Nat.beq 0 0 && pin x 401) then rnG call 113 F 37 ls [vI (f 23 (ix x)), vI s0, vR 23] (LT u z f) else none := rfl
set_option maxRecDepth 100000 in
theorem bc25_113_6 (call : QC FA) (x2 : Int32) (x3 : Int32) (x4 : Int32) (x5 : Int32) (o6 : Option PV) (s0 : Int32) (s1 : Int32) (L : QH FA) (F : Nat) : rnG call 113 (F + 2) 37 [some (vR 21), some (vR 5), some (vI x2), some (vI x3), some (vI x4), some (vI x5), o6] [vI s0, vI s1, vR 23] L = rnG call 113 F 39 [some (vR 21), some (vR 5), some (vI x2), some (vI x3), some (vI x4), some (vI x5), o6] [vI x5, vR 5, vI s0, vI s1, vR 23] L := rfl
set_option maxRecDepth 100000 in
theorem bc25_113_7 (call : QC FA) (a0 : Int32) (s0 : Int32) (s1 : Int32) (ls : List (Option PV)) (z : Nat → Int32) (f : Nat → FA) (F : Nat) : rnG call 113 (F + 1) 39 ls [vI a0, vR 5, vI s0, vI s1, vR 23] (LT u z f) = cbd (call 3 [vR 5, vI a0] (LT u z f)) (fun r L' => rnG call 113 F 40 ls (r.toList ++ [vI s0, vI s1, vR 23]) L') := pcY (ih := rnG call 113 F) (call := call) (a := 3) (b := 1) (v := 9) (t := 40) (x := 5) (ls := ls) (As := [vI a0]) (st' := [vI s0, vI s1, vR 23]) (L := LT u z f) rfl rfl rfl
set_option maxRecDepth 100000 in
theorem bc25_113_8 (call : QC FA) (x2 : Int32) (x3 : Int32) (x4 : Int32) (x5 : Int32) (o6 : Option PV) (s0 : Int32) (s1 : Int32) (s2 : Int32) (L : QH FA) (F : Nat) : rnG call 113 (F + 1) 40 [some (vR 21), some (vR 5), some (vI x2), some (vI x3), some (vI x4), some (vI x5), o6] [vI s0, vI s1, vI s2, vR 23] L = rnG call 113 F 41 [some (vR 21), some (vR 5), some (vI x2), some (vI x3), some (vI x4), some (vI x5), o6] [vI (s1 + s0), vI s2, vR 23] L := rfl
set_option maxRecDepth 100000 in
theorem bc25_113_9 (call : QC FA) (x y : Int32) (ls : List (Option PV)) (z : Nat → Int32) (f : Nat → FA) (F : Nat) : rnG call 113 (F + 1) 41 ls [vI y, vI x, vR 23] (LT u z f) = bif (Nat.beq 0 0 && pin x 401) then rnG call 113 F 42 ls [] (LT u z (uA f 23 (upd (f 23) (ix x) y))) else none := rfl
set_option maxRecDepth 100000 in
theorem bc25_113_10 (call : QC FA) (x2 : Int32) (x3 : Int32) (x4 : Int32) (x5 : Int32) (o6 : Option PV) (L : QH FA) (F : Nat) : rnG call 113 (F + 1) 42 [some (vR 21), some (vR 5), some (vI x2), some (vI x3), some (vI x4), some (vI x5), o6] [] L = rnG call 113 F 43 [some (vR 21), some (vR 5), some (vI x2), some (vI x3), some (vI x4), some (vI (x5 + 1)), o6] [] L := rfl
set_option maxRecDepth 100000 in
theorem bc25_113_11 (call : QC FA) (x2 : Int32) (x3 : Int32) (x4 : Int32) (x5 : Int32) (o6 : Option PV) (L : QH FA) (F : Nat) : rnG call 113 (F + 1) 43 [some (vR 21), some (vR 5), some (vI x2), some (vI x3), some (vI x4), some (vI x5), o6] [] L = rnG call 113 F 25 [some (vR 21), some (vR 5), some (vI x2), some (vI x3), some (vI x4), some (vI x5), o6] [] L := rfl
theorem vcc25_113_25 (call : QC FA) (x2 : Int32) (x3 : Int32) (x4 : Int32) (x5 : Int32) (o6 : Option PV) (z : Nat → Int32) (f : Nat → FA) (res : Option PV × QH FA) (H : ((I x4 ≤ I x5 → RC call (mP 113) 46 [some (vR 21), some (vR 5), some (vI x2), some (vI x3), some (vI x4), some (vI 0), o6] [] (LT u z f) res) ∧ (I x5 < I x4 → (pin x5 401 = true ∧ (∃ (r1 : Int32) (z1 : Nat → Int32) (f1 : Nat → FA), call 3 [vR 5, vI x5] (LT u z f) = some (some (vI r1), LT u z1 f1) ∧ (pin (x5 + 1) 401 = true ∧ RC call (mP 113) 25 [some (vR 21), some (vR 5), some (vI x2), some (vI x3), some (vI x4), some (vI (x5 + 1)), o6] [] (LT u z1 (uA f1 23 (upd (f1 23) (ix (x5 + 1)) ((f 23 (ix x5)) + r1)))) res)))))) : RC call (mP 113) 25 [some (vR 21), some (vR 5), some (vI x2), some (vI x3), some (vI x4), some (vI x5), o6] [] (LT u z f) res := by
  refine rc_b (i' := 27) (ls' := [some (vR 21), some (vR 5), some (vI x2), some (vI x3), some (vI x4), some (vI x5), o6]) (st' := [vI x4, vI x5]) (L' := LT u z f) 2 (bc25_113_1 call x2 x3 x4 x5 o6 _) ?_
  refine rc_if (it := 44) (ie := 28) (ls' := [some (vR 21), some (vR 5), some (vI x2), some (vI x3), some (vI x4), some (vI x5), o6]) (st' := []) (bc25_113_2 call x5 x4 _ _) (fun q1 => ?_) (fun q1 => ?_)
  · have H := H.1 (cI3t q1 rfl rfl)
    refine rc_b (i' := 46) (ls' := [some (vR 21), some (vR 5), some (vI x2), some (vI x3), some (vI x4), some (vI 0), o6]) (st' := []) (L' := LT u z f) 2 (bc25_113_3 call x2 x3 x4 x5 o6 _) ?_
    exact H
  · have H := H.2 (cI3f q1 rfl rfl)
    refine rc_b (i' := 36) (ls' := [some (vR 21), some (vR 5), some (vI x2), some (vI x3), some (vI x4), some (vI x5), o6]) (st' := [vI x5, vR 23, vI (x5 + 1), vR 23]) (L' := LT u z f) 8 (bc25_113_4 call x2 x3 x4 x5 o6 z f) ?_
    obtain ⟨g1, H⟩ := H
    refine rc_g (i' := 37) (ls' := [some (vR 21), some (vR 5), some (vI x2), some (vI x3), some (vI x4), some (vI x5), o6]) (st' := [vI (f 23 (ix x5)), vI (x5 + 1), vR 23]) (L' := LT u z f) (bc25_113_5 call x5 (x5 + 1) _ z f) (pinG g1) ?_
    refine rc_b (i' := 39) (ls' := [some (vR 21), some (vR 5), some (vI x2), some (vI x3), some (vI x4), some (vI x5), o6]) (st' := [vI x5, vR 5, vI (f 23 (ix x5)), vI (x5 + 1), vR 23]) (L' := LT u z f) 2 (bc25_113_6 call x2 x3 x4 x5 o6 (f 23 (ix x5)) (x5 + 1) _) ?_
    obtain ⟨r1, z1, f1, hc, H⟩ := H
    refine rc_call (t := 40) (ls' := [some (vR 21), some (vR 5), some (vI x2), some (vI x3), some (vI x4), some (vI x5), o6]) (st' := [vI (f 23 (ix x5)), vI (x5 + 1), vR 23]) (bc25_113_7 call x5 (f 23 (ix x5)) (x5 + 1) _ z f) hc ?_
    show RC call (mP 113) 40 [some (vR 21), some (vR 5), some (vI x2), some (vI x3), some (vI x4), some (vI x5), o6] [vI r1, vI (f 23 (ix x5)), vI (x5 + 1), vR 23] (LT u z1 f1) res
    refine rc_b (i' := 41) (ls' := [some (vR 21), some (vR 5), some (vI x2), some (vI x3), some (vI x4), some (vI x5), o6]) (st' := [vI ((f 23 (ix x5)) + r1), vI (x5 + 1), vR 23]) (L' := LT u z1 f1) 1 (bc25_113_8 call x2 x3 x4 x5 o6 r1 (f 23 (ix x5)) (x5 + 1) _) ?_
    obtain ⟨g1, H⟩ := H
    refine rc_g (i' := 42) (ls' := [some (vR 21), some (vR 5), some (vI x2), some (vI x3), some (vI x4), some (vI x5), o6]) (st' := []) (L' := LT u z1 (uA f1 23 (upd (f1 23) (ix (x5 + 1)) ((f 23 (ix x5)) + r1)))) (bc25_113_9 call (x5 + 1) ((f 23 (ix x5)) + r1) _ z1 f1) (pinG g1) ?_
    refine rc_b (i' := 43) (ls' := [some (vR 21), some (vR 5), some (vI x2), some (vI x3), some (vI x4), some (vI (x5 + 1)), o6]) (st' := []) (L' := LT u z1 (uA f1 23 (upd (f1 23) (ix (x5 + 1)) ((f 23 (ix x5)) + r1)))) 1 (bc25_113_10 call x2 x3 x4 x5 o6 _) ?_
    refine rc_b (i' := 25) (ls' := [some (vR 21), some (vR 5), some (vI x2), some (vI x3), some (vI x4), some (vI (x5 + 1)), o6]) (st' := []) (L' := LT u z1 (uA f1 23 (upd (f1 23) (ix (x5 + 1)) ((f 23 (ix x5)) + r1)))) 1 (bc25_113_11 call x2 x3 x4 (x5 + 1) o6 _) ?_
    exact H
set_option maxRecDepth 100000 in
theorem bc46_113_1 (call : QC FA) (x2 : Int32) (x3 : Int32) (x4 : Int32) (x5 : Int32) (o6 : Option PV) (L : QH FA) (F : Nat) : rnG call 113 (F + 2) 46 [some (vR 21), some (vR 5), some (vI x2), some (vI x3), some (vI x4), some (vI x5), o6] [] L = rnG call 113 F 48 [some (vR 21), some (vR 5), some (vI x2), some (vI x3), some (vI x4), some (vI x5), o6] [vI x2, vI x5] L := rfl
set_option maxRecDepth 100000 in
theorem bc46_113_2 (call : QC FA) (x y : Int32) (ls : List (Option PV)) (L : QH FA) (F : Nat) : rnG call 113 (F + 1) 48 ls [vI y, vI x] L = bif pcmp 3 x y then rnG call 113 F 65 ls [] L else rnG call 113 F 49 ls [] L := rfl
set_option maxRecDepth 100000 in
theorem bc46_113_3 (call : QC FA) (x2 : Int32) (x3 : Int32) (x4 : Int32) (x5 : Int32) (o6 : Option PV) (z : Nat → Int32) (f : Nat → FA) (F : Nat) : rnG call 113 (F + 3) 65 [some (vR 21), some (vR 5), some (vI x2), some (vI x3), some (vI x4), some (vI x5), o6] [] (LT u z f) = rnG call 113 F 68 [some (vR 21), some (vR 5), some (vI x2), some (vI x3), some (vI x4), some (vI x5), o6] [vI x4, vR 22] (LT u z f) := rfl
set_option maxRecDepth 100000 in
theorem bc46_113_4 (call : QC FA) (x : Int32) (ls : List (Option PV)) (z : Nat → Int32) (f : Nat → FA) (F : Nat) : rnG call 113 (F + 1) 68 ls [vI x, vR 22] (LT u z f) = bif (Nat.beq 0 0 && pin x 401) then rnG call 113 F 69 ls [vI (f 22 (ix x))] (LT u z f) else none := rfl
set_option maxRecDepth 100000 in
theorem bc46_113_5 (call : QC FA) (x : Int32) (ls : List (Option PV)) (L : QH FA) (F : Nat) : rnG call 113 (F + 1) 69 ls [vI x] L = some (some (vI x), L) := rfl
set_option maxRecDepth 100000 in
theorem bc46_113_6 (call : QC FA) (x2 : Int32) (x3 : Int32) (x4 : Int32) (x5 : Int32) (o6 : Option PV) (L : QH FA) (F : Nat) : rnG call 113 (F + 2) 49 [some (vR 21), some (vR 5), some (vI x2), some (vI x3), some (vI x4), some (vI x5), o6] [] L = rnG call 113 F 51 [some (vR 21), some (vR 5), some (vI x2), some (vI x3), some (vI x4), some (vI x5), some (vI x4)] [] L := rfl
theorem vcc46_113_46 (call : QC FA) (x2 : Int32) (x3 : Int32) (x4 : Int32) (x5 : Int32) (o6 : Option PV) (z : Nat → Int32) (f : Nat → FA) (res : Option PV × QH FA) (H : ((I x2 ≤ I x5 → (pin x4 401 = true ∧ res = (some (vI (f 22 (ix x4))), LT u z f))) ∧ (I x5 < I x2 → RC call (mP 113) 51 [some (vR 21), some (vR 5), some (vI x2), some (vI x3), some (vI x4), some (vI x5), some (vI x4)] [] (LT u z f) res))) : RC call (mP 113) 46 [some (vR 21), some (vR 5), some (vI x2), some (vI x3), some (vI x4), some (vI x5), o6] [] (LT u z f) res := by
  refine rc_b (i' := 48) (ls' := [some (vR 21), some (vR 5), some (vI x2), some (vI x3), some (vI x4), some (vI x5), o6]) (st' := [vI x2, vI x5]) (L' := LT u z f) 2 (bc46_113_1 call x2 x3 x4 x5 o6 _) ?_
  refine rc_if (it := 65) (ie := 49) (ls' := [some (vR 21), some (vR 5), some (vI x2), some (vI x3), some (vI x4), some (vI x5), o6]) (st' := []) (bc46_113_2 call x5 x2 _ _) (fun q1 => ?_) (fun q1 => ?_)
  · have H := H.1 (cI3t q1 rfl rfl)
    refine rc_b (i' := 68) (ls' := [some (vR 21), some (vR 5), some (vI x2), some (vI x3), some (vI x4), some (vI x5), o6]) (st' := [vI x4, vR 22]) (L' := LT u z f) 3 (bc46_113_3 call x2 x3 x4 x5 o6 z f) ?_
    obtain ⟨g1, H⟩ := H
    refine rc_g (i' := 69) (ls' := [some (vR 21), some (vR 5), some (vI x2), some (vI x3), some (vI x4), some (vI x5), o6]) (st' := [vI (f 22 (ix x4))]) (L' := LT u z f) (bc46_113_4 call x4 _ z f) (pinG g1) ?_
    subst H
    exact rc_ret (bc46_113_5 call _ _ _)
  · have H := H.2 (cI3f q1 rfl rfl)
    refine rc_b (i' := 51) (ls' := [some (vR 21), some (vR 5), some (vI x2), some (vI x3), some (vI x4), some (vI x5), some (vI x4)]) (st' := []) (L' := LT u z f) 2 (bc46_113_6 call x2 x3 x4 x5 o6 _) ?_
    exact H
set_option maxRecDepth 100000 in
theorem bc51_113_1 (call : QC FA) (x2 : Int32) (x3 : Int32) (x4 : Int32) (x5 : Int32) (x6 : Int32) (L : QH FA) (F : Nat) : rnG call 113 (F + 1) 51 [some (vR 21), some (vR 5), some (vI x2), some (vI x3), some (vI x4), some (vI x5), some (vI x6)] [] L = rnG call 113 F 52 [some (vR 21), some (vR 5), some (vI x2), some (vI x3), some (vI x4), some (vI x5), some (vI x6)] [vI x6] L := rfl
set_option maxRecDepth 100000 in
theorem bc51_113_2 (call : QC FA) (x : Int32) (ls : List (Option PV)) (L : QH FA) (F : Nat) : rnG call 113 (F + 1) 52 ls [vI x] L = bif pcmp 2 x 0 then rnG call 113 F 63 ls [] L else rnG call 113 F 53 ls [] L := rfl
set_option maxRecDepth 100000 in
theorem bc51_113_3 (call : QC FA) (x2 : Int32) (x3 : Int32) (x4 : Int32) (x5 : Int32) (x6 : Int32) (L : QH FA) (F : Nat) : rnG call 113 (F + 1) 63 [some (vR 21), some (vR 5), some (vI x2), some (vI x3), some (vI x4), some (vI x5), some (vI x6)] [] L = rnG call 113 F 64 [some (vR 21), some (vR 5), some (vI x2), some (vI x3), some (vI x4), some (vI (x5 + 1)), some (vI x6)] [] L := rfl
set_option maxRecDepth 100000 in
theorem bc51_113_4 (call : QC FA) (x2 : Int32) (x3 : Int32) (x4 : Int32) (x5 : Int32) (x6 : Int32) (L : QH FA) (F : Nat) : rnG call 113 (F + 1) 64 [some (vR 21), some (vR 5), some (vI x2), some (vI x3), some (vI x4), some (vI x5), some (vI x6)] [] L = rnG call 113 F 46 [some (vR 21), some (vR 5), some (vI x2), some (vI x3), some (vI x4), some (vI x5), some (vI x6)] [] L := rfl
set_option maxRecDepth 100000 in
theorem bc51_113_5 (call : QC FA) (x2 : Int32) (x3 : Int32) (x4 : Int32) (x5 : Int32) (x6 : Int32) (z : Nat → Int32) (f : Nat → FA) (F : Nat) : rnG call 113 (F + 6) 53 [some (vR 21), some (vR 5), some (vI x2), some (vI x3), some (vI x4), some (vI x5), some (vI x6)] [] (LT u z f) = rnG call 113 F 59 [some (vR 21), some (vR 5), some (vI x2), some (vI x3), some (vI x4), some (vI x5), some (vI x6)] [vI x3, vI x6, vR 21, vI x6, vR 22] (LT u z f) := rfl
set_option maxRecDepth 100000 in
theorem bc51_113_6 (call : QC FA) (a0 : Int32) (a1 : Int32) (s0 : Int32) (ls : List (Option PV)) (z : Nat → Int32) (f : Nat → FA) (F : Nat) : rnG call 113 (F + 1) 59 ls [vI a1, vI a0, vR 21, vI s0, vR 22] (LT u z f) = cbd (call 108 [vR 21, vI a0, vI a1] (LT u z f)) (fun r L' => rnG call 113 F 60 ls (r.toList ++ [vI s0, vR 22]) L') := pcY (ih := rnG call 113 F) (call := call) (a := 108) (b := 2) (v := 4) (t := 60) (x := 21) (ls := ls) (As := [vI a0, vI a1]) (st' := [vI s0, vR 22]) (L := LT u z f) rfl rfl rfl
set_option maxRecDepth 100000 in
theorem bc51_113_7 (call : QC FA) (x y : Int32) (ls : List (Option PV)) (z : Nat → Int32) (f : Nat → FA) (F : Nat) : rnG call 113 (F + 1) 60 ls [vI y, vI x, vR 22] (LT u z f) = bif (Nat.beq 0 0 && pin x 401) then rnG call 113 F 61 ls [] (LT u z (uA f 22 (upd (f 22) (ix x) y))) else none := rfl
theorem bc51_113_8i (ih : QK FA) (t : Nat) (v x : Int32) (l0 l1 l2 l3 l4 l5 : Option PV) (st : List PV) (L : QH FA) : p_iinc ih fzF 6 v t [l0, l1, l2, l3, l4, l5, some (vI x)] st L = ih t [l0, l1, l2, l3, l4, l5, some (vI (x + v))] st L := rfl
set_option maxRecDepth 100000 in
theorem bc51_113_8 (call : QC FA) (x2 : Int32) (x3 : Int32) (x4 : Int32) (x5 : Int32) (x6 : Int32) (L : QH FA) (F : Nat) : rnG call 113 (F + 1) 61 [some (vR 21), some (vR 5), some (vI x2), some (vI x3), some (vI x4), some (vI x5), some (vI x6)] [] L = rnG call 113 F 62 [some (vR 21), some (vR 5), some (vI x2), some (vI x3), some (vI x4), some (vI x5), some (vI (x6 + (-1)))] [] L := bc51_113_8i (rnG call 113 F) 62 (-1) x6 _ _ _ _ _ _ _ _
set_option maxRecDepth 100000 in
theorem bc51_113_9 (call : QC FA) (x2 : Int32) (x3 : Int32) (x4 : Int32) (x5 : Int32) (x6 : Int32) (L : QH FA) (F : Nat) : rnG call 113 (F + 1) 62 [some (vR 21), some (vR 5), some (vI x2), some (vI x3), some (vI x4), some (vI x5), some (vI x6)] [] L = rnG call 113 F 51 [some (vR 21), some (vR 5), some (vI x2), some (vI x3), some (vI x4), some (vI x5), some (vI x6)] [] L := rfl
theorem vcc51_113_51 (call : QC FA) (x2 : Int32) (x3 : Int32) (x4 : Int32) (x5 : Int32) (x6 : Int32) (z : Nat → Int32) (f : Nat → FA) (res : Option PV × QH FA) (H : ((I x6 < 0 → RC call (mP 113) 46 [some (vR 21), some (vR 5), some (vI x2), some (vI x3), some (vI x4), some (vI (x5 + 1)), some (vI x6)] [] (LT u z f) res) ∧ (0 ≤ I x6 → (∃ (r1 : Int32) (z1 : Nat → Int32) (f1 : Nat → FA), call 108 [vR 21, vI x6, vI x3] (LT u z f) = some (some (vI r1), LT u z1 f1) ∧ (pin x6 401 = true ∧ RC call (mP 113) 51 [some (vR 21), some (vR 5), some (vI x2), some (vI x3), some (vI x4), some (vI x5), some (vI (x6 + (-1)))] [] (LT u z1 (uA f1 22 (upd (f1 22) (ix x6) r1))) res))))) : RC call (mP 113) 51 [some (vR 21), some (vR 5), some (vI x2), some (vI x3), some (vI x4), some (vI x5), some (vI x6)] [] (LT u z f) res := by
  refine rc_b (i' := 52) (ls' := [some (vR 21), some (vR 5), some (vI x2), some (vI x3), some (vI x4), some (vI x5), some (vI x6)]) (st' := [vI x6]) (L' := LT u z f) 1 (bc51_113_1 call x2 x3 x4 x5 x6 _) ?_
  refine rc_if (it := 63) (ie := 53) (ls' := [some (vR 21), some (vR 5), some (vI x2), some (vI x3), some (vI x4), some (vI x5), some (vI x6)]) (st' := []) (bc51_113_2 call x6 _ _) (fun q1 => ?_) (fun q1 => ?_)
  · have H := H.1 (cI2t q1 rfl rfl)
    refine rc_b (i' := 64) (ls' := [some (vR 21), some (vR 5), some (vI x2), some (vI x3), some (vI x4), some (vI (x5 + 1)), some (vI x6)]) (st' := []) (L' := LT u z f) 1 (bc51_113_3 call x2 x3 x4 x5 x6 _) ?_
    refine rc_b (i' := 46) (ls' := [some (vR 21), some (vR 5), some (vI x2), some (vI x3), some (vI x4), some (vI (x5 + 1)), some (vI x6)]) (st' := []) (L' := LT u z f) 1 (bc51_113_4 call x2 x3 x4 (x5 + 1) x6 _) ?_
    exact H
  · have H := H.2 (cI2f q1 rfl rfl)
    refine rc_b (i' := 59) (ls' := [some (vR 21), some (vR 5), some (vI x2), some (vI x3), some (vI x4), some (vI x5), some (vI x6)]) (st' := [vI x3, vI x6, vR 21, vI x6, vR 22]) (L' := LT u z f) 6 (bc51_113_5 call x2 x3 x4 x5 x6 z f) ?_
    obtain ⟨r1, z1, f1, hc, H⟩ := H
    refine rc_call (t := 60) (ls' := [some (vR 21), some (vR 5), some (vI x2), some (vI x3), some (vI x4), some (vI x5), some (vI x6)]) (st' := [vI x6, vR 22]) (bc51_113_6 call x6 x3 x6 _ z f) hc ?_
    show RC call (mP 113) 60 [some (vR 21), some (vR 5), some (vI x2), some (vI x3), some (vI x4), some (vI x5), some (vI x6)] [vI r1, vI x6, vR 22] (LT u z1 f1) res
    obtain ⟨g1, H⟩ := H
    refine rc_g (i' := 61) (ls' := [some (vR 21), some (vR 5), some (vI x2), some (vI x3), some (vI x4), some (vI x5), some (vI x6)]) (st' := []) (L' := LT u z1 (uA f1 22 (upd (f1 22) (ix x6) r1))) (bc51_113_7 call x6 r1 _ z1 f1) (pinG g1) ?_
    refine rc_b (i' := 62) (ls' := [some (vR 21), some (vR 5), some (vI x2), some (vI x3), some (vI x4), some (vI x5), some (vI (x6 + (-1)))]) (st' := []) (L' := LT u z1 (uA f1 22 (upd (f1 22) (ix x6) r1))) 1 (bc51_113_8 call x2 x3 x4 x5 x6 _) ?_
    refine rc_b (i' := 51) (ls' := [some (vR 21), some (vR 5), some (vI x2), some (vI x3), some (vI x4), some (vI x5), some (vI (x6 + (-1)))]) (st' := []) (L' := LT u z1 (uA f1 22 (upd (f1 22) (ix x6) r1))) 1 (bc51_113_9 call x2 x3 x4 x5 (x6 + (-1)) _) ?_
    exact H
set_option maxRecDepth 100000 in
theorem b172_1 (call : QC FA) (x1 : Int32) (x2 : Int32) (o3 : Option PV) (z : Nat → Int32) (f : Nat → FA) (F : Nat) : rnG call 172 (F + 4) 0 [some (vR 0), some (vI x1), some (vI x2), o3] [] (LT u z f) = rnG call 172 F 4 [some (vR 0), some (vI x1), some (vI x2), o3] [vI 1, vR 2] (LT u z f) := rfl
set_option maxRecDepth 100000 in
theorem b172_2 (call : QC FA) (x : Int32) (ls : List (Option PV)) (z : Nat → Int32) (f : Nat → FA) (F : Nat) : rnG call 172 (F + 1) 4 ls [vI x, vR 2] (LT u z f) = bif ((Nat.beq 3 1 || (Nat.beq 3 2 || Nat.beq 3 3)) && pin x 9) then rnG call 172 F 5 ls [.inr (.inl (wT u (ix x)))] (LT u z f) else none := rfl
set_option maxRecDepth 100000 in
theorem b172_3 (call : QC FA) (x1 : Int32) (x2 : Int32) (o3 : Option PV) (L : QH FA) (F : Nat) : rnG call 172 (F + 3) 5 [some (vR 0), some (vI x1), some (vI x2), o3] [vR 5] L = rnG call 172 F 8 [some (vR 0), some (vI x1), some (vI x2), some (vR 5)] [vI 1, vI x1] L := rfl
set_option maxRecDepth 100000 in
theorem b172_4 (call : QC FA) (x y : Int32) (ls : List (Option PV)) (L : QH FA) (F : Nat) : rnG call 172 (F + 1) 8 ls [vI y, vI x] L = bif pcmp 2 x y then rnG call 172 F 21 ls [] L else rnG call 172 F 9 ls [] L := rfl
set_option maxRecDepth 100000 in
theorem b172_5 (call : QC FA) (x1 : Int32) (x2 : Int32) (L : QH FA) (F : Nat) : rnG call 172 (F + 1) 21 [some (vR 0), some (vI x1), some (vI x2), some (vR 5)] [] L = rnG call 172 F 22 [some (vR 0), some (vI x1), some (vI x2), some (vR 5)] [vI ((-1))] L := rfl
set_option maxRecDepth 100000 in
theorem b172_6 (call : QC FA) (x : Int32) (ls : List (Option PV)) (L : QH FA) (F : Nat) : rnG call 172 (F + 1) 22 ls [vI x] L = some (some (vI x), L) := rfl
set_option maxRecDepth 100000 in
theorem b172_7 (call : QC FA) (x1 : Int32) (x2 : Int32) (L : QH FA) (F : Nat) : rnG call 172 (F + 2) 9 [some (vR 0), some (vI x1), some (vI x2), some (vR 5)] [] L = rnG call 172 F 11 [some (vR 0), some (vI x1), some (vI x2), some (vR 5)] [vI 8, vI x1] L := rfl
set_option maxRecDepth 100000 in
theorem b172_8 (call : QC FA) (x y : Int32) (ls : List (Option PV)) (L : QH FA) (F : Nat) : rnG call 172 (F + 1) 11 ls [vI y, vI x] L = bif pcmp 4 x y then rnG call 172 F 21 ls [] L else rnG call 172 F 12 ls [] L := rfl
set_option maxRecDepth 100000 in
theorem b172_9 (call : QC FA) (x1 : Int32) (x2 : Int32) (z : Nat → Int32) (f : Nat → FA) (F : Nat) : rnG call 172 (F + 3) 12 [some (vR 0), some (vI x1), some (vI x2), some (vR 5)] [] (LT u z f) = rnG call 172 F 15 [some (vR 0), some (vI x1), some (vI x2), some (vR 5)] [vI (z 5), vI x1] (LT u z f) := rfl
set_option maxRecDepth 100000 in
theorem b172_10 (call : QC FA) (x y : Int32) (ls : List (Option PV)) (L : QH FA) (F : Nat) : rnG call 172 (F + 1) 15 ls [vI y, vI x] L = bif pcmp 4 x y then rnG call 172 F 21 ls [] L else rnG call 172 F 16 ls [] L := rfl
set_option maxRecDepth 100000 in
theorem b172_11 (call : QC FA) (x1 : Int32) (x2 : Int32) (L : QH FA) (F : Nat) : rnG call 172 (F + 1) 16 [some (vR 0), some (vI x1), some (vI x2), some (vR 5)] [] L = rnG call 172 F 17 [some (vR 0), some (vI x1), some (vI x2), some (vR 5)] [vI x2] L := rfl
set_option maxRecDepth 100000 in
theorem b172_12 (call : QC FA) (x : Int32) (ls : List (Option PV)) (L : QH FA) (F : Nat) : rnG call 172 (F + 1) 17 ls [vI x] L = bif pcmp 2 x 0 then rnG call 172 F 21 ls [] L else rnG call 172 F 18 ls [] L := rfl
set_option maxRecDepth 100000 in
theorem b172_13 (call : QC FA) (x1 : Int32) (x2 : Int32) (L : QH FA) (F : Nat) : rnG call 172 (F + 2) 18 [some (vR 0), some (vI x1), some (vI x2), some (vR 5)] [] L = rnG call 172 F 20 [some (vR 0), some (vI x1), some (vI x2), some (vR 5)] [vI 1, vI x2] L := rfl
set_option maxRecDepth 100000 in
theorem b172_14 (call : QC FA) (x y : Int32) (ls : List (Option PV)) (L : QH FA) (F : Nat) : rnG call 172 (F + 1) 20 ls [vI y, vI x] L = bif pcmp 5 x y then rnG call 172 F 23 ls [] L else rnG call 172 F 21 ls [] L := rfl
set_option maxRecDepth 100000 in
theorem b172_15 (call : QC FA) (x1 : Int32) (x2 : Int32) (z : Nat → Int32) (f : Nat → FA) (F : Nat) : rnG call 172 (F + 5) 23 [some (vR 0), some (vI x1), some (vI x2), some (vR 5)] [] (LT u z f) = rnG call 172 F 28 [some (vR 0), some (vI x1), some (vI x2), some (vR 5)] [vI x2, vI x1, vR 5, vR 21] (LT u z f) := rfl
set_option maxRecDepth 100000 in
theorem b172_16 (call : QC FA) (x : Int32) (s0 : Int32) (ls : List (Option PV)) (L : QH FA) (F : Nat) : rnG call 172 (F + 1) 28 ls [vI x, vI s0, vR 5, vR 21] L = bif pcmp 1 x 0 then rnG call 172 F 31 ls [vI s0, vR 5, vR 21] L else rnG call 172 F 29 ls [vI s0, vR 5, vR 21] L := rfl
set_option maxRecDepth 100000 in
theorem b172_17 (call : QC FA) (x1 : Int32) (x2 : Int32) (s0 : Int32) (L : QH FA) (F : Nat) : rnG call 172 (F + 1) 31 [some (vR 0), some (vI x1), some (vI x2), some (vR 5)] [vI s0, vR 5, vR 21] L = rnG call 172 F 32 [some (vR 0), some (vI x1), some (vI x2), some (vR 5)] [vI 0, vI s0, vR 5, vR 21] L := rfl
set_option maxRecDepth 100000 in
theorem b172_18 (call : QC FA) (a1 : Int32) (a2 : Int32) (ls : List (Option PV)) (z : Nat → Int32) (f : Nat → FA) (F : Nat) : rnG call 172 (F + 1) 32 ls [vI a2, vI a1, vR 5, vR 21] (LT u z f) = cbd (call 113 [vR 21, vR 5, vI a1, vI a2] (LT u z f)) (fun r L' => rnG call 172 F 33 ls (r.toList ++ []) L') := pcY (ih := rnG call 172 F) (call := call) (a := 113) (b := 3) (v := 4) (t := 33) (x := 21) (ls := ls) (As := [vR 5, vI a1, vI a2]) (st' := []) (L := LT u z f) rfl rfl rfl
set_option maxRecDepth 100000 in
theorem b172_19 (call : QC FA) (x : Int32) (ls : List (Option PV)) (L : QH FA) (F : Nat) : rnG call 172 (F + 1) 33 ls [vI x] L = some (some (vI x), L) := rfl
set_option maxRecDepth 100000 in
theorem b172_20 (call : QC FA) (x1 : Int32) (x2 : Int32) (s0 : Int32) (L : QH FA) (F : Nat) : rnG call 172 (F + 2) 29 [some (vR 0), some (vI x1), some (vI x2), some (vR 5)] [vI s0, vR 5, vR 21] L = rnG call 172 F 32 [some (vR 0), some (vI x1), some (vI x2), some (vR 5)] [vI 1, vI s0, vR 5, vR 21] L := rfl
theorem vc172_0 (call : QC FA) (x1 : Int32) (x2 : Int32) (o3 : Option PV) (z : Nat → Int32) (f : Nat → FA) (res : Option PV × QH FA) (H : ((I x1 < 1 → res = (some (vI ((-1))), LT u z f)) ∧ (1 ≤ I x1 → ((8 < I x1 → res = (some (vI ((-1))), LT u z f)) ∧ (I x1 ≤ 8 → ((I (z 5) < I x1 → res = (some (vI ((-1))), LT u z f)) ∧ (I x1 ≤ I (z 5) → ((I x2 < 0 → res = (some (vI ((-1))), LT u z f)) ∧ (0 ≤ I x2 → ((I x2 ≤ 1 → ((¬ x2 = 0 → (∃ (r1 : Int32) (z1 : Nat → Int32) (f1 : Nat → FA), call 113 [vR 21, vR 5, vI x1, vI 0] (LT u z f) = some (some (vI r1), LT u z1 f1) ∧ res = (some (vI r1), LT u z1 f1))) ∧ (x2 = 0 → (∃ (r2 : Int32) (z2 : Nat → Int32) (f2 : Nat → FA), call 113 [vR 21, vR 5, vI x1, vI 1] (LT u z f) = some (some (vI r2), LT u z2 f2) ∧ res = (some (vI r2), LT u z2 f2))))) ∧ (1 < I x2 → res = (some (vI ((-1))), LT u z f)))))))))))) : RC call (mP 172) 0 [some (vR 0), some (vI x1), some (vI x2), o3] [] (LT u z f) res := by
  refine rc_b (i' := 4) (ls' := [some (vR 0), some (vI x1), some (vI x2), o3]) (st' := [vI 1, vR 2]) (L' := LT u z f) 4 (b172_1 call x1 x2 o3 z f) ?_
  refine rc_g (i' := 5) (ls' := [some (vR 0), some (vI x1), some (vI x2), o3]) (st' := [.inr (.inl (wT u (ix 1)))]) (L' := LT u z f) (b172_2 call 1 _ z f) (by decide) ?_
  show RC call (mP 172) 5 [some (vR 0), some (vI x1), some (vI x2), o3] [vR 5] (LT u z f) res
  refine rc_b (i' := 8) (ls' := [some (vR 0), some (vI x1), some (vI x2), some (vR 5)]) (st' := [vI 1, vI x1]) (L' := LT u z f) 3 (b172_3 call x1 x2 o3 _) ?_
  refine rc_if (it := 21) (ie := 9) (ls' := [some (vR 0), some (vI x1), some (vI x2), some (vR 5)]) (st' := []) (b172_4 call x1 1 _ _) (fun q1 => ?_) (fun q1 => ?_)
  · have H := H.1 (cI2t q1 rfl rfl)
    refine rc_b (i' := 22) (ls' := [some (vR 0), some (vI x1), some (vI x2), some (vR 5)]) (st' := [vI ((-1))]) (L' := LT u z f) 1 (b172_5 call x1 x2 _) ?_
    subst H
    exact rc_ret (b172_6 call _ _ _)
  · have H := H.2 (cI2f q1 rfl rfl)
    refine rc_b (i' := 11) (ls' := [some (vR 0), some (vI x1), some (vI x2), some (vR 5)]) (st' := [vI 8, vI x1]) (L' := LT u z f) 2 (b172_7 call x1 x2 _) ?_
    refine rc_if (it := 21) (ie := 12) (ls' := [some (vR 0), some (vI x1), some (vI x2), some (vR 5)]) (st' := []) (b172_8 call x1 8 _ _) (fun q2 => ?_) (fun q2 => ?_)
    · have H := H.1 (cI4t q2 rfl rfl)
      refine rc_b (i' := 22) (ls' := [some (vR 0), some (vI x1), some (vI x2), some (vR 5)]) (st' := [vI ((-1))]) (L' := LT u z f) 1 (b172_5 call x1 x2 _) ?_
      subst H
      exact rc_ret (b172_6 call _ _ _)
    · have H := H.2 (cI4f q2 rfl rfl)
      refine rc_b (i' := 15) (ls' := [some (vR 0), some (vI x1), some (vI x2), some (vR 5)]) (st' := [vI (z 5), vI x1]) (L' := LT u z f) 3 (b172_9 call x1 x2 z f) ?_
      refine rc_if (it := 21) (ie := 16) (ls' := [some (vR 0), some (vI x1), some (vI x2), some (vR 5)]) (st' := []) (b172_10 call x1 (z 5) _ _) (fun q3 => ?_) (fun q3 => ?_)
      · have H := H.1 (cI4t q3 rfl rfl)
        refine rc_b (i' := 22) (ls' := [some (vR 0), some (vI x1), some (vI x2), some (vR 5)]) (st' := [vI ((-1))]) (L' := LT u z f) 1 (b172_5 call x1 x2 _) ?_
        subst H
        exact rc_ret (b172_6 call _ _ _)
      · have H := H.2 (cI4f q3 rfl rfl)
        refine rc_b (i' := 17) (ls' := [some (vR 0), some (vI x1), some (vI x2), some (vR 5)]) (st' := [vI x2]) (L' := LT u z f) 1 (b172_11 call x1 x2 _) ?_
        refine rc_if (it := 21) (ie := 18) (ls' := [some (vR 0), some (vI x1), some (vI x2), some (vR 5)]) (st' := []) (b172_12 call x2 _ _) (fun q4 => ?_) (fun q4 => ?_)
        · have H := H.1 (cI2t q4 rfl rfl)
          refine rc_b (i' := 22) (ls' := [some (vR 0), some (vI x1), some (vI x2), some (vR 5)]) (st' := [vI ((-1))]) (L' := LT u z f) 1 (b172_5 call x1 x2 _) ?_
          subst H
          exact rc_ret (b172_6 call _ _ _)
        · have H := H.2 (cI2f q4 rfl rfl)
          refine rc_b (i' := 20) (ls' := [some (vR 0), some (vI x1), some (vI x2), some (vR 5)]) (st' := [vI 1, vI x2]) (L' := LT u z f) 2 (b172_13 call x1 x2 _) ?_
          refine rc_if (it := 23) (ie := 21) (ls' := [some (vR 0), some (vI x1), some (vI x2), some (vR 5)]) (st' := []) (b172_14 call x2 1 _ _) (fun q5 => ?_) (fun q5 => ?_)
          · have H := H.1 (cI5t q5 rfl rfl)
            refine rc_b (i' := 28) (ls' := [some (vR 0), some (vI x1), some (vI x2), some (vR 5)]) (st' := [vI x2, vI x1, vR 5, vR 21]) (L' := LT u z f) 5 (b172_15 call x1 x2 z f) ?_
            refine rc_if (it := 31) (ie := 29) (ls' := [some (vR 0), some (vI x1), some (vI x2), some (vR 5)]) (st' := [vI x1, vR 5, vR 21]) (b172_16 call x2 x1 _ _) (fun q6 => ?_) (fun q6 => ?_)
            · have H := H.1 (cI1t q6)
              refine rc_b (i' := 32) (ls' := [some (vR 0), some (vI x1), some (vI x2), some (vR 5)]) (st' := [vI 0, vI x1, vR 5, vR 21]) (L' := LT u z f) 1 (b172_17 call x1 x2 x1 _) ?_
              obtain ⟨r1, z1, f1, hc, H⟩ := H
              refine rc_call (t := 33) (ls' := [some (vR 0), some (vI x1), some (vI x2), some (vR 5)]) (st' := []) (b172_18 call x1 0 _ z f) hc ?_
              show RC call (mP 172) 33 [some (vR 0), some (vI x1), some (vI x2), some (vR 5)] [vI r1] (LT u z1 f1) res
              subst H
              exact rc_ret (b172_19 call _ _ _)
            · have H := H.2 (cI1f q6)
              refine rc_b (i' := 32) (ls' := [some (vR 0), some (vI x1), some (vI x2), some (vR 5)]) (st' := [vI 1, vI x1, vR 5, vR 21]) (L' := LT u z f) 2 (b172_20 call x1 x2 x1 _) ?_
              obtain ⟨r2, z2, f2, hc, H⟩ := H
              refine rc_call (t := 33) (ls' := [some (vR 0), some (vI x1), some (vI x2), some (vR 5)]) (st' := []) (b172_18 call x1 1 _ z f) hc ?_
              show RC call (mP 172) 33 [some (vR 0), some (vI x1), some (vI x2), some (vR 5)] [vI r2] (LT u z2 f2) res
              subst H
              exact rc_ret (b172_19 call _ _ _)
          · have H := H.2 (cI5f q5 rfl rfl)
            refine rc_b (i' := 22) (ls' := [some (vR 0), some (vI x1), some (vI x2), some (vR 5)]) (st' := [vI ((-1))]) (L' := LT u z f) 1 (b172_5 call x1 x2 _) ?_
            subst H
            exact rc_ret (b172_6 call _ _ _)
theorem film (d : Nat) {z : Nat → Int32} {f : Nat → FA} : mcall (d + 1) 2 [vR 22, vI (-1)] (LT u z f) = some (none, LT u z (uA f 22 (zrv (f 22) (-1) 401))) := by
  have lp : ∀ t n, n + t = 401 → RC (mcall d) (mP 2) 5 [some (vR 22), some (vI (-1)), some (vI (nI n)), some (vI (nI 401))] [] (LT u z (uA f 22 (zrv (f 22) (-1) n))) (none, LT u z (uA f 22 (zrv (f 22) (-1) 401))) := by
    intro t
    induction t with
    | zero =>
      intro n hn
      obtain rfl : n = 401 := by omega
      exact vcfc_2_5 _ _ _ _ _ _ _ ⟨fun _ => rfl, fun q => by omega⟩
    | succ t ih =>
      intro n hn
      have h := ih (n + 1) (by omega)
      rw [← nI_add n 1, ← zrv_s] at h
      refine vcfc_2_5 _ _ _ _ _ _ _ ⟨fun q => by rw [I_nI (n := n) (by omega), I_nI (n := 401) (by omega)] at q; omega, fun _ => ⟨pin_nI (by omega) (by omega), ?_⟩⟩
      rw [ix_nI (j := n) (by omega), uA_uA, uA_self]
      exact h
  have h := lp 401 0 rfl
  rw [zrv_0, uA_id rfl] at h
  exact mcall_i (mq2 (cu := [])).2.2 rfl (vcf_2_0 (mcall d) (-1) none none z f _ h)
theorem c_last (d : Nat) (x2 : Int32) {z : Nat → Int32} {f : Nat → FA} {n k to : Nat} {h : Nat → Nat} (hh : ∀ i, i < n → h i ≤ 1) (hn : n ≤ 16) (ht : to ≤ n) (hk : k ≤ 8) (h23 : ∀ j, j ≤ n → f 23 j = nI (pzS h j)) (h22 : ∀ j, j < to → PzC (decide (¬ x2 = 0)) (PzR (pzw h) 0 k j) (f 22 j)) : ∃ y, PzC (decide (¬ x2 = 0)) (PzR (pzw h) 0 (k + 1) to) y ∧ mcall (d + 1) 108 [vR 21, vI (nI to), vI x2] (LT u z f) = some (some (vI y), LT u z f) := by
  have lp : ∀ t i, i + t = to → ∀ y, PzC (decide (¬ x2 = 0)) (pzI (pzw h) k to i) y → ∃ y', PzC (decide (¬ x2 = 0)) (pzI (pzw h) k to to) y' ∧ ∀ o5 o6, RC (mcall d) (mP 108) 4 [some (vR 21), some (vI (nI to)), some (vI x2), some (vI y), some (vI (nI i)), o5, o6] [] (LT u z f) (some (vI y'), LT u z f) := by
    intro t
    induction t with
    | zero =>
      intro i hi y hy
      obtain rfl : i = to := by omega
      exact ⟨y, hy, fun o5 o6 => vcc4_108_4 _ _ _ _ _ _ _ _ _ _ ⟨fun _ => rfl, fun q => absurd q (Int.lt_irrefl _)⟩⟩
    | succ t ih =>
      intro i hi y hy
      have it : i < to := by omega
      have it' : I (nI i) < I (nI to) := by rw [I_nI (n := to) (by omega), I_nI (n := i) (by omega)]; omega
      have t401 : I (nI to) < I (nI 401) := by rw [I_nI (n := to) (by omega), I_nI (n := 401) (by omega)]; omega
      have pi : pin (nI i) 401 = true := pin_nI (by omega) (by omega)
      have xi : ix (nI i) = i := ix_nI (by omega)
      have pt : pin (nI to) 401 = true := pin_nI (by omega) (by omega)
      have xt : ix (nI to) = to := ix_nI (by omega)
      have e1 : nI i + 1 = nI (i + 1) := nI_add i 1
      rcases h22 i it with ⟨g1, g2⟩ | ⟨x1, g1, g2, g3⟩
      · obtain ⟨y', k1, k2⟩ := ih (i + 1) (by omega) y (hy.iff (fun v => by
          rw [pzI_s]
          constructor
          · rintro (q | ⟨v', q, _⟩)
            · exact q
            · exact absurd q (g2 v')
          · exact Or.inl))
        refine ⟨y', k1, fun o5 o6 => vcc4_108_4 _ _ _ _ _ _ _ _ _ _ ⟨fun q => by omega, fun _ => ⟨fun q => by omega, fun _ => ⟨pi, fun _ => ?_, fun q => ?_⟩⟩⟩⟩
        · rw [e1]
          exact k2 _ _
        · rw [xi] at q
          exact absurd g1 q
      · have hx1 : x1 ≤ k := PzR_v (pzw_le h) k i x1 g3.1
        have hs1 := pzS_mono (h := h) to i (by omega)
        have hs2 := pzS_le (h := h) to (fun j hj => hh j (by omega))
        have h2 : ¬ f 22 i = -1 := by
          rw [g2]
          exact nI_m1 (by omega)
        -- the new best, for either worth of this parish
        have new : ∀ e, pzw h i to = e → (y = -1 → PzC (decide (¬ x2 = 0)) (pzI (pzw h) k to (i + 1)) (nI (x1 + e))) ∧ (¬ y = -1 → (x2 = 0 → (I y ≤ I (nI (x1 + e)) → PzC (decide (¬ x2 = 0)) (pzI (pzw h) k to (i + 1)) y) ∧ (I (nI (x1 + e)) < I y → PzC (decide (¬ x2 = 0)) (pzI (pzw h) k to (i + 1)) (nI (x1 + e)))) ∧ (¬ x2 = 0 → (I (nI (x1 + e)) ≤ I y → PzC (decide (¬ x2 = 0)) (pzI (pzw h) k to (i + 1)) y) ∧ (I y < I (nI (x1 + e)) → PzC (decide (¬ x2 = 0)) (pzI (pzw h) k to (i + 1)) (nI (x1 + e))))) := by
          intro e he
          have he1 : e ≤ 1 := by rw [← he]; exact pzw_le h i to
          have hQ : ∀ v, pzI (pzw h) k to (i + 1) v ↔ (pzI (pzw h) k to i v ∨ ∃ v', PzR (pzw h) 0 k i v' ∧ v = v' + e) := fun v => by
            rw [pzI_s, he]
          rcases hy with ⟨y1, y2⟩ | ⟨x, x9, y1, y2⟩
          · exact ⟨fun _ => Or.inr ⟨x1 + e, by omega, rfl, PzB_new hQ y2 g3⟩, fun q => absurd y1 q⟩
          · have hb := PzB_two hQ y2 g3
            have i1 : I y = x := by rw [y1]; exact I_nI (by omega)
            have i2 : I (nI (x1 + e)) = ((x1 + e : Nat) : Int) := I_nI (by omega)
            refine ⟨fun q => absurd (y1.symm.trans q) (nI_m1 (by omega)), fun _ => ⟨fun q => ⟨fun c => ?_, fun c => ?_⟩, fun q => ⟨fun c => ?_, fun c => ?_⟩⟩⟩
            · rw [decide_eq_false (fun c => c q), if_neg (by decide), if_neg (by omega)] at hb
              rw [decide_eq_false (fun c => c q)]
              exact Or.inr ⟨x, x9, y1, hb⟩
            · rw [decide_eq_false (fun c => c q), if_neg (by decide), if_pos (by omega)] at hb
              rw [decide_eq_false (fun c => c q)]
              exact Or.inr ⟨x1 + e, by omega, rfl, hb⟩
            · rw [decide_eq_true q, if_pos rfl, if_neg (by omega)] at hb
              rw [decide_eq_true q]
              exact Or.inr ⟨x, x9, y1, hb⟩
            · rw [decide_eq_true q, if_pos rfl, if_pos (by omega)] at hb
              rw [decide_eq_true q]
              exact Or.inr ⟨x1 + e, by omega, rfl, hb⟩
        have sums : I (2 * (f 23 (ix (nI to)) - f 23 (ix (nI i)))) = ((2 * (pzS h to - pzS h i) : Nat) : Int) := by
          rw [xt, xi, h23 to ht, h23 i (by omega), nI_sub hs1, nI_dbl, I_nI (by omega)]
        have dif : I (nI to - nI i) = ((to - i : Nat) : Int) := by rw [nI_sub (by omega), I_nI (by omega)]
        by_cases hw : to - i < 2 * (pzS h to - pzS h i)
        · have he : pzw h i to = 1 := if_pos hw
          obtain ⟨n1, n2⟩ := new 1 he
          have fin : ∃ y2, PzC (decide (¬ x2 = 0)) (pzI (pzw h) k to (i + 1)) y2 ∧ ((y = -1 → y2 = nI (x1 + 1)) ∧ (¬ y = -1 → (x2 = 0 → (I y ≤ I (nI (x1 + 1)) → y2 = y) ∧ (I (nI (x1 + 1)) < I y → y2 = nI (x1 + 1))) ∧ (¬ x2 = 0 → (I (nI (x1 + 1)) ≤ I y → y2 = y) ∧ (I y < I (nI (x1 + 1)) → y2 = nI (x1 + 1))))) := by
            by_cases c1 : y = -1
            · exact ⟨_, n1 c1, fun _ => rfl, fun c => absurd c1 c⟩
            · by_cases c2 : x2 = 0
              · by_cases c3 : I y ≤ I (nI (x1 + 1))
                · exact ⟨_, ((n2 c1).1 c2).1 c3, fun c => absurd c c1, fun _ => ⟨fun _ => ⟨fun _ => rfl, fun c => by omega⟩, fun c => absurd c2 c⟩⟩
                · exact ⟨_, ((n2 c1).1 c2).2 (by omega), fun c => absurd c c1, fun _ => ⟨fun _ => ⟨fun c => absurd c c3, fun _ => rfl⟩, fun c => absurd c2 c⟩⟩
              · by_cases c3 : I (nI (x1 + 1)) ≤ I y
                · exact ⟨_, ((n2 c1).2 c2).1 c3, fun c => absurd c c1, fun _ => ⟨fun c => absurd c c2, fun _ => ⟨fun _ => rfl, fun c => by omega⟩⟩⟩
                · exact ⟨_, ((n2 c1).2 c2).2 (by omega), fun c => absurd c c1, fun _ => ⟨fun c => absurd c c2, fun _ => ⟨fun c => absurd c c3, fun _ => rfl⟩⟩⟩
          obtain ⟨y2, p1, p2, p3⟩ := fin
          obtain ⟨y', k1, k2⟩ := ih (i + 1) (by omega) y2 p1
          refine ⟨y', k1, fun o5 o6 => vcc4_108_4 _ _ _ _ _ _ _ _ _ _ ⟨fun q => by omega, fun _ => ⟨fun q => by omega, fun _ => ⟨pi, fun q => absurd (by rw [xi] at q; exact q) h2, fun _ => ⟨pt, pi, fun q => ?_, fun _ => ⟨pi, ?_⟩⟩⟩⟩⟩⟩
          · rw [sums, dif] at q
            omega
          · rw [xi, g2, e1, show nI x1 + 1 = nI (x1 + 1) from nI_add x1 1]
            refine ⟨fun c => ?_, fun c => ⟨fun c2 => ⟨fun c3 => ?_, fun c3 => ?_⟩, fun c2 => ⟨fun c3 => ?_, fun c3 => ?_⟩⟩⟩
            · rw [← p2 c]
              exact k2 _ _
            · rw [← ((p3 c).1 c2).1 c3]
              exact k2 _ _
            · rw [← ((p3 c).1 c2).2 c3]
              exact k2 _ _
            · rw [← ((p3 c).2 c2).1 c3]
              exact k2 _ _
            · rw [← ((p3 c).2 c2).2 c3]
              exact k2 _ _
        · have he : pzw h i to = 0 := if_neg hw
          obtain ⟨n1, n2⟩ := new 0 he
          rw [Nat.add_zero] at n1 n2
          have fin : ∃ y2, PzC (decide (¬ x2 = 0)) (pzI (pzw h) k to (i + 1)) y2 ∧ ((y = -1 → y2 = nI x1) ∧ (¬ y = -1 → (x2 = 0 → (I y ≤ I (nI x1) → y2 = y) ∧ (I (nI x1) < I y → y2 = nI x1)) ∧ (¬ x2 = 0 → (I (nI x1) ≤ I y → y2 = y) ∧ (I y < I (nI x1) → y2 = nI x1)))) := by
            by_cases c1 : y = -1
            · exact ⟨_, n1 c1, fun _ => rfl, fun c => absurd c1 c⟩
            · by_cases c2 : x2 = 0
              · by_cases c3 : I y ≤ I (nI x1)
                · exact ⟨_, ((n2 c1).1 c2).1 c3, fun c => absurd c c1, fun _ => ⟨fun _ => ⟨fun _ => rfl, fun c => by omega⟩, fun c => absurd c2 c⟩⟩
                · exact ⟨_, ((n2 c1).1 c2).2 (by omega), fun c => absurd c c1, fun _ => ⟨fun _ => ⟨fun c => absurd c c3, fun _ => rfl⟩, fun c => absurd c2 c⟩⟩
              · by_cases c3 : I (nI x1) ≤ I y
                · exact ⟨_, ((n2 c1).2 c2).1 c3, fun c => absurd c c1, fun _ => ⟨fun c => absurd c c2, fun _ => ⟨fun _ => rfl, fun c => by omega⟩⟩⟩
                · exact ⟨_, ((n2 c1).2 c2).2 (by omega), fun c => absurd c c1, fun _ => ⟨fun c => absurd c c2, fun _ => ⟨fun c => absurd c c3, fun _ => rfl⟩⟩⟩
          obtain ⟨y2, p1, p2, p3⟩ := fin
          obtain ⟨y', k1, k2⟩ := ih (i + 1) (by omega) y2 p1
          refine ⟨y', k1, fun o5 o6 => vcc4_108_4 _ _ _ _ _ _ _ _ _ _ ⟨fun q => by omega, fun _ => ⟨fun q => by omega, fun _ => ⟨pi, fun q => absurd (by rw [xi] at q; exact q) h2, fun _ => ⟨pt, pi, fun _ => ⟨pi, ?_⟩, fun q => ?_⟩⟩⟩⟩⟩
          · rw [xi, g2, e1, nI_p0]
            refine ⟨fun c => ?_, fun c => ⟨fun c2 => ⟨fun c3 => ?_, fun c3 => ?_⟩, fun c2 => ⟨fun c3 => ?_, fun c3 => ?_⟩⟩⟩
            · rw [← p2 c]
              exact k2 _ _
            · rw [← ((p3 c).1 c2).1 c3]
              exact k2 _ _
            · rw [← ((p3 c).1 c2).2 c3]
              exact k2 _ _
            · rw [← ((p3 c).2 c2).1 c3]
              exact k2 _ _
            · rw [← ((p3 c).2 c2).2 c3]
              exact k2 _ _
          · rw [sums, dif] at q
            omega
  obtain ⟨y, k1, k2⟩ := lp to 0 (by omega) (-1) (Or.inl ⟨rfl, fun v => by rintro ⟨c, _, h1, _⟩; omega⟩)
  refine ⟨y, k1.iff (fun v => ?_), mcall_i (mq108 (cu := [])).2.2 rfl (vc108_0 (mcall d) (nI to) x2 none none none none z f _ (k2 _ _))⟩
  exact Iff.rfl
theorem pa51 (d : Nat) (x2 x3 : Int32) {z : Nat → Int32} {f : Nat → FA} {n k j : Nat} {h : Nat → Nat} (hh : ∀ i, i < n → h i ≤ 1) (hn : n ≤ 16) (hk : k ≤ 8) (hj : j < k) (h23 : ∀ i, i ≤ n → f 23 i = nI (pzS h i)) : ∀ t, t ≤ n + 1 → ∀ F, (∀ i, i < t → PzC (decide (¬ x3 = 0)) (PzR (pzw h) 0 j i) (F i)) → (∀ i, t ≤ i → i ≤ n → PzC (decide (¬ x3 = 0)) (PzR (pzw h) 0 (j + 1) i) (F i)) → ∃ F', (∀ i, i ≤ n → PzC (decide (¬ x3 = 0)) (PzR (pzw h) 0 (j + 1) i) (F' i)) ∧ ∀ res, (∀ o6, RC (mcall (d + 1)) (mP 113) 46 [some (vR 21), some (vR 5), some (vI x2), some (vI x3), some (vI (nI n)), some (vI (nI (j + 1))), o6] [] (LT u z (uA f 22 F')) res) → RC (mcall (d + 1)) (mP 113) 51 [some (vR 21), some (vR 5), some (vI x2), some (vI x3), some (vI (nI n)), some (vI (nI j)), some (vI (nI t + (-1)))] [] (LT u z (uA f 22 F)) res := by
  intro t
  induction t with
  | zero =>
    intro _ F h1 h2
    refine ⟨F, fun i hi => h2 i (by omega) hi, fun res H => vcc51_113_51 _ _ _ _ _ _ _ _ _ ⟨fun _ => ?_, fun q => absurd q (by decide)⟩⟩
    rw [show nI j + 1 = nI (j + 1) from nI_add j 1]
    exact H _
  | succ t ih =>
    intro ht F h1 h2
    rw [nI_mm (v := t + 1) (by omega), Nat.add_sub_cancel]
    have pt : pin (nI t) 401 = true := pin_nI (by omega) (by omega)
    obtain ⟨y, y1, y2⟩ := c_last (u := u) d x3 (z := z) (f := uA f 22 F) (n := n) (k := j) (to := t) hh hn (by omega) (by omega) (fun i hi => by rw [uA_ne (show (23 : Nat) ≠ 22 by decide)]; exact h23 i hi) (fun i hi => by rw [uA_self]; exact h1 i (by omega))
    obtain ⟨F', k1, k2⟩ := ih (by omega) (upd F t y) (fun i hi => by rw [pk_un (by omega)]; exact h1 i (by omega)) (fun i h3 h4 => by
      by_cases q : i = t
      · subst q
        rw [pk_us]
        exact y1
      · rw [pk_un q]
        exact h2 i (by omega) h4)
    refine ⟨F', k1, fun res H => vcc51_113_51 _ _ _ _ _ _ _ _ _ ⟨fun q => by rw [I_nI (n := t) (by omega)] at q; omega, fun _ => ⟨_, _, _, y2, pt, ?_⟩⟩⟩
    rw [ix_nI (j := t) (by omega), uA_self, uA_uA]
    exact k2 res H
theorem pa46 (d : Nat) (x3 : Int32) {z : Nat → Int32} {f : Nat → FA} {n k : Nat} {h : Nat → Nat} (hh : ∀ i, i < n → h i ≤ 1) (hn : n ≤ 16) (hk : k ≤ 8) (h23 : ∀ i, i ≤ n → f 23 i = nI (pzS h i)) : ∀ t j, j + t = k → ∀ F, (∀ i, i ≤ n → PzC (decide (¬ x3 = 0)) (PzR (pzw h) 0 j i) (F i)) → ∃ F', PzC (decide (¬ x3 = 0)) (PzR (pzw h) 0 k n) (F' n) ∧ ∀ o6, RC (mcall (d + 1)) (mP 113) 46 [some (vR 21), some (vR 5), some (vI (nI k)), some (vI x3), some (vI (nI n)), some (vI (nI j)), o6] [] (LT u z (uA f 22 F)) (some (vI (F' n)), LT u z (uA f 22 F')) := by
  intro t
  induction t with
  | zero =>
    intro j hj F hF
    obtain rfl : j = k := by omega
    refine ⟨F, hF n (Nat.le_refl _), fun o6 => vcc46_113_46 _ _ _ _ _ _ _ _ _ ⟨fun _ => ⟨pin_nI (by omega) (by omega), ?_⟩, fun q => absurd q (Int.lt_irrefl _)⟩⟩
    rw [uA_self, ix_nI (j := n) (by omega)]
  | succ t ih =>
    intro j hj F hF
    obtain ⟨F1, k1, k2⟩ := pa51 (u := u) d (nI k) x3 (z := z) (f := f) (k := k) (j := j) hh hn hk (by omega) h23 (n + 1) (Nat.le_refl _) F (fun i hi => hF i (by omega)) (fun i h1 h2 => by omega)
    rw [nI_mm (v := n + 1) (by omega), Nat.add_sub_cancel] at k2
    obtain ⟨F', k3, k4⟩ := ih (j + 1) (by omega) F1 k1
    refine ⟨F', k3, fun o6 => vcc46_113_46 _ _ _ _ _ _ _ _ _ ⟨fun q => ?_, fun _ => k2 _ k4⟩⟩
    rw [I_nI (n := k) (by omega), I_nI (n := j) (by omega)] at q
    omega
theorem pa25 (d : Nat) (x2 x3 : Int32) {z : Nat → Int32} {f : Nat → FA} {n : Nat} {h : Nat → Nat} (hz : z 5 = nI n) (hn : n ≤ 16) (hg : ∀ i, i < n → f 6 i = nI (h i)) : ∀ t i, i + t = n → ∀ g, (∀ j, j ≤ i → g j = nI (pzS h j)) → ∃ g', (∀ j, j ≤ n → g' j = nI (pzS h j)) ∧ ∀ o6 res, RC (mcall (d + 1)) (mP 113) 46 [some (vR 21), some (vR 5), some (vI x2), some (vI x3), some (vI (nI n)), some (vI (nI 0)), o6] [] (LT u z (uA f 23 g')) res → RC (mcall (d + 1)) (mP 113) 25 [some (vR 21), some (vR 5), some (vI x2), some (vI x3), some (vI (nI n)), some (vI (nI i)), o6] [] (LT u z (uA f 23 g)) res := by
  intro t
  induction t with
  | zero =>
    intro i hi g h1
    obtain rfl : i = n := by omega
    exact ⟨g, h1, fun o6 res H => vcc25_113_25 _ _ _ _ _ _ _ _ _ ⟨fun _ => H, fun q => absurd q (Int.lt_irrefl _)⟩⟩
  | succ t ih =>
    intro i hi g h1
    have hit := c_it1 (u := u) d (f := uA f 23 g) hz hn (k := i) (by omega)
    rw [uA_ne (show (6 : Nat) ≠ 23 by decide), hg i (by omega)] at hit
    obtain ⟨g', k1, k2⟩ := ih (i + 1) (by omega) (upd g (i + 1) (nI (pzS h (i + 1)))) (fun j hj => by
      by_cases q : j = i + 1
      · subst q
        rw [pk_us]
      · rw [pk_un q]
        exact h1 j (by omega))
    refine ⟨g', k1, fun o6 res H => vcc25_113_25 _ _ _ _ _ _ _ _ _ ⟨fun q => ?_, fun _ => ⟨pin_nI (by omega) (by omega), _, _, _, hit, ?_⟩⟩⟩
    · rw [I_nI (n := n) (by omega), I_nI (n := i) (by omega)] at q
      omega
    · rw [show nI i + 1 = nI (i + 1) from nI_add i 1, ix_nI (j := i + 1) (by omega), ix_nI (j := i) (by omega), uA_self, h1 i (Nat.le_refl _), nI_add, uA_uA]
      exact ⟨pin_nI (by omega) (by omega), k2 o6 res H⟩
/-- whether parishes can be asked for -/
def pzOK (n : Nat) (x1 x2 : Int32) : Prop := 1 ≤ I x1 ∧ I x1 ≤ 8 ∧ I x1 ≤ n ∧ 0 ≤ I x2 ∧ I x2 ≤ 1
theorem c_parishes (d : Nat) (x1 x2 : Int32) {z : Nat → Int32} {f : Nat → FA} {n : Nat} {h : Nat → Nat} (hz : z 5 = nI n) (hn : n ≤ 16) (hh : ∀ i, i < n → h i ≤ 1) (hg : ∀ i, i < n → f 6 i = nI (h i)) : ∃ f1 y, (∀ k, k ≠ 22 → k ≠ 23 → f1 k = f k) ∧ (pzOK n x1 x2 → PzC (decide (x2 = 0)) (PzR (pzw h) 0 (I x1).toNat n) y) ∧ (¬ pzOK n x1 x2 → y = -1) ∧ mcall (d + 3) 172 [vR 0, vI x1, vI x2] (LT u z f) = some (some (vI y), LT u z f1) := by
  have go : ∀ res, _ → mcall (d + 3) 172 [vR 0, vI x1, vI x2] (LT u z f) = some res := fun res H => mcall_i (mq172 (cu := [])).2.2 rfl (vc172_0 (mcall (d + 2)) x1 x2 none z f res H)
  have iz : I (z 5) = n := by rw [hz]; exact I_nI (by omega)
  by_cases hv : pzOK n x1 x2
  · obtain ⟨v1, v2, v3, v4, v5⟩ := hv
    obtain ⟨k, rfl, -, ik⟩ := nI_ofI (x := x1) (by omega)
    have kk : (I (nI k)).toNat = k := by rw [ik]; exact Int.toNat_natCast k
    have run : ∀ x3, ∃ f1 y, (∀ k, k ≠ 22 → k ≠ 23 → f1 k = f k) ∧ PzC (decide (¬ x3 = 0)) (PzR (pzw h) 0 k n) y ∧ mcall (d + 2) 113 [vR 21, vR 5, vI (nI k), vI x3] (LT u z f) = some (some (vI y), LT u z f1) := fun x3 => by
      obtain ⟨g', k1, k2⟩ := pa25 (u := u) d (nI k) x3 (z := z) (f := uA (uA f 22 (zrv (f 22) (-1) 401)) 22 (upd (zrv (f 22) (-1) 401) 0 0)) (n := n) (h := h) hz hn (fun i hi => by
        rw [uA_uA, uA_ne (show (6 : Nat) ≠ 22 by decide)]
        exact hg i hi) n 0 (by omega) (upd (f 23) 0 0) (fun j hj => by
        obtain rfl : j = 0 := by omega
        rw [pk_us]
        rfl)
      rw [uA_uA] at k2
      obtain ⟨F', k3, k4⟩ := pa46 (u := u) d x3 (z := z) (f := uA (uA f 22 (upd (zrv (f 22) (-1) 401) 0 0)) 23 g') (n := n) (k := k) hh hn (by omega) (fun i hi => by
        rw [uA_self]
        exact k1 i hi) k 0 (by omega) (upd (zrv (f 22) (-1) 401) 0 0) (fun i hi => by
        by_cases q : i = 0
        · subst q
          rw [pk_us]
          exact Or.inr ⟨0, by omega, rfl, ⟨rfl, rfl⟩, fun v hv => by
            obtain ⟨-, rfl⟩ := hv
            split <;> omega⟩
        · rw [pk_un q]
          refine Or.inl ⟨if_pos (by omega), fun v hv => ?_⟩
          exact q hv.1.symm)
      rw [uA_id (k := 22) (by rw [uA_ne (show (22 : Nat) ≠ 23 by decide), uA_self])] at k4
      refine ⟨uA (uA (uA f 22 (upd (zrv (f 22) (-1) 401) 0 0)) 23 g') 22 F', _, fun j h1 h2 => ?_, k3, mcall_i (mq113 (cu := [])).2.2 rfl (vc113_0 (mcall (d + 1)) (nI k) x3 none none none z f _ ⟨fun q => ?_, fun _ => ⟨_, _, film d, by decide, by decide, ?_⟩⟩)⟩
      · rw [uA_ne h1, uA_ne h2, uA_ne h1]
      · rw [hz, show nI 401 - 1 = nI 400 from nI_sub (b := 1) (by omega), I_nI (n := 400) (by omega), I_nI (n := n) (by omega)] at q
        omega
      · rw [uA_uA, uA_self, uA_ne (show (23 : Nat) ≠ 22 by decide), show ix 0 = 0 from by decide, hz]
        exact k2 _ _ (k4 _)
    by_cases q : x2 = 0
    · obtain ⟨f1, y, k1, k2, k3⟩ := run 1
      refine ⟨f1, y, k1, fun _ => ?_, fun c => absurd ⟨v1, v2, v3, v4, v5⟩ c, go _ ⟨fun c => by omega, fun _ => ⟨fun c => by omega, fun _ => ⟨fun c => by omega, fun _ => ⟨fun c => by omega, fun _ => ⟨fun _ => ⟨fun c => absurd q c, fun _ => ⟨_, _, _, k3, rfl⟩⟩, fun c => by omega⟩⟩⟩⟩⟩⟩
      rw [kk, decide_eq_true q]
      rw [decide_eq_true (show ¬ (1 : Int32) = 0 by decide)] at k2
      exact k2
    · obtain ⟨f1, y, k1, k2, k3⟩ := run 0
      refine ⟨f1, y, k1, fun _ => ?_, fun c => absurd ⟨v1, v2, v3, v4, v5⟩ c, go _ ⟨fun c => by omega, fun _ => ⟨fun c => by omega, fun _ => ⟨fun c => by omega, fun _ => ⟨fun c => by omega, fun _ => ⟨fun _ => ⟨fun _ => ⟨_, _, _, k3, rfl⟩, fun c => absurd c q⟩, fun c => by omega⟩⟩⟩⟩⟩⟩
      rw [kk, decide_eq_false q]
      rw [decide_eq_false (show ¬ ¬ (0 : Int32) = 0 by decide)] at k2
      exact k2
  · refine ⟨f, -1, fun _ _ _ => rfl, fun c => absurd c hv, fun _ => rfl, go _ ⟨fun _ => rfl, fun q1 => ⟨fun _ => rfl, fun q2 => ⟨fun _ => rfl, fun q3 => ⟨fun _ => rfl, fun q4 => ⟨fun q5 => absurd ⟨q1, q2, by omega, q4, q5⟩ hv, fun _ => rfl⟩⟩⟩⟩⟩⟩
end TLs
