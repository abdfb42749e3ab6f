/-! what the law tells, on the reference's side -/
def rcn (o : Nat) : Nat := ([0, 1, 5, 9, 2, 3, 4, 6, 7, 8, 10, 11] : List Nat).getD o 0
/-- codes as the reference writes them, from i up to j -/
def tkR : List TK → FA → FA → Nat → Nat → Prop
  | [], _, _, i, j => i = j
  | e :: P, op, ar, i, j => e.1 < 12 ∧ e.2 < 100000 ∧ (if e.1 = 2 then op i = nI 0 ∧ ar i = nI e.2 ∧ op (i + 1) = nI 5 ∧ tkR P op ar (i + 2) j else op i = nI (rcn e.1) ∧ (e.1 < 2 → ar i = nI e.2) ∧ tkR P op ar (i + 1) j)
theorem tkR_le : ∀ (P : List TK) (op ar : FA) (i j : Nat), tkR P op ar i j → i + P.length ≤ j := by
  intro P
  induction P with
  | nil => intro op ar i j h; have h : i = j := h; simp [h]
  | cons e P ih =>
    intro op ar i j h
    obtain ⟨-, -, h⟩ := h
    rw [List.length_cons]
    by_cases c : e.1 = 2
    · rw [if_pos c] at h
      have := ih op ar (i + 2) j h.2.2.2
      omega
    · rw [if_neg c] at h
      have := ih op ar (i + 1) j h.2.2
      omega
theorem hld_r (d : Nat) (v x : Int32) {z : Nat → Int32} {f : Nat → FA} (hx : 0 < I x) : mcall (d + 1) 58 [vR 0, vI v, vI 0, vI x] (LR z f) = some (some (vI (hld v x)), LR z f) := by
  have go : ∀ res, _ → mcall (d + 1) 58 [vR 0, vI v, vI 0, vI x] (LR z f) = some res := fun res H => mcall_i (mq58 (cu := [])).2.2 rfl (vc58_0 (mcall d) v 0 x z f res H)
  unfold hld
  refine go _ ⟨fun q => ⟨fun q2 => ?_, fun q2 => ?_⟩, fun q => ?_⟩
  · have q : 0 ≤ I v := q
    rw [if_neg (by omega), if_neg (by omega)]
  · have q : 0 ≤ I v := q
    rw [if_neg (by omega), if_pos q2]
  · have q : I v < 0 := q
    rw [if_pos q]
theorem bit_and {x y : Int32} (hx : bit01 x) (hy : bit01 y) : x * y = x &&& y := by
  rcases hx with rfl | rfl <;> rcases hy with rfl | rfl <;> decide
theorem bit_or {x y : Int32} (hx : bit01 x) (hy : bit01 y) : (if 0 < I (x + y) then (1 : Int32) else 0) = x ||| y := by
  rcases hx with rfl | rfl <;> rcases hy with rfl | rfl <;> decide
theorem mTwo (d : Nat) (x y : Int32) {o : Nat} (ho : 4 ≤ o) (h : o < 12) (hb : 10 ≤ o → bit01 x ∧ bit01 y) {z : Nat → Int32} {f : Nat → FA} : mcall (d + 1) 57 [vR 0, vI (nI (rcn o)), vI x, vI y] (LR z f) = some (some (vI (jnO o x y)), LR z f) := by
  have go : ∀ w res, _ → mcall (d + 1) 57 [vR 0, vI w, vI x, vI y] (LR z f) = some res := fun w res H => mcall_i (mq57 (cu := [])).2.2 rfl (vc57_0 (mcall d) w x y z f res H)
  unfold jnO
  have ab : ∀ {P Q : Prop}, P → ¬ P → Q := fun a b => absurd a b
  match o, ho, h, hb with
  | 4, _, _, _ => exact go 2 _ ⟨fun q => absurd rfl q, fun _ => rfl⟩
  | 5, _, _, _ => exact go 3 _ ⟨fun _ => ⟨fun q => absurd rfl q, fun _ => rfl⟩, fun q => absurd q (by decide)⟩
  | 6, _, _, _ => exact go 4 _ ⟨fun _ => ⟨fun _ => ⟨fun q => absurd rfl q, fun _ => rfl⟩, fun q => absurd q (by decide)⟩, fun q => absurd q (by decide)⟩
  | 7, _, _, _ =>
    refine go 6 _ ⟨fun _ => ⟨fun _ => ⟨fun _ => ⟨fun _ => ⟨fun q => absurd rfl q, fun _ => ⟨fun q => ?_, fun q => ?_⟩⟩, fun q => absurd q (by decide)⟩, fun q => absurd q (by decide)⟩, fun q => absurd q (by decide)⟩, fun q => absurd q (by decide)⟩
    · rw [if_neg (by decide), if_neg (by decide), if_neg (by decide), if_pos rfl, if_neg (by omega)]
    · rw [if_neg (by decide), if_neg (by decide), if_neg (by decide), if_pos rfl, if_pos q]
  | 8, _, _, _ =>
    refine go 7 _ ⟨fun _ => ⟨fun _ => ⟨fun _ => ⟨fun _ => ⟨fun _ => ⟨fun q => absurd rfl q, fun _ => ⟨fun q => ?_, fun q => ?_⟩⟩, fun q => absurd q (by decide)⟩, fun q => absurd q (by decide)⟩, fun q => absurd q (by decide)⟩, fun q => absurd q (by decide)⟩, fun q => absurd q (by decide)⟩
    · rw [if_neg (by decide), if_neg (by decide), if_neg (by decide), if_neg (by decide), if_pos rfl, if_neg q]
    · rw [if_neg (by decide), if_neg (by decide), if_neg (by decide), if_neg (by decide), if_pos rfl, if_pos q]
  | 9, _, _, _ =>
    refine go 8 _ ⟨fun _ => ⟨fun _ => ⟨fun _ => ⟨fun _ => ⟨fun _ => ⟨fun _ => ⟨fun q => absurd rfl q, fun _ => ⟨fun q => ?_, fun q => ?_⟩⟩, fun q => absurd q (by decide)⟩, fun q => absurd q (by decide)⟩, fun q => absurd q (by decide)⟩, fun q => absurd q (by decide)⟩, fun q => absurd q (by decide)⟩, fun q => absurd q (by decide)⟩
    · rw [if_neg (by decide), if_neg (by decide), if_neg (by decide), if_neg (by decide), if_neg (by decide), if_pos rfl, if_neg (by omega)]
    · rw [if_neg (by decide), if_neg (by decide), if_neg (by decide), if_neg (by decide), if_neg (by decide), if_pos rfl, if_pos q]
  | 10, _, _, hb =>
    obtain ⟨b1, b2⟩ := hb (by omega)
    refine go 10 _ ⟨fun _ => ⟨fun _ => ⟨fun _ => ⟨fun _ => ⟨fun _ => ⟨fun _ => ⟨fun _ => ⟨fun q => absurd rfl q, fun _ => ?_⟩, fun q => absurd q (by decide)⟩, fun q => absurd q (by decide)⟩, fun q => absurd q (by decide)⟩, fun q => absurd q (by decide)⟩, fun q => absurd q (by decide)⟩, fun q => absurd q (by decide)⟩, fun q => absurd q (by decide)⟩
    rw [if_neg (by decide), if_neg (by decide), if_neg (by decide), if_neg (by decide), if_neg (by decide), if_neg (by decide), if_pos rfl, bit_and b1 b2]
  | 11, _, _, hb =>
    obtain ⟨b1, b2⟩ := hb (by omega)
    refine go 11 _ ⟨fun _ => ⟨fun _ => ⟨fun _ => ⟨fun _ => ⟨fun _ => ⟨fun _ => ⟨fun _ => ⟨fun _ => ⟨fun q => ?_, fun q => ?_⟩, fun q => absurd q (by decide)⟩, fun q => absurd q (by decide)⟩, fun q => absurd q (by decide)⟩, fun q => absurd q (by decide)⟩, fun q => absurd q (by decide)⟩, fun q => absurd q (by decide)⟩, fun q => absurd q (by decide)⟩, fun q => absurd q (by decide)⟩
    · rw [if_neg (by decide), if_neg (by decide), if_neg (by decide), if_neg (by decide), if_neg (by decide), if_neg (by decide), if_neg (by decide), ← bit_or b1 b2, if_neg (by omega)]
    · rw [if_neg (by decide), if_neg (by decide), if_neg (by decide), if_neg (by decide), if_neg (by decide), if_neg (by decide), if_neg (by decide), ← bit_or b1 b2, if_pos q]
  | n + 12, _, h, _ => exact absurd h (by omega)
theorem mPartX (d : Nat) (x : Int32) {a : Nat} (ha : 1 ≤ a) (h : a < 2147483648) {z : Nat → Int32} {f : Nat → FA} : mcall (d + 1) 57 [vR 0, vI (nI 5), vI x, vI (nI a)] (LR z f) = some (some (vI (x / nI a)), LR z f) := by
  have h0 : ¬ nI a = 0 := fun q => absurd (nI_inj (b := 0) h (by omega) q) (by omega)
  exact mcall_i (mq57 (cu := [])).2.2 rfl (vc57_0 (mcall d) (nI 5) x (nI a) z f _ ⟨fun _ => ⟨fun _ => ⟨fun _ => ⟨fun q => absurd rfl q, fun _ => ⟨h0, rfl⟩⟩, fun q => absurd q (by decide)⟩, fun q => absurd q (by decide)⟩, fun q => absurd q (by decide)⟩)
theorem rcn_ne : ∀ o, o < 12 → 4 ≤ o → rcn o ≠ 0 ∧ rcn o ≠ 1 ∧ rcn o ≠ 9 ∧ rcn o < 12 := by decide
theorem mRun (d : Nat) (o2 : Option PV) {to : Nat} {z : Nat → Int32} {f : Nat → FA} (h4 : to ≤ 400) : ∀ (P : List TK) (i n : Nat) (g G : FA) (n' : Nat) (g' : FA), tkR P (f 15) (f 16) i to → n ≤ 32 → (∀ j, j < n → G j = g j) → evF (f 21) P (n, g) = some (n', g') → n' = 1 → ∃ G', G' 0 = g' 0 ∧ RC (mcall (d + 1)) (mP 56) 8 [some (vR 0), some (vI 0), o2, some (vI (nI to)), some (vI (nI n)), some (vI (nI i))] [] (LR z (uA f 22 G)) (some (vI (g' 0)), LR z (uA f 22 G')) := by
  have e400 : 400 * (0 : Int32) + nI to = nI to := by
    rw [show 400 * (0 : Int32) = 0 from by decide]
    exact Int32.zero_add _
  have it : I (nI to) = to := I_nI (by omega)
  have n15 : (15 : Nat) ≠ 22 := by decide
  have n16 : (16 : Nat) ≠ 22 := by decide
  have n21 : (21 : Nat) ≠ 22 := by decide
  have l0 : (0 : Int32) = nI 0 := rfl
  have ne : ∀ {p q : Nat}, p < 12 → q < 12 → p ≠ q → ¬ nI p = nI q := fun hp hq hpq c => hpq (nI_inj (by omega) (by omega) c)
  intro P
  induction P with
  | nil =>
    intro i n g G n' g' hT _ hG he h1
    obtain ⟨rfl, rfl⟩ : n = n' ∧ g = g' := by
      have := Option.some.inj he
      exact ⟨congrArg Prod.fst this, congrArg Prod.snd this⟩
    subst h1
    have hT : i = to := hT
    subst hT
    refine ⟨G, hG 0 (by omega), vcc8_56_8 d _ _ _ _ _ _ _ _ ⟨fun _ => ⟨by decide, ?_⟩, fun q => ?_⟩⟩
    · rw [uA_self, show ix 0 = 0 from by decide, hG 0 (by omega)]
    · rw [e400] at q
      exact absurd q (Int.lt_irrefl _)
  | cons e P ih =>
    intro i n g G n' g' hT hn hG he h1
    have hle := tkR_le _ _ _ _ _ hT
    rw [List.length_cons] at hle
    obtain ⟨o, a⟩ := e
    obtain ⟨t1, t2, hT⟩ := hT
    have t1 : o < 12 := t1
    have t2 : a < 100000 := t2
    have he : (match ev1 (f 21) (o, a) (n, g) with
      | some s' => evF (f 21) P s'
      | none => none) = some (n', g') := he
    cases hs : ev1 (f 21) (o, a) (n, g) with
    | none => rw [hs] at he; cases he
    | some s' =>
    rw [hs] at he
    obtain ⟨m, g1⟩ := s'
    have he : evF (f 21) P (m, g1) = some (n', g') := he
    have ii : I (nI i) = i := I_nI (by omega)
    have iN : I (nI n) = n := I_nI (by omega)
    have lt : I (nI i) < I (400 * (0 : Int32) + nI to) := by rw [e400, ii, it]; omega
    have pI : pin (nI i) 1200 = true := pin_nI (by omega) (by omega)
    have xi : ix (nI i) = i := ix_nI (by omega)
    have e1 : nI i + 1 = nI (i + 1) := nI_add i 1
    have en : nI n + 1 = nI (n + 1) := nI_add n 1
    unfold ev1 at hs
    by_cases c2 : o < 2
    · rw [if_pos (show (o, a).1 < 2 from c2)] at hs
      obtain ⟨⟨q1, q2⟩, q3⟩ := ite_some hs
      have q1 : n < 32 := q1
      have pn : pin (nI n) 420 = true := pin_nI (by omega) (by omega)
      have xn : ix (nI n) = n := ix_nI (by omega)
      have hm : m = n + 1 := (congrArg Prod.fst q3).symm
      subst hm
      rw [if_neg (show ¬ (o, a).1 = 2 from fun q => by have q : o = 2 := q; omega)] at hT
      obtain ⟨T1, T2, T3⟩ := hT
      have V2 : f 16 i = nI a := T2 c2
      by_cases c0 : o = 0
      · subst c0
        have T1 : f 15 i = 0 := T1
        have hg : g1 = upd g n (nI a) := by
          have := (congrArg Prod.snd q3).symm
          exact this.trans (by rw [if_pos rfl])
        subst hg
        obtain ⟨G', k1, k2⟩ := ih (i + 1) (n + 1) _ (upd G n (nI a)) n' g' T3 (by omega) (fun j hj => by
          by_cases c : j = n
          · subst c
            rw [pk_us, pk_us]
          · rw [pk_un c, pk_un c]
            exact hG j (by omega)) he h1
        refine ⟨G', k1, vcc8_56_8 d _ _ _ _ _ _ _ _ ⟨fun q => by omega, fun _ => ⟨pI, fun _ => ⟨pI, pI, pn, ?_⟩, fun q => ?_⟩⟩⟩
        · rw [xi, xn, e1, en, uA_self, uA_uA, uA_ne n16, V2]
          exact k2
        · rw [xi, uA_ne n15] at q
          exact absurd T1 q
      · obtain rfl : o = 1 := by omega
        have T1 : f 15 i = 1 := T1
        have q2 : a < 10 := q2 rfl
        have hg : g1 = upd g n (f 21 a) := by
          have := (congrArg Prod.snd q3).symm
          exact this.trans (by rw [if_neg (fun q : (1, a).1 = 0 => absurd (show (1 : Nat) = 0 from q) (by decide))])
        subst hg
        obtain ⟨G', k1, k2⟩ := ih (i + 1) (n + 1) _ (upd G n (f 21 a)) n' g' T3 (by omega) (fun j hj => by
          by_cases c : j = n
          · subst c
            rw [pk_us, pk_us]
          · rw [pk_un c, pk_un c]
            exact hG j (by omega)) he h1
        refine ⟨G', k1, vcc8_56_8 d _ _ _ _ _ _ _ _ ⟨fun q => by omega, fun _ => ⟨pI, fun q => ?_, fun _ => ⟨pI, fun q => ?_, fun _ => ?_⟩⟩⟩⟩
        · rw [xi, uA_ne n15, T1] at q
          exact absurd q (by decide)
        · rw [xi, uA_ne n15] at q
          exact absurd T1 q
        · rw [xi, xn, e1, en, uA_self, uA_uA, uA_ne n16, V2, uA_ne n21, ix_nI (j := a) (by omega)]
          exact ⟨pI, pI, pin_nI (by omega) (by omega), pn, k2⟩
    · rw [if_neg (show ¬ (o, a).1 < 2 from c2)] at hs
      by_cases c4 : o < 4
      · rw [if_pos (show (o, a).1 < 4 from c4)] at hs
        obtain ⟨⟨q1, q2⟩, q3⟩ := ite_some hs
        have q1 : 1 ≤ n := q1
        have em : nI n - 1 = nI (n - 1) := nI_sub (b := 1) q1
        have pn : pin (nI (n - 1)) 420 = true := pin_nI (by omega) (by omega)
        have xn : ix (nI (n - 1)) = n - 1 := ix_nI (by omega)
        have hm : m = n := (congrArg Prod.fst q3).symm
        subst hm
        have Gm : G (m - 1) = g (m - 1) := hG _ (by omega)
        by_cases c3 : o = 2
        · subst c3
          have q2 : 1 ≤ a := q2 rfl
          have hg : g1 = upd g (m - 1) (g (m - 1) / nI a) := by
            have := (congrArg Prod.snd q3).symm
            exact this.trans (by rw [if_pos rfl])
          subst hg
          rw [if_pos (show (2, a).1 = 2 from rfl)] at hT
          obtain ⟨T1, T2, T3, T4⟩ := hT
          have T1 : f 15 i = 0 := T1
          have T2 : f 16 i = nI a := T2
          have hle2 := tkR_le _ _ _ _ _ T4
          have xm : ix (nI m) = m := ix_nI (by omega)
          have pm : pin (nI m) 420 = true := pin_nI (by omega) (by omega)
          have pI1 : pin (nI (i + 1)) 1200 = true := pin_nI (by omega) (by omega)
          have xi1 : ix (nI (i + 1)) = i + 1 := ix_nI (by omega)
          have ii1 : I (nI (i + 1)) = ((i + 1 : Nat) : Int) := I_nI (by omega)
          have lt1 : I (nI (i + 1)) < I (400 * (0 : Int32) + nI to) := by rw [e400, ii1, it]; omega
          have e2 : nI (i + 1) + 1 = nI (i + 2) := nI_add (i + 1) 1
          have em1 : nI (m + 1) - 1 = nI m := nI_sub (a := m + 1) (b := 1) (by omega)
          obtain ⟨G', k1, k2⟩ := ih (i + 2) m _ (upd (upd G m (nI a)) (m - 1) (g (m - 1) / nI a)) n' g' T4 hn (fun j hj => by
            by_cases c : j = m - 1
            · subst c
              rw [pk_us, pk_us]
            · rw [pk_un c, pk_un c, pk_un (by omega)]
              exact hG j hj) he h1
          have hp := mPartX d (g (m - 1)) q2 (by omega) (z := z) (f := uA f 22 (upd G m (nI a)))
          refine ⟨G', k1, vcc8_56_8 d _ _ _ _ _ _ _ _ ⟨fun q => by omega, fun _ => ⟨pI, fun _ => ⟨pI, pI, pm, ?_⟩, fun q => ?_⟩⟩⟩
          · rw [xi, xm, e1, en, uA_self, uA_uA, uA_ne n16, T2]
            refine vcc8_56_8 d _ _ _ _ _ _ _ _ ⟨fun q => by omega, fun _ => ⟨pI1, fun q => ?_, fun _ => ⟨pI1, fun _ => ⟨pI1, fun _ => ?_, fun q => ?_⟩, fun q => ?_⟩⟩⟩
            · rw [xi1, uA_ne n15, T3] at q
              exact absurd q (by decide)
            · rw [xi1, uA_ne n15, T3, em1, em, xm, xn, uA_self, pk_us, pk_un (by omega), Gm]
              refine ⟨pI1, pn, pm, _, _, _, hp, pn, ?_⟩
              rw [uA_self, uA_uA, e2]
              exact k2
            · rw [xi1, uA_ne n15, T3] at q
              exact absurd q (by decide)
            · rw [xi1, uA_ne n15, T3] at q
              exact absurd q (by decide)
          · rw [xi, uA_ne n15] at q
            exact absurd T1 q
        · obtain rfl : o = 3 := by omega
          have hg : g1 = upd g (m - 1) (1 - g (m - 1)) := by
            have := (congrArg Prod.snd q3).symm
            exact this.trans (by rw [if_neg (fun q : (3, a).1 = 2 => absurd (show (3 : Nat) = 2 from q) (by decide))])
          subst hg
          rw [if_neg (fun q : (3, a).1 = 2 => absurd (show (3 : Nat) = 2 from q) (by decide))] at hT
          obtain ⟨T1, -, T3⟩ := hT
          have T1 : f 15 i = 9 := T1
          obtain ⟨G', k1, k2⟩ := ih (i + 1) m _ (upd G (m - 1) (1 - g (m - 1))) n' g' T3 hn (fun j hj => by
            by_cases c : j = m - 1
            · subst c
              rw [pk_us, pk_us]
            · rw [pk_un c, pk_un c]
              exact hG j hj) he h1
          refine ⟨G', k1, vcc8_56_8 d _ _ _ _ _ _ _ _ ⟨fun q => by omega, fun _ => ⟨pI, fun q => ?_, fun _ => ⟨pI, fun _ => ⟨pI, fun q => ?_, fun _ => ?_⟩, fun q => ?_⟩⟩⟩⟩
          · rw [xi, uA_ne n15, T1] at q
            exact absurd q (by decide)
          · rw [xi, uA_ne n15] at q
            exact absurd T1 q
          · rw [em, xn, uA_self, uA_uA, e1, Gm]
            exact ⟨pn, pn, k2⟩
          · rw [xi, uA_ne n15, T1] at q
            exact absurd q (by decide)
      · rw [if_neg (show ¬ (o, a).1 < 4 from c4)] at hs
        obtain ⟨⟨q1, q2⟩, q3⟩ := ite_some hs
        have q1 : 2 ≤ n := q1
        have q2 : 10 ≤ o → bit01 (g (n - 2)) ∧ bit01 (g (n - 1)) := q2
        have hm : m = n - 1 := (congrArg Prod.fst q3).symm
        subst hm
        have hg : g1 = upd g (n - 2) (jnO o (g (n - 2)) (g (n - 1))) := (congrArg Prod.snd q3).symm
        subst hg
        rw [if_neg (show ¬ (o, a).1 = 2 from fun q => by have q : o = 2 := q; omega)] at hT
        obtain ⟨T1, -, T3⟩ := hT
        have T1 : f 15 i = nI (rcn o) := T1
        obtain ⟨r0, r1, r9, r12⟩ := rcn_ne o t1 (by omega)
        have em : nI n - 1 = nI (n - 1) := nI_sub (b := 1) (by omega)
        have em2 : nI (n - 1) - 1 = nI (n - 2) := by rw [show nI (n - 1) - 1 = nI (n - 1 - 1) from nI_sub (b := 1) (by omega)]; congr 1
        have p1 : pin (nI (n - 1)) 420 = true := pin_nI (by omega) (by omega)
        have p2 : pin (nI (n - 2)) 420 = true := pin_nI (by omega) (by omega)
        have x1 : ix (nI (n - 1)) = n - 1 := ix_nI (by omega)
        have x2 : ix (nI (n - 2)) = n - 2 := ix_nI (by omega)
        have hj := mTwo d (g (n - 2)) (g (n - 1)) (o := o) (by omega) t1 q2 (z := z) (f := uA f 22 G)
        obtain ⟨G', k1, k2⟩ := ih (i + 1) (n - 1) _ (upd G (n - 2) (jnO o (g (n - 2)) (g (n - 1)))) n' g' T3 (by omega) (fun j hj => by
          by_cases c : j = n - 2
          · subst c
            rw [pk_us, pk_us]
          · rw [pk_un c, pk_un c]
            exact hG j (by omega)) he h1
        refine ⟨G', k1, vcc8_56_8 d _ _ _ _ _ _ _ _ ⟨fun q => by omega, fun _ => ⟨pI, fun q => ?_, fun _ => ⟨pI, fun _ => ⟨pI, fun _ => ?_, fun q => ?_⟩, fun q => ?_⟩⟩⟩⟩
        · rw [xi, uA_ne n15, T1] at q
          exact absurd q (ne (q := 0) r12 (by omega) r0)
        · rw [xi, uA_ne n15, T1, em, em2, x1, x2, uA_self, hG (n - 2) (by omega), hG (n - 1) (by omega)]
          refine ⟨pI, p2, p1, _, _, _, hj, p2, ?_⟩
          rw [uA_self, uA_uA, e1]
          exact k2
        · rw [xi, uA_ne n15, T1] at q
          exact absurd q (ne (q := 9) r12 (by omega) r9)
        · rw [xi, uA_ne n15, T1] at q
          exact absurd q (ne (q := 1) r12 (by omega) r1)
theorem mRun_c (d : Nat) {z : Nat → Int32} {f : Nat → FA} {P : List TK} {i j : Nat} (h4 : j ≤ 400) (hT : tkR P (f 15) (f 16) i j) (hP : okP P) : ∃ G, mcall (d + 2) 56 [vR 0, vI 0, vI (nI i), vI (nI j)] (LR z f) = some (some (vI (evV (f 21) P)), LR z (uA f 22 G)) := by
  obtain ⟨g', k1, k2⟩ := evV_run hP (f 21) (f 22)
  obtain ⟨G, k3, k4⟩ := mRun d (some (vI (nI i))) (z := z) (f := f) h4 P i 0 (f 22) (f 22) 1 g' hT (by omega) (fun j hj => rfl) k1 rfl
  rw [uA_id rfl, k2] at k4
  refine ⟨G, mcall_i (mq56 (cu := [])).2.2 rfl (vc56_0 d 0 (nI i) (nI j) none none z f _ ?_)⟩
  rw [show 400 * (0 : Int32) + nI i = nI i from by
    rw [show 400 * (0 : Int32) = 0 from by decide]
    exact Int32.zero_add _]
  exact k4
/-- the reference's law in force -/
def LRM (f : Nat → FA) (L : LAW) (n : Nat) : Prop := n ≤ 16 ∧ f 10 0 = nI n ∧ ∀ i, i < n → ∃ a b c, (L i).1 < 3 ∧ f 11 i = nI (L i).1 ∧ f 12 i = nI a ∧ f 13 i = nI b ∧ f 14 i = nI c ∧ c ≤ 400 ∧ tkR (L i).2.1 (f 15) (f 16) a b ∧ tkR (L i).2.2 (f 15) (f 16) b c
theorem mTells {f : Nat → FA} {L : LAW} {n : Nat} (hM : LRM f L n) (hL : LOK L n) (d : Nat) {w : Nat} (hw : w < 3) (ow x : Int32) (hx : 0 < I x) {z : Nat → Int32} : ∃ g, mcall (d + 4) 54 [vR 0, vI (nI w), vI ow, vI x] (LR z f) = some (some (vI (hld ((lawG L (f 21) w n 0).getD ow) x)), LR z (uA f 22 g)) := by
  obtain ⟨h16, h10, hl⟩ := hM
  have x0 : ix 0 = 0 := by decide
  have ne : ∀ k, k ≠ 22 → ∀ G, uA f 22 G k = f k := fun k hk G => uA_ne hk
  have i10 : ∀ G, I (uA f 22 G 10 (ix 0)) = n := fun G => by rw [ne 10 (by decide), x0, h10]; exact I_nI (by omega)
  have lp : ∀ t i, i + t = n → ∀ G, ∃ g, (lawG L (f 21) w t i = none ∧ RC (mcall (d + 2)) (mP 55) 2 [some (vR 0), some (vI (nI w)), some (vI (nI i))] [] (LR z (uA f 22 G)) (some (vI (-1)), LR z (uA f 22 g))) ∨ (∃ l, l < n ∧ lawG L (f 21) w t i = some (evV (f 21) (L l).2.1) ∧ RC (mcall (d + 2)) (mP 55) 2 [some (vR 0), some (vI (nI w)), some (vI (nI i))] [] (LR z (uA f 22 G)) (some (vI (nI l)), LR z (uA f 22 g))) := by
    intro t
    induction t with
    | zero =>
      intro i hi G
      obtain rfl : i = n := by omega
      refine ⟨G, Or.inl ⟨rfl, vcc2_55_2 d _ _ _ _ _ ⟨by decide, fun _ => rfl, fun q => ?_⟩⟩⟩
      rw [i10, I_nI (n := i) (by omega)] at q
      omega
    | succ t ih =>
      intro i hi G
      obtain ⟨a, b, c, a0, a1, a2, a3, a4, a5, a6, a7⟩ := hl i (by omega)
      obtain ⟨p1, p2⟩ := hL i (by omega)
      have l1 := tkR_le _ _ _ _ _ a6
      have l2 := tkR_le _ _ _ _ _ a7
      have ni : ¬ I (uA f 22 G 10 (ix 0)) ≤ I (nI i) := by rw [i10, I_nI (n := i) (by omega)]; omega
      have pI : pin (nI i) 48 = true := pin_nI (by omega) (by omega)
      have xi : ix (nI i) = i := ix_nI (by omega)
      have e1 : nI i + 1 = nI (i + 1) := nI_add i 1
      by_cases cw : (L i).1 = w
      · have h11 : uA f 22 G 11 (ix (nI i)) = nI w := by rw [ne 11 (by decide), xi, a1, cw]
        by_cases cq : (L i).2.2 = []
        · have hbc : b = c := by
            rw [cq] at a7
            exact a7
          refine ⟨G, Or.inr ⟨i, by omega, if_pos ⟨cw, Or.inl cq⟩, vcc2_55_2 d _ _ _ _ _ ⟨by decide, fun q => absurd q ni, fun _ => ⟨pI, fun q => absurd h11 q, fun _ => ⟨pI, pI, fun _ => rfl, fun q => ?_⟩⟩⟩⟩⟩
          refine absurd ?_ q
          rw [ne 13 (by decide), ne 14 (by decide), xi, a3, a4, hbc]
        · have p2' : okP (L i).2.2 := by
            rcases p2 with p2 | p2
            · exact absurd p2 cq
            · exact p2
          have lq : 1 ≤ (L i).2.2.length := by
            cases hQ : (L i).2.2 with
            | nil => exact absurd hQ cq
            | cons x y => exact Nat.succ_le_succ (Nat.zero_le _)
          obtain ⟨gq, kq⟩ := mRun_c d (z := z) (f := uA f 22 G) (P := (L i).2.2) (i := b) (j := c) a5 (by rw [ne 15 (by decide), ne 16 (by decide)]; exact a7) p2'
          rw [uA_uA, ne 21 (by decide)] at kq
          have nbc : ¬ uA f 22 G 13 (ix (nI i)) = uA f 22 G 14 (ix (nI i)) := by
            rw [ne 13 (by decide), ne 14 (by decide), xi, a3, a4]
            intro q
            have := nI_inj (by omega) (by omega) q
            omega
          have kq' : mcall (d + 2) 56 [vR 0, vI 0, vI (uA f 22 G 13 (ix (nI i))), vI (uA f 22 G 14 (ix (nI i)))] (LR z (uA f 22 G)) = some (some (vI (evV (f 21) (L i).2.2)), LR z (uA f 22 gq)) := by
            rw [ne 13 (by decide), ne 14 (by decide), xi, a3, a4]
            exact kq
          by_cases cz : evV (f 21) (L i).2.2 = 0
          · have hlw : lawG L (f 21) w (t + 1) i = lawG L (f 21) w t (i + 1) := if_neg (fun q => q.2.elim cq (fun c => c cz))
            rw [hlw]
            obtain ⟨g, hg⟩ := ih (i + 1) (by omega) gq
            rw [← e1] at hg
            refine ⟨g, hg.imp (fun k => ⟨k.1, vcc2_55_2 d _ _ _ _ _ ⟨by decide, fun q => absurd q ni, fun _ => ⟨pI, fun q => absurd h11 q, fun _ => ⟨pI, pI, fun q => absurd q nbc, fun _ => ⟨pI, pI, _, _, _, kq', fun _ => k.2, fun q => absurd cz q⟩⟩⟩⟩⟩) (fun ⟨l, k0, k1, k2⟩ => ⟨l, k0, k1, vcc2_55_2 d _ _ _ _ _ ⟨by decide, fun q => absurd q ni, fun _ => ⟨pI, fun q => absurd h11 q, fun _ => ⟨pI, pI, fun q => absurd q nbc, fun _ => ⟨pI, pI, _, _, _, kq', fun _ => k2, fun q => absurd cz q⟩⟩⟩⟩⟩)⟩
          · exact ⟨gq, Or.inr ⟨i, by omega, if_pos ⟨cw, Or.inr cz⟩, vcc2_55_2 d _ _ _ _ _ ⟨by decide, fun q => absurd q ni, fun _ => ⟨pI, fun q => absurd h11 q, fun _ => ⟨pI, pI, fun q => absurd q nbc, fun _ => ⟨pI, pI, _, _, _, kq', fun q => absurd q cz, fun _ => rfl⟩⟩⟩⟩⟩⟩
      · have hlw : lawG L (f 21) w (t + 1) i = lawG L (f 21) w t (i + 1) := if_neg (fun q => cw q.1)
        rw [hlw]
        obtain ⟨g, hg⟩ := ih (i + 1) (by omega) G
        rw [← e1] at hg
        have h11 : ¬ uA f 22 G 11 (ix (nI i)) = nI w := by
          rw [ne 11 (by decide), xi, a1]
          exact fun q => cw (nI_inj (by omega) (by omega) q)
        exact ⟨g, hg.imp (fun k => ⟨k.1, vcc2_55_2 d _ _ _ _ _ ⟨by decide, fun q => absurd q ni, fun _ => ⟨pI, fun _ => k.2, fun q => absurd q h11⟩⟩⟩) (fun ⟨l, k0, k1, k2⟩ => ⟨l, k0, k1, vcc2_55_2 d _ _ _ _ _ ⟨by decide, fun q => absurd q ni, fun _ => ⟨pI, fun _ => k2, fun q => absurd q h11⟩⟩⟩)⟩
  obtain ⟨g, hg⟩ := lp n 0 (by omega) (f 22)
  rw [uA_id rfl] at hg
  rcases hg with ⟨k1, k2⟩ | ⟨l, k0, k1, k2⟩
  · rw [k1]
    have h55 : mcall (d + 3) 55 [vR 0, vI (nI w)] (LR z f) = some (some (vI (-1)), LR z (uA f 22 g)) := mcall_i (mq55 (cu := [])).2.2 rfl (vc55_0 d (nI w) none z f _ k2)
    exact ⟨g, mcall_i (mq54 (cu := [])).2.2 rfl (vc54_0 d (nI w) ow x none z f _ ⟨_, _, _, h55, fun q => absurd rfl q, fun _ => ⟨_, _, _, hld_r (d + 2) ow x hx, rfl⟩⟩)⟩
  · rw [k1]
    have h55 : mcall (d + 3) 55 [vR 0, vI (nI w)] (LR z f) = some (some (vI (nI l)), LR z (uA f 22 g)) := mcall_i (mq55 (cu := [])).2.2 rfl (vc55_0 d (nI w) none z f _ k2)
    obtain ⟨a, b, c, a0, a1, a2, a3, a4, a5, a6, a7⟩ := hl l k0
    have l2 := tkR_le _ _ _ _ _ a7
    obtain ⟨gp, kp⟩ := mRun_c (d + 1) (z := z) (f := uA f 22 g) (P := (L l).2.1) (i := a) (j := b) (by omega) (by rw [ne 15 (by decide), ne 16 (by decide)]; exact a6) (hL l k0).1
    rw [uA_uA, ne 21 (by decide)] at kp
    have pI : pin (nI l) 48 = true := pin_nI (by omega) (by omega)
    have xi : ix (nI l) = l := ix_nI (by omega)
    refine ⟨gp, mcall_i (mq54 (cu := [])).2.2 rfl (vc54_0 d (nI w) ow x none z f _ ⟨_, _, _, h55, fun _ => ⟨pI, pI, _, _, _, (by rw [ne 12 (by decide), ne 13 (by decide), xi, a2, a3]; exact kp), _, _, _, hld_r (d + 2) _ x hx, rfl⟩, fun q => absurd q (nI_m1 (by omega))⟩)⟩
