/-! what abstract states stand for -/
def R2 {α β : Type} (r : α → β → Prop) (l : List α) (m : List β) : Prop := match l, m with
  | [], [] => True
  | a :: t, b :: u => r a b ∧ R2 r t u
  | _, _ => False
section R2s
variable {α β : Type} {r r' : α → β → Prop}
theorem R2.get : ∀ {l : List α} {m : List β} {j : Nat} {a : α}, R2 r l m → nth l j = some a → ∃ b, m[j]? = some b ∧ r a b := by
  intro l
  induction l with
  | nil => intro m j a h hn; cases hn
  | cons x t ih =>
    intro m j a h hn
    cases m with
    | nil => cases h
    | cons y u =>
      cases j with
      | zero => cases hn; exact ⟨y, rfl, h.1⟩
      | succ j =>
        obtain ⟨b, h1, h2⟩ := ih h.2 (show nth t j = some a from hn)
        exact ⟨b, by rw [List.getElem?_cons_succ]; exact h1, h2⟩
theorem R2.set {a : α} {b : β} (hab : r a b) : ∀ {l : List α} {m : List β} {j : Nat}, R2 r l m → R2 r (stl l a j) (m.set j b) := by
  intro l
  induction l with
  | nil => intro m j h; cases m with
    | nil => exact trivial
    | cons y u => cases h
  | cons x t ih =>
    intro m j h
    cases m with
    | nil => cases h
    | cons y u =>
      cases j with
      | zero => exact ⟨hab, h.2⟩
      | succ j => exact ⟨h.1, ih h.2⟩
theorem R2.put {a : α} {b : β} (hab : r a b) : ∀ {l : List α} {m : List β} {j : Nat}, R2 r l m → m[j]? = some b → R2 r (stl l a j) m := by
  intro l
  induction l with
  | nil => intro m j h hb; cases m with
    | nil => exact trivial
    | cons y u => cases h
  | cons x t ih =>
    intro m j h hb
    cases m with
    | nil => cases h
    | cons y u =>
      cases j with
      | zero => cases hb; exact ⟨hab, h.2⟩
      | succ j => rw [List.getElem?_cons_succ] at hb; exact ⟨h.1, ih h.2 hb⟩
theorem R2.mono (hr : ∀ a b, r a b → r' a b) : ∀ {l : List α} {m : List β}, R2 r l m → R2 r' l m := by
  intro l
  induction l with
  | nil => intro m h; cases m with
    | nil => exact trivial
    | cons y u => cases h
  | cons x t ih =>
    intro m h
    cases m with
    | nil => cases h
    | cons y u => exact ⟨hr _ _ h.1, ih h.2⟩
theorem R2.len : ∀ {l : List α} {m : List β}, R2 r l m → l.length = m.length := by
  intro l
  induction l with
  | nil => intro m h; cases m with
    | nil => rfl
    | cons y u => cases h
  | cons x t ih =>
    intro m h
    cases m with
    | nil => cases h
    | cons y u => simp [ih h.2]
theorem R2.app : ∀ {l l' : List α} {m m' : List β}, R2 r l m → R2 r l' m' → R2 r (l ++ l') (m ++ m') := by
  intro l
  induction l with
  | nil => intro l' m m' h h'; cases m with
    | nil => exact h'
    | cons y u => cases h
  | cons x t ih =>
    intro l' m m' h h'
    cases m with
    | nil => cases h
    | cons y u => exact ⟨h.1, ih h.2 h'⟩
theorem R2.rev : ∀ {l : List α} {m : List β}, R2 r l m → R2 r l.reverse m.reverse := by
  intro l
  induction l with
  | nil => intro m h; cases m with
    | nil => exact trivial
    | cons y u => cases h
  | cons x t ih =>
    intro m h
    cases m with
    | nil => cases h
    | cons y u =>
      rw [List.reverse_cons, List.reverse_cons]
      exact R2.app (ih h.2) ⟨h.1, trivial⟩
theorem R2.take : ∀ {l : List α} {m : List β} {k : Nat}, R2 r l m → R2 r (l.take k) (m.take k) := by
  intro l
  induction l with
  | nil => intro m k h; cases m with
    | nil => cases k <;> exact trivial
    | cons y u => cases h
  | cons x t ih =>
    intro m k h
    cases m with
    | nil => cases h
    | cons y u =>
      cases k with
      | zero => exact trivial
      | succ k => exact ⟨h.1, ih h.2⟩
theorem R2.drop : ∀ {l : List α} {m : List β} {k : Nat}, R2 r l m → R2 r (l.drop k) (m.drop k) := by
  intro l
  induction l with
  | nil => intro m k h; cases m with
    | nil => cases k <;> exact trivial
    | cons y u => cases h
  | cons x t ih =>
    intro m k h
    cases m with
    | nil => cases h
    | cons y u =>
      cases k with
      | zero => exact h
      | succ k => exact ih h.2
end R2s
def vRel (lam : Nat → Nat) (ρ : List Int32) (v : AV) (x : PV) : Prop := match v with
  | .inl c => ∃ z, val ρ c = some z ∧ x = vI z
  | .inr (.inl o) => x = .inr (.inl (o.map lam))
  | .inr (.inr (.inl j)) => x = vS j
  | .inr (.inr (.inr b)) => ∃ z, x = vI z ∧ inb b.1 b.2 z
def oRel (lam : Nat → Nat) (ρ : List Int32) (o : Option AV) (x : Option PV) : Prop := match o with
  | none => True
  | some v => ∃ y, x = some y ∧ vRel lam ρ v y
theorem vRel.up {lam : Nat → Nat} {ρ : List Int32} {v : AV} {x : PV} (τ : List Int32) (h : vRel lam ρ v x) : vRel lam (τ ++ ρ) v x := by
  match v with
  | .inl c => obtain ⟨z, h1, h2⟩ := h; exact ⟨z, val_app τ h1, h2⟩
  | .inr (.inl o) => exact h
  | .inr (.inr (.inl j)) => exact h
  | .inr (.inr (.inr b)) => exact h
theorem oRel.up {lam : Nat → Nat} {ρ : List Int32} {v : Option AV} {x : Option PV} (τ : List Int32) (h : oRel lam ρ v x) : oRel lam (τ ++ ρ) v x := by
  match v with
  | none => exact trivial
  | some v => obtain ⟨y, h1, h2⟩ := h; exact ⟨y, h1, h2.up τ⟩
def LK (f : Nat → Int32) : Prop := ∀ c, c < 144 → f (67 + c) = 0 → f (211 + c) = 0
def LKx (z : Nat) (f : Nat → Int32) : Prop := ∀ c, c < 144 → 67 + c ≠ z → f (67 + c) = 0 → f (211 + c) = 0
/-- 1: no mark, no way; 2: so in six rows; from 2^34 on: so but for one place, whose index has that code -/
def PRD (ρ : List Int32) (p : Nat) (f : Nat → Int32) : Prop := if p = 1 then LK f else if p = 2 then ∀ j, j < 6 → LK (fun i => f (499 * j + i)) else if 17179869184 ≤ p then ∃ z, val ρ (p - 17179869184) = some z ∧ LKx (ix z) f else True
theorem PRD_0 {ρ : List Int32} {f : Nat → Int32} : PRD ρ 0 f := by
  unfold PRD; rw [if_neg (by decide), if_neg (by decide), if_neg (by decide)]; trivial
theorem PRD.up {ρ : List Int32} {p : Nat} {f : Nat → Int32} (τ : List Int32) (h : PRD ρ p f) : PRD (τ ++ ρ) p f := by
  unfold PRD at h ⊢
  split at h
  · rw [if_pos (by assumption)]; exact h
  · rw [if_neg (by assumption)]
    split at h
    · rw [if_pos (by assumption)]; exact h
    · rw [if_neg (by assumption)]
      split at h
      · rw [if_pos (by assumption)]
        obtain ⟨z, h1, h2⟩ := h
        exact ⟨z, val_app τ h1, h2⟩
      · rw [if_neg (by assumption)]; trivial
theorem PRD.dn {ρ ρ' : List Int32} {p : Nat} {f : Nat → Int32} (hp : p < 17179869184) (h : PRD ρ p f) : PRD ρ' p f := by
  unfold PRD at h ⊢
  rw [if_neg (show ¬ 17179869184 ≤ p by omega)] at h ⊢
  exact h
theorem ky0 : ky 0 = 2147483648 := by decide
/-- const and symbol of a sum -/
noncomputable def dfa (n : Nat) (env : List SE) (c : Nat) : Option (Nat × Nat) := bif Nat.blt c 4294967296 then none else match nth env (n - 1 - (c - 4294967296)) with
  | some (_, _, op, a, b) => bif Nat.beq op 0 then (bif Nat.blt a 4294967296 then some (a, b) else bif Nat.blt b 4294967296 then some (b, a) else none) else none
  | none => none
theorem dfa_ok {n : Nat} {env : List SE} {ρ : List Int32} {c k x : Nat} {z : Int32} (hn : n = env.length) (hE : EnvOK env ρ) (hz : val ρ c = some z) (h : dfa n env c = some (k, x)) : k < 4294967296 ∧ ∃ y, val ρ x = some y ∧ z = kv k + y := by
  unfold dfa at h
  cases hc : Nat.blt c 4294967296 with
  | true => rw [hc] at h; cases h
  | false =>
    have hc' := blt_f.mp hc
    rw [hc, cond_false] at h
    split at h
    · rename_i lo hi op a b he
      obtain ⟨z', r, τ, h1, h2, h3⟩ := hE.at he
      have hzx : z = z' := val_at hc' h1 (by rw [h2, hn, hE.len]) hz
      subst hzx
      have h33 : op ≤ 8 → ∃ y w, val r a = some y ∧ val r b = some w ∧ z = pbin op y w := h3.2
      have hup : ∀ {q : Nat} {y : Int32}, val r q = some y → val ρ q = some y := by
        intro q y hq
        rw [h1, show τ ++ z :: r = (τ ++ [z]) ++ r by simp]
        exact val_app _ hq
      obtain ⟨ho, h4⟩ := bif_some h
      have ho' := Nat.eq_of_beq_eq_true ho
      subst ho'
      obtain ⟨y, w, q1, q2, q3⟩ := h33 (by decide)
      have q3 : z = y + w := q3
      cases ha : Nat.blt a 4294967296 with
      | true =>
        rw [ha, cond_true] at h4
        have h4 := Option.some.inj h4
        injection h4 with e1 e2
        subst e1; subst e2
        rw [val_c (blt_t.mp ha)] at q1
        exact ⟨blt_t.mp ha, w, hup q2, by rw [q3, Option.some.inj q1]⟩
      | false =>
        rw [ha, cond_false] at h4
        obtain ⟨hb, h5⟩ := bif_some h4
        have h5 := Option.some.inj h5
        injection h5 with e1 e2
        subst e1; subst e2
        rw [val_c (blt_t.mp hb)] at q2
        exact ⟨blt_t.mp hb, y, hup q1, by rw [q3, Option.some.inj q2, Int32.add_comm]⟩
    · cases h
/-- i1 is 67 and x, i2 is 211 and x -/
noncomputable def par (n : Nat) (env : List SE) (i1 i2 : Nat) : Bool := bif (Nat.blt i1 4294967296 && Nat.blt i2 4294967296) then (Nat.beq i2 (i1 + 144) && (Nat.ble 2147483648 i1 && Nat.blt i2 4294967296)) else match dfa n env i1 with
  | some (k1, x1) => (match dfa n env i2 with
    | some (k2, x2) => Nat.beq k1 2147483715 && (Nat.beq k2 2147483859 && (Nat.beq x1 x2 && (Nat.ble 2147483648 (bnd n env x1).1 && Nat.ble (bnd n env x1).2 2147483791)))
    | none => false)
  | none => false
theorem par_ok {n : Nat} {env : List SE} {ρ : List Int32} {i1 i2 : Nat} {z1 z2 : Int32} (hn : n = env.length) (hE : EnvOK env ρ) (h1 : val ρ i1 = some z1) (h2 : val ρ i2 = some z2) (h : par n env i1 i2 = true) : ix z2 = ix z1 + 144 := by
  unfold par at h
  cases hc : (Nat.blt i1 4294967296 && Nat.blt i2 4294967296) with
  | true =>
    rw [hc, cond_true, Bool.and_eq_true, Bool.and_eq_true, Nat.beq_eq, Nat.ble_eq, blt_t] at h
    rw [Bool.and_eq_true, blt_t, blt_t] at hc
    rw [val_c hc.1] at h1
    rw [val_c hc.2] at h2
    have k1 := ky_kv hc.1
    have k2 := ky_kv hc.2
    rw [Option.some.inj h1] at k1
    rw [Option.some.inj h2] at k2
    have p1 := ky_pos (x := z1) (by omega)
    have p2 := ky_pos (x := z2) (by omega)
    omega
  | false =>
    rw [hc, cond_false] at h
    split at h
    · rename_i k1 x1 e1
      split at h
      · rename_i k2 x2 e2
        rw [Bool.and_eq_true, Bool.and_eq_true, Bool.and_eq_true, Bool.and_eq_true, Nat.beq_eq, Nat.beq_eq, Nat.beq_eq, Nat.ble_eq, Nat.ble_eq] at h
        obtain ⟨rfl, rfl, rfl, b1, b2⟩ := h
        obtain ⟨-, y1, v1, q1⟩ := dfa_ok hn hE h1 e1
        obtain ⟨-, y2, v2, q2⟩ := dfa_ok hn hE h2 e2
        rw [v1] at v2
        have v2 := Option.some.inj v2
        subst v2
        obtain ⟨c1, c2⟩ := bnd_ok hn hE v1
        have k1 : ky (kv 2147483715) = 2147483715 := ky_kv (by decide)
        have k2 : ky (kv 2147483859) = 2147483859 := ky_kv (by decide)
        have s1 := ky_add (x := kv 2147483715) (y := y1) (by rw [k1]; omega) (by rw [k1]; omega)
        have s2 := ky_add (x := kv 2147483859) (y := y1) (by rw [k2]; omega) (by rw [k2]; omega)
        rw [← q1, k1] at s1
        rw [← q2, k2] at s2
        have p1 := ky_pos (x := z1) (by omega)
        have p2 := ky_pos (x := z2) (by omega)
        omega
      · cases h
    · cases h
noncomputable def memR (n : Nat) (env : List SE) (x i : Nat) (mm : List (Nat × Nat × Nat)) : Bool := List.rec (motive := fun _ => Bool) false (fun m _ ih => bif (Nat.beq m.1 x && (Nat.blt 2147483648 (bnd n env m.2.2).1 && par n env m.2.1 i)) then true else ih) mm
theorem memR_ok {n : Nat} {env : List SE} {x i : Nat} : ∀ {mm : List (Nat × Nat × Nat)}, memR n env x i mm = true → ∃ i1 u, (x, i1, u) ∈ mm ∧ 2147483648 < (bnd n env u).1 ∧ par n env i1 i = true := by
  intro mm
  induction mm with
  | nil => intro h; cases h
  | cons m t ih =>
    intro h
    have h : (bif (Nat.beq m.1 x && (Nat.blt 2147483648 (bnd n env m.2.2).1 && par n env m.2.1 i)) then true else memR n env x i t) = true := h
    cases hc : (Nat.beq m.1 x && (Nat.blt 2147483648 (bnd n env m.2.2).1 && par n env m.2.1 i)) with
    | true =>
      rw [Bool.and_eq_true, Bool.and_eq_true, Nat.beq_eq, blt_t] at hc
      obtain ⟨a, b, c⟩ := m
      obtain ⟨rfl, h1, h2⟩ := hc
      exact ⟨b, c, List.mem_cons_self, h1, h2⟩
    | false =>
      rw [hc] at h
      obtain ⟨i1, u, h1, h2⟩ := ih h
      exact ⟨i1, u, List.mem_cons_of_mem _ h1, h2⟩
noncomputable def memS (n : Nat) (env : List SE) (x i : Nat) (mm : List (Nat × Nat × Nat)) : Bool := List.rec (motive := fun _ => Bool) false (fun m _ ih => bif (Nat.beq m.1 x && ((Nat.blt 2147483648 (bnd n env m.2.2).1 || Nat.blt (bnd n env m.2.2).2 2147483648) && par n env i m.2.1)) then true else ih) mm
theorem memS_ok {n : Nat} {env : List SE} {x i : Nat} : ∀ {mm : List (Nat × Nat × Nat)}, memS n env x i mm = true → ∃ i2 u, (x, i2, u) ∈ mm ∧ (2147483648 < (bnd n env u).1 ∨ (bnd n env u).2 < 2147483648) ∧ par n env i i2 = true := by
  intro mm
  induction mm with
  | nil => intro h; cases h
  | cons m t ih =>
    intro h
    have h : (bif (Nat.beq m.1 x && ((Nat.blt 2147483648 (bnd n env m.2.2).1 || Nat.blt (bnd n env m.2.2).2 2147483648) && par n env i m.2.1)) then true else memS n env x i t) = true := h
    cases hc : (Nat.beq m.1 x && ((Nat.blt 2147483648 (bnd n env m.2.2).1 || Nat.blt (bnd n env m.2.2).2 2147483648) && par n env i m.2.1)) with
    | true =>
      rw [Bool.and_eq_true, Bool.and_eq_true, Bool.or_eq_true, Nat.beq_eq, blt_t, blt_t] at hc
      obtain ⟨a, b, c⟩ := m
      obtain ⟨rfl, h1, h2⟩ := hc
      exact ⟨b, c, List.mem_cons_self, h1, h2⟩
    | false =>
      rw [hc] at h
      obtain ⟨i1, u, h1, h2⟩ := ih h
      exact ⟨i1, u, List.mem_cons_of_mem _ h1, h2⟩
/-- a way tells of a mark -/
noncomputable def lkl (p x i lo il ih n : Nat) (env : List SE) (mm : List (Nat × Nat × Nat)) : Nat := bif (Nat.beq p 1 && (Nat.beq lo 2147483648 && (Nat.ble 67 il && (Nat.ble ih 210 && memS n env x i mm)))) then 2147483649 else lo
theorem lkl_ok {lam : Nat → Nat} {ρ : List Int32} {p x i lo hi il ih n N : Nat} {env : List SE} {mm : List (Nat × Nat × Nat)} {f : Nat → Int32} {h : PH} {z : Int32} (hn : n = env.length) (hE : EnvOK env ρ) (hM : ∀ k i v, (k, i, v) ∈ mm → ∃ N f a b, h[lam k]? = some (eI N f) ∧ val ρ i = some a ∧ val ρ v = some b ∧ f (ix a) = b) (hx : h[lam x]? = some (eI N f)) (hp : PRD ρ p f) (hz : val ρ i = some z) (h1 : il ≤ ix z) (h2 : ix z ≤ ih) (hb : inb lo hi (f (ix z))) : inb (lkl p x i lo il ih n env mm) hi (f (ix z)) := by
  unfold lkl
  cases hc : (Nat.beq p 1 && (Nat.beq lo 2147483648 && (Nat.ble 67 il && (Nat.ble ih 210 && memS n env x i mm)))) with
  | false => exact hb
  | true =>
    rw [Bool.and_eq_true, Bool.and_eq_true, Bool.and_eq_true, Bool.and_eq_true, Nat.beq_eq, Nat.beq_eq, Nat.ble_eq, Nat.ble_eq] at hc
    obtain ⟨rfl, rfl, c1, c2, c3⟩ := hc
    obtain ⟨i2, u, m1, m2, m3⟩ := memS_ok c3
    obtain ⟨N', f', a', b', k1, k2, k3, k4⟩ := hM x i2 u m1
    rw [hx] at k1
    have k1 := Option.some.inj k1
    injection k1 with k1
    injection k1 with k1
    injection k1 with k0 k1
    injection k1 with k1 k1'
    subst k1'
    have e := par_ok hn hE hz k2 m3
    have hu := bnd_ok hn hE k3
    unfold PRD at hp
    rw [if_pos rfl] at hp
    rw [cond_true]
    refine ⟨?_, hb.2⟩
    have hb1 := hb.1
    by_cases hq : ky (f (ix z)) = 2147483648
    · have h0 : f (ix z) = 0 := ky_inj (hq.trans ky0.symm)
      have h3 := hp (ix z - 67) (by omega) (by rw [show 67 + (ix z - 67) = ix z by omega]; exact h0)
      rw [show 211 + (ix z - 67) = ix a' by omega, k4] at h3
      rw [h3] at hu
      have h4 := hu.1
      have h5 := hu.2
      rw [ky0] at h4 h5
      omega
    · omega
def pkp (i j vl vh : Nat) : Bool := Nat.blt j 67 || (Nat.blt 354 i || ((Nat.ble 67 i && (Nat.ble j 210 && Nat.blt 2147483648 vl)) || (Nat.ble 211 i && (Nat.ble j 354 && (Nat.beq vl 2147483648 && Nat.beq vh 2147483648)))))
/-- what holds behind a write in the places il .. ih (code i) of numbers vl .. vh -/
noncomputable def npd (p x i il ih vl vh n : Nat) (env : List SE) (mm : List (Nat × Nat × Nat)) : Nat := bif Nat.beq p 0 then 0 else bif Nat.beq p 1 then (bif pkp il ih vl vh then 1 else bif (Nat.ble 67 il && Nat.ble ih 210) then 17179869184 + i else bif (Nat.ble 211 il && (Nat.ble ih 354 && memR n env x i mm)) then 1 else 0) else bif Nat.ble 17179869184 p then (bif (Nat.blt ih 67 || Nat.blt 354 il) then p else bif (Nat.beq vl 2147483648 && (Nat.beq vh 2147483648 && (Nat.ble 211 il && (Nat.ble ih 354 && par n env (p - 17179869184) i)))) then 1 else 0) else 0
theorem npd_ok {lam : Nat → Nat} {ρ : List Int32} {p x i il ih vl vh n N : Nat} {env : List SE} {mm : List (Nat × Nat × Nat)} {f : Nat → Int32} {h : PH} {z u : Int32} (hn : n = env.length) (hE : EnvOK env ρ) (hM : ∀ k i v, (k, i, v) ∈ mm → ∃ N f a b, h[lam k]? = some (eI N f) ∧ val ρ i = some a ∧ val ρ v = some b ∧ f (ix a) = b) (hx : h[lam x]? = some (eI N f)) (hp : PRD ρ p f) (hz : val ρ i = some z) (h1 : il ≤ ix z) (h2 : ix z ≤ ih) (hu : inb vl vh u) : PRD ρ (npd p x i il ih vl vh n env mm) (upd f (ix z) u) := by
  have P1 : ∀ {g : Nat → Int32}, LK g → PRD ρ 1 g := fun q => by unfold PRD; rw [if_pos rfl]; exact q
  unfold npd
  cases c0 : Nat.beq p 0 with
  | true => exact PRD_0
  | false =>
    rw [cond_false]
    cases c1 : Nat.beq p 1 with
    | true =>
      have e1 := Nat.eq_of_beq_eq_true c1
      subst e1
      have hp : LK f := by unfold PRD at hp; rw [if_pos rfl] at hp; exact hp
      rw [cond_true]
      cases c2 : pkp il ih vl vh with
      | true =>
        rw [cond_true]
        apply P1
        intro c hc h0
        simp only [pkp, Bool.or_eq_true, Bool.and_eq_true, blt_t, Nat.ble_eq, Nat.beq_eq] at c2
        by_cases e1 : 67 + c = ix z
        · rw [e1, pk_us] at h0
          subst h0
          have := hu.1; have := hu.2
          rw [ky0] at *
          rcases c2 with q | q | q | q <;> omega
        · rw [pk_un e1] at h0
          by_cases e2 : 211 + c = ix z
          · rw [e2, pk_us]
            rcases c2 with q | q | q | q
            · omega
            · omega
            · omega
            · apply ky_inj
              have := hu.1; have := hu.2
              rw [ky0]; omega
          · rw [pk_un e2]; exact hp c hc h0
      | false =>
        rw [cond_false]
        cases c3 : (Nat.ble 67 il && Nat.ble ih 210) with
        | true =>
          rw [Bool.and_eq_true, Nat.ble_eq, Nat.ble_eq] at c3
          rw [cond_true]
          unfold PRD
          rw [if_neg (by omega), if_neg (by omega), if_pos (by omega), show 17179869184 + i - 17179869184 = i by omega]
          refine ⟨z, hz, fun c hc hne h0 => ?_⟩
          rw [pk_un hne] at h0
          rw [pk_un (by omega)]
          exact hp c hc h0
        | false =>
          rw [cond_false]
          cases c4 : (Nat.ble 211 il && (Nat.ble ih 354 && memR n env x i mm)) with
          | false => exact PRD_0
          | true =>
            rw [Bool.and_eq_true, Bool.and_eq_true, Nat.ble_eq, Nat.ble_eq] at c4
            obtain ⟨d1, d2, d3⟩ := c4
            obtain ⟨i1, v1, m1, m2, m3⟩ := memR_ok d3
            obtain ⟨N', f', a', b', q1, q2, q3, q4⟩ := hM x i1 v1 m1
            rw [hx] at q1
            have q1 := Option.some.inj q1
            injection q1 with q1
            injection q1 with q1
            injection q1 with q0 q1
            injection q1 with q1 q1'
            subst q1'
            have hpar := par_ok hn hE q2 hz m3
            have hb := bnd_ok hn hE q3
            rw [cond_true]
            apply P1
            intro c hc h0
            rw [pk_un (by omega)] at h0
            by_cases e2 : 211 + c = ix z
            · have : 67 + c = ix a' := by omega
              rw [this, q4] at h0
              rw [h0] at hb
              have hb1 := hb.1
              rw [ky0] at hb1
              omega
            · rw [pk_un e2]; exact hp c hc h0
    | false =>
      rw [cond_false]
      cases c2 : Nat.ble 17179869184 p with
      | false => exact PRD_0
      | true =>
        rw [Nat.ble_eq] at c2
        have hp0 := hp
        unfold PRD at hp
        rw [if_neg (by omega), if_neg (by omega), if_pos c2] at hp
        obtain ⟨z1, hz1, hlk⟩ := hp
        rw [cond_true]
        cases c3 : (Nat.blt ih 67 || Nat.blt 354 il) with
        | true =>
          rw [Bool.or_eq_true, blt_t, blt_t] at c3
          rw [cond_true]
          unfold PRD
          rw [if_neg (by omega), if_neg (by omega), if_pos c2]
          refine ⟨z1, hz1, fun c hc hne h0 => ?_⟩
          rw [pk_un (by omega)] at h0
          rw [pk_un (by omega)]
          exact hlk c hc hne h0
        | false =>
          rw [cond_false]
          cases c4 : (Nat.beq vl 2147483648 && (Nat.beq vh 2147483648 && (Nat.ble 211 il && (Nat.ble ih 354 && par n env (p - 17179869184) i)))) with
          | false => exact PRD_0
          | true =>
            rw [Bool.and_eq_true, Bool.and_eq_true, Bool.and_eq_true, Bool.and_eq_true, Nat.beq_eq, Nat.beq_eq, Nat.ble_eq, Nat.ble_eq] at c4
            obtain ⟨d1, d2, d3, d4, d5⟩ := c4
            have hpar := par_ok hn hE hz1 hz d5
            have hu0 : u = 0 := ky_inj (by have := hu.1; have := hu.2; rw [ky0]; omega)
            rw [cond_true]
            apply P1
            intro c hc h0
            rw [pk_un (by omega)] at h0
            by_cases e2 : 211 + c = ix z
            · rw [e2, pk_us, hu0]
            · rw [pk_un e2]
              exact hlk c hc (by omega) h0
def cellOK (lam : Nat → Nat) (ρ : List Int32) (c : AC) (x : PE) : Prop := match c with
  | .inl (.inl (ln, p, sg)) => ∃ N f, x = eI N f ∧ N < 2147483648 ∧ vRel lam ρ ln (vI (Int32.ofNat N)) ∧ SegOK sg f ∧ PRD ρ p f
  | .inl (.inr (q, rs)) => ∃ f, x = eR q rs.length f ∧ ∀ j o, nth rs j = some o → f j = o.map lam
  | .inr (q, fs) => ∃ xs, x = eO q xs ∧ R2 (vRel lam ρ) fs xs
theorem cellOK.up {lam : Nat → Nat} {ρ : List Int32} {c : AC} {x : PE} (τ : List Int32) (h : cellOK lam ρ c x) : cellOK lam (τ ++ ρ) c x := by
  match c with
  | .inl (.inl (ln, p, sg)) => obtain ⟨N, f, h1, h2, h3, h4, h5⟩ := h; exact ⟨N, f, h1, h2, h3.up τ, h4, h5.up τ⟩
  | .inl (.inr (q, rs)) => exact h
  | .inr (q, fs) => obtain ⟨xs, h1, h2⟩ := h; exact ⟨xs, h1, h2.mono (fun _ _ q => q.up τ)⟩
def HOK (lam : Nat → Nat) (ρ : List Int32) (H : List AC) (h : PH) : Prop := ∀ k c, nth H k = some c → ∃ x, h[lam k]? = some x ∧ cellOK lam ρ c x
def FOK (ρ : List Int32) (fs : List (Nat × Nat × Nat)) : Prop := ∀ s x y, (s, x, y) ∈ fs → ∃ a b, val ρ x = some a ∧ val ρ y = some b ∧ ky a ≤ ky b ∧ (1 ≤ s → ky a < ky b)
def MOK (lam : Nat → Nat) (ρ : List Int32) (mm : List (Nat × Nat × Nat)) (h : PH) : Prop := ∀ k i v, (k, i, v) ∈ mm → ∃ N f a b, h[lam k]? = some (eI N f) ∧ val ρ i = some a ∧ val ρ v = some b ∧ f (ix a) = b
def kpt (W : Nat → Prop) (x0 x : PE) : Prop := match x0, x with
  | .inl (.inl a), .inl (.inl b) => a.1 = b.1 ∧ a.2.1 = b.2.1 ∧ (¬ W 999 → a.2.2 = b.2.2)
  | .inl (.inr a), .inl (.inr b) => a.1 = b.1 ∧ a.2.1 = b.2.1 ∧ (¬ W 999 → a.2.2 = b.2.2)
  | .inr a, .inr b => a.1 = b.1 ∧ a.2.length = b.2.length ∧ ∀ j, ¬ W j → a.2[j]? = b.2[j]?
  | _, _ => False
theorem kpt.refl {W : Nat → Prop} (x : PE) : kpt W x x := by
  match x with
  | .inl (.inl a) => exact ⟨rfl, rfl, fun _ => rfl⟩
  | .inl (.inr a) => exact ⟨rfl, rfl, fun _ => rfl⟩
  | .inr a => exact ⟨rfl, rfl, fun _ _ => rfl⟩
theorem kpt.trans {W : Nat → Prop} {x y z : PE} (h1 : kpt W x y) (h2 : kpt W y z) : kpt W x z := by
  match x, y, z with
  | .inl (.inl a), .inl (.inl b), .inl (.inl c) => exact ⟨h1.1.trans h2.1, h1.2.1.trans h2.2.1, fun q => (h1.2.2 q).trans (h2.2.2 q)⟩
  | .inl (.inr a), .inl (.inr b), .inl (.inr c) => exact ⟨h1.1.trans h2.1, h1.2.1.trans h2.2.1, fun q => (h1.2.2 q).trans (h2.2.2 q)⟩
  | .inr a, .inr b, .inr c => exact ⟨h1.1.trans h2.1, h1.2.1.trans h2.2.1, fun j q => (h1.2.2 j q).trans (h2.2.2 j q)⟩
  | .inl (.inl a), .inl (.inr b), _ => cases h1
  | .inl (.inl a), .inr b, _ => cases h1
  | .inl (.inr a), .inl (.inl b), _ => cases h1
  | .inl (.inr a), .inr b, _ => cases h1
  | .inr a, .inl b, _ => cases h1
  | .inl (.inl a), .inl (.inl b), .inl (.inr c) => cases h2
  | .inl (.inl a), .inl (.inl b), .inr c => cases h2
  | .inl (.inr a), .inl (.inr b), .inl (.inl c) => cases h2
  | .inl (.inr a), .inl (.inr b), .inr c => cases h2
  | .inr a, .inr b, .inl c => cases h2
theorem kpt.mono {W W' : Nat → Prop} {x y : PE} (hW : ∀ j, W j → W' j) (h1 : kpt W x y) : kpt W' x y := by
  match x, y with
  | .inl (.inl a), .inl (.inl b) => exact ⟨h1.1, h1.2.1, fun q => h1.2.2 (fun w => q (hW _ w))⟩
  | .inl (.inr a), .inl (.inr b) => exact ⟨h1.1, h1.2.1, fun q => h1.2.2 (fun w => q (hW _ w))⟩
  | .inr a, .inr b => exact ⟨h1.1, h1.2.1, fun j q => h1.2.2 j (fun w => q (hW _ w))⟩
  | .inl (.inl a), .inl (.inr b) => cases h1
  | .inl (.inl a), .inr b => cases h1
  | .inl (.inr a), .inl (.inl b) => cases h1
  | .inl (.inr a), .inr b => cases h1
  | .inr a, .inl b => cases h1
def FRM (lam : Nat → Nat) (W : List (Nat × Nat)) (H0 h : PH) : Prop := h.length = H0.length ∧ ∀ a x0, H0[a]? = some x0 → ∃ x, h[a]? = some x ∧ kpt (fun j => ∃ k, (k, j) ∈ W ∧ lam k = a) x0 x
theorem FRM.refl {lam : Nat → Nat} {W : List (Nat × Nat)} (h : PH) : FRM lam W h h := ⟨rfl, fun _ x hx => ⟨x, hx, kpt.refl x⟩⟩
theorem FRM.trans {lam : Nat → Nat} {W W' : List (Nat × Nat)} {h0 h1 h2 : PH} (hW : ∀ q, q ∈ W' → q ∈ W) (a : FRM lam W h0 h1) (b : FRM lam W' h1 h2) : FRM lam W h0 h2 := by
  refine ⟨b.1.trans a.1, fun q x hx => ?_⟩
  obtain ⟨y, h3, h4⟩ := a.2 q x hx
  obtain ⟨z, h5, h6⟩ := b.2 q y h3
  exact ⟨z, h5, h4.trans (h6.mono (fun j ⟨k, hk, e⟩ => ⟨k, hW _ hk, e⟩))⟩
theorem FRM.set {lam : Nat → Nat} {W : List (Nat × Nat)} {h0 h : PH} {k : Nat} {x y : PE} (a : FRM lam W h0 h) (hx : h[lam k]? = some x) (hk : kpt (fun j => ∃ k', (k', j) ∈ W ∧ lam k' = lam k) x y) : FRM lam W h0 (h.set (lam k) y) := by
  refine ⟨by rw [List.length_set]; exact a.1, fun q x0 hq => ?_⟩
  obtain ⟨z, h3, h4⟩ := a.2 q x0 hq
  by_cases e : lam k = q
  · subst e
    rw [hx] at h3
    cases h3
    exact ⟨y, List.getElem?_set_self (List.getElem?_eq_some_iff.mp hx).1, h4.trans hk⟩
  · exact ⟨z, by rw [List.getElem?_set_ne e]; exact h3, h4⟩
def SOK (lam : Nat → Nat) (W : List (Nat × Nat)) (NH : Nat) (H0 : PH) (ρ : List Int32) (S : AS) (h : PH) : Prop := match S with
  | (n, env, fs, mm, H) => n = env.length ∧ EnvOK env ρ ∧ FOK ρ fs ∧ MOK lam ρ mm h ∧ HOK lam ρ H h ∧ H.length = NH ∧ FRM lam W H0 h
theorem FOK.up {ρ : List Int32} {fs : List (Nat × Nat × Nat)} (τ : List Int32) (h : FOK ρ fs) : FOK (τ ++ ρ) fs := by
  intro s x y hm
  obtain ⟨a, b, h1, h2, h3⟩ := h s x y hm
  exact ⟨a, b, val_app τ h1, val_app τ h2, h3⟩
theorem MOK.up {lam : Nat → Nat} {ρ : List Int32} {mm : List (Nat × Nat × Nat)} {h : PH} (τ : List Int32) (hm : MOK lam ρ mm h) : MOK lam (τ ++ ρ) mm h := by
  intro k i v hk
  obtain ⟨N, f, a, b, h1, h2, h3, h4⟩ := hm k i v hk
  exact ⟨N, f, a, b, h1, val_app τ h2, val_app τ h3, h4⟩
theorem HOK.up {lam : Nat → Nat} {ρ : List Int32} {H : List AC} {h : PH} (τ : List Int32) (hH : HOK lam ρ H h) : HOK lam (τ ++ ρ) H h := by
  intro k c hk
  obtain ⟨x, h1, h2⟩ := hH k c hk
  exact ⟨x, h1, h2.up τ⟩
theorem nsy_ok {α : Type} {P : α → Prop} {n : Nat} {env : List SE} {ρ : List Int32} {lo hi op a b : Nat} {z : Int32} {k : Nat → Nat → List SE → α} (hn : n = env.length) (hE : EnvOK env ρ) (hb : inb lo hi z) (hd : op ≤ 8 → ∃ y w, val ρ a = some y ∧ val ρ b = some w ∧ z = pbin op y w) (h : ∀ c n' env' τ, n' = env'.length → EnvOK env' (τ ++ ρ) → val (τ ++ ρ) c = some z → P (k c n' env')) : P (nsy n env lo hi op a b k) := by
  unfold nsy
  rw [frN_eq, frN_eq]
  cases hc : Nat.beq lo hi with
  | true =>
    have hc := Nat.eq_of_beq_eq_true hc
    subst hc
    rw [cond_true]
    have hz := inb_c hb
    have hl : lo < 4294967296 := Nat.lt_of_le_of_lt hb.1 (ky_lim z)
    exact h lo n env [] hn hE (by rw [List.nil_append, val_c hl, hz])
  | false =>
    rw [cond_false, frN_eq]
    exact h _ _ _ [z] (by rw [hn]; rfl) ⟨⟨hb, hd⟩, hE⟩ (val_new (by rw [hn]; exact hE.len))
/-! state and place -/
def GST (lam : Nat → Nat) (W : List (Nat × Nat)) (NH : Nat) (H0 : PH) (ρ : List Int32) (ls : AL) (st : List AV) (S : AS) (cls : List (Option PV)) (cst : List PV) (h : PH) : Prop := R2 (oRel lam ρ) ls cls ∧ R2 (vRel lam ρ) st cst ∧ SOK lam W NH H0 ρ S h
abbrev AX : Type := Nat × AL × List AV × AS
def SUC (lam : Nat → Nat) (W : List (Nat × Nat)) (NH : Nat) (H0 : PH) (K : Nat → List (Option PV) → List PV → PH → Prop) (ρ : List Int32) (xs : List AX) : Prop := ∀ i ls st S, (i, ls, st, S) ∈ xs → ∀ τ cls cst h, GST lam W NH H0 (τ ++ ρ) ls st S cls cst h → K i cls cst h
theorem SUC.one {lam : Nat → Nat} {W : List (Nat × Nat)} {NH : Nat} {H0 : PH} {K : Nat → List (Option PV) → List PV → PH → Prop} {ρ : List Int32} {xs : List AX} {i : Nat} {ls : AL} {st : List AV} {S : AS} (hK : SUC lam W NH H0 K ρ xs) (he : some [(i, ls, st, S)] = some xs) (τ : List Int32) {cls : List (Option PV)} {cst : List PV} {h : PH} (hg : GST lam W NH H0 (τ ++ ρ) ls st S cls cst h) : K i cls cst h := by
  have := Option.some.inj he
  subst this
  exact hK i ls st S List.mem_cons_self τ cls cst h hg
theorem R2.upv {lam : Nat → Nat} {ρ : List Int32} (τ : List Int32) {st : List AV} {cst : List PV} (h : R2 (vRel lam ρ) st cst) : R2 (vRel lam (τ ++ ρ)) st cst := h.mono (fun _ _ q => q.up τ)
theorem R2.upo {lam : Nat → Nat} {ρ : List Int32} (τ : List Int32) {st : AL} {cst : List (Option PV)} (h : R2 (oRel lam ρ) st cst) : R2 (oRel lam (τ ++ ρ)) st cst := h.mono (fun _ _ q => q.up τ)
