/-! conditions: what waits, and how it comes out -/
/-- what waits: n entries, state q of the top level, brackets b, twos m, nots and brackets u -/
def PS (g : FA) : Nat → Nat → Nat → Nat → Nat → Prop
  | 0, q, b, m, u => q = 0 ∧ b = 0 ∧ m = 0 ∧ u = 0
  | n + 1, q, b, m, u => (g n = 11 ∧ q = 1 ∧ ∃ m', m = m' + 1 ∧ PS g n 0 b m' u) ∨ (g n = 10 ∧ q = 2 ∧ ∃ q' m', m = m' + 1 ∧ q' ≤ 1 ∧ PS g n q' b m' u) ∨ (g n = 9 ∧ q = 3 ∧ ∃ q' u', u = u' + 1 ∧ PS g n q' b m u') ∨ (g n = 12 ∧ q = 0 ∧ ∃ q' b' u', b = b' + 1 ∧ u = u' + 1 ∧ PS g n q' b' m u')
theorem PS.nil {g : FA} : PS g 0 0 0 0 0 := ⟨rfl, rfl, rfl, rfl⟩
theorem PS.orr {g : FA} {n b m u : Nat} (h : PS g n 0 b m u) (hg : g n = 11) : PS g (n + 1) 1 b (m + 1) u := Or.inl ⟨hg, rfl, m, rfl, h⟩
theorem PS.andd {g : FA} {n q b m u : Nat} (h : PS g n q b m u) (hq : q ≤ 1) (hg : g n = 10) : PS g (n + 1) 2 b (m + 1) u := Or.inr (Or.inl ⟨hg, rfl, q, m, rfl, hq, h⟩)
theorem PS.nott {g : FA} {n q b m u : Nat} (h : PS g n q b m u) (hg : g n = 9) : PS g (n + 1) 3 b m (u + 1) := Or.inr (Or.inr (Or.inl ⟨hg, rfl, q, u, rfl, h⟩))
theorem PS.bra {g : FA} {n q b m u : Nat} (h : PS g n q b m u) (hg : g n = 12) : PS g (n + 1) 0 (b + 1) m (u + 1) := Or.inr (Or.inr (Or.inr ⟨hg, rfl, q, b, u, rfl, rfl, h⟩))
theorem PS.len {g : FA} : ∀ {n q b m u : Nat}, PS g n q b m u → n = m + u ∧ m ≤ 2 * b + min q 2 ∧ b ≤ u ∧ q ≤ 3 := by
  intro n
  induction n with
  | zero =>
    rintro q b m u ⟨rfl, rfl, rfl, rfl⟩
    exact ⟨rfl, by omega, by omega, by omega⟩
  | succ n ih =>
    rintro q b m u (⟨h1, rfl, m', rfl, h2⟩ | ⟨h1, rfl, q', m', rfl, h3, h2⟩ | ⟨h1, rfl, q', u', rfl, h2⟩ | ⟨h1, rfl, q', b', u', rfl, rfl, h2⟩)
    · have := ih h2; omega
    · have := ih h2; omega
    · have := ih h2; omega
    · have := ih h2; omega
theorem PS.up {g : FA} {k : Nat} {x : Int32} : ∀ {n q b m u : Nat}, PS g n q b m u → n ≤ k → PS (upd g k x) n q b m u := by
  intro n
  induction n with
  | zero => intro q b m u h _; exact h
  | succ n ih =>
    intro q b m u h hk
    have e : upd g k x n = g n := pk_un (by omega)
    rcases h with ⟨h1, rfl, m', rfl, h2⟩ | ⟨h1, rfl, q', m', rfl, h3, h2⟩ | ⟨h1, rfl, q', u', rfl, h2⟩ | ⟨h1, rfl, q', b', u', rfl, rfl, h2⟩
    · exact PS.orr (ih h2 (by omega)) (e.trans h1)
    · exact PS.andd (ih h2 (by omega)) h3 (e.trans h1)
    · exact PS.nott (ih h2 (by omega)) (e.trans h1)
    · exact PS.bra (ih h2 (by omega)) (e.trans h1)
theorem PS.p9 {g : FA} {n q b m u : Nat} (h : PS g (n + 1) q b m u) (hw : g n = 9) : ∃ q' u', u = u' + 1 ∧ q = 3 ∧ PS g n q' b m u' := by
  rcases h with ⟨h1, _⟩ | ⟨h1, _⟩ | ⟨h1, rfl, q', u', rfl, h2⟩ | ⟨h1, _⟩
  · rw [hw] at h1; exact absurd h1 (by decide)
  · rw [hw] at h1; exact absurd h1 (by decide)
  · exact ⟨_, _, rfl, rfl, h2⟩
  · rw [hw] at h1; exact absurd h1 (by decide)
theorem PS.p10 {g : FA} {n q b m u : Nat} (h : PS g (n + 1) q b m u) (hw : g n = 10) : ∃ q' m', m = m' + 1 ∧ q = 2 ∧ q' ≤ 1 ∧ PS g n q' b m' u := by
  rcases h with ⟨h1, _⟩ | ⟨h1, rfl, q', m', rfl, h3, h2⟩ | ⟨h1, _⟩ | ⟨h1, _⟩
  · rw [hw] at h1; exact absurd h1 (by decide)
  · exact ⟨_, _, rfl, rfl, h3, h2⟩
  · rw [hw] at h1; exact absurd h1 (by decide)
  · rw [hw] at h1; exact absurd h1 (by decide)
theorem PS.p11 {g : FA} {n q b m u : Nat} (h : PS g (n + 1) q b m u) (hw : g n = 11) : ∃ m', m = m' + 1 ∧ q = 1 ∧ PS g n 0 b m' u := by
  rcases h with ⟨h1, rfl, m', rfl, h2⟩ | ⟨h1, _⟩ | ⟨h1, _⟩ | ⟨h1, _⟩
  · exact ⟨_, rfl, rfl, h2⟩
  · rw [hw] at h1; exact absurd h1 (by decide)
  · rw [hw] at h1; exact absurd h1 (by decide)
  · rw [hw] at h1; exact absurd h1 (by decide)
theorem PS.q3 {g : FA} : ∀ {n b m u : Nat}, PS g n 3 b m u → 0 < n ∧ g (n - 1) = 9
  | 0, _, _, _, ⟨h, _⟩ => absurd h (by decide)
  | _ + 1, _, _, _, Or.inl ⟨_, h, _⟩ => absurd h (by decide)
  | _ + 1, _, _, _, Or.inr (Or.inl ⟨_, h, _⟩) => absurd h (by decide)
  | _ + 1, _, _, _, Or.inr (Or.inr (Or.inl ⟨h, _⟩)) => ⟨Nat.succ_pos _, h⟩
  | _ + 1, _, _, _, Or.inr (Or.inr (Or.inr ⟨_, h, _⟩)) => absurd h (by decide)
theorem PS.q2 {g : FA} : ∀ {n b m u : Nat}, PS g n 2 b m u → 0 < n ∧ g (n - 1) = 10
  | 0, _, _, _, ⟨h, _⟩ => absurd h (by decide)
  | _ + 1, _, _, _, Or.inl ⟨_, h, _⟩ => absurd h (by decide)
  | _ + 1, _, _, _, Or.inr (Or.inl ⟨h, _⟩) => ⟨Nat.succ_pos _, h⟩
  | _ + 1, _, _, _, Or.inr (Or.inr (Or.inl ⟨_, h, _⟩)) => absurd h (by decide)
  | _ + 1, _, _, _, Or.inr (Or.inr (Or.inr ⟨_, h, _⟩)) => absurd h (by decide)
theorem PS.q1 {g : FA} : ∀ {n b m u : Nat}, PS g n 1 b m u → 0 < n ∧ g (n - 1) = 11
  | 0, _, _, _, ⟨h, _⟩ => absurd h (by decide)
  | _ + 1, _, _, _, Or.inl ⟨h, _⟩ => ⟨Nat.succ_pos _, h⟩
  | _ + 1, _, _, _, Or.inr (Or.inl ⟨_, h, _⟩) => absurd h (by decide)
  | _ + 1, _, _, _, Or.inr (Or.inr (Or.inl ⟨_, h, _⟩)) => absurd h (by decide)
  | _ + 1, _, _, _, Or.inr (Or.inr (Or.inr ⟨_, h, _⟩)) => absurd h (by decide)
theorem PS.q0 {g : FA} : ∀ {n b m u : Nat}, PS g n 0 b m u → (n = 0 ∧ b = 0 ∧ m = 0 ∧ u = 0) ∨ ∃ n' q' b' u', n = n' + 1 ∧ b = b' + 1 ∧ u = u' + 1 ∧ PS g n' q' b' m u'
  | 0, _, _, _, ⟨_, h1, h2, h3⟩ => Or.inl ⟨rfl, h1, h2, h3⟩
  | _ + 1, _, _, _, Or.inl ⟨_, h, _⟩ => absurd h (by decide)
  | _ + 1, _, _, _, Or.inr (Or.inl ⟨_, h, _⟩) => absurd h (by decide)
  | _ + 1, _, _, _, Or.inr (Or.inr (Or.inl ⟨_, h, _⟩)) => absurd h (by decide)
  | n + 1, _, _, _, Or.inr (Or.inr (Or.inr ⟨_, _, q', b', u', h1, h2, h3⟩)) => Or.inr ⟨n, q', b', u', rfl, h1, h2, h3⟩
/-- the state within a condition -/
def ASt (t i n d a np q b m u : Nat) (z : Nat → Int32) (f : Nat → FA) : Prop := CS t np i n d a z f ∧ z 29 = nI np ∧ z 27 = nI u ∧ u ≤ 8 ∧ PS (f 17) np q b m u
def FRa (b : Nat) (z : Nat → Int32) (f : Nat → FA) (z' : Nat → Int32) (f' : Nat → FA) : Prop := (∀ j, j ≠ 13 → j ≠ 14 → j ≠ 15 → j ≠ 16 → j ≠ 26 → j ≠ 27 → j ≠ 29 → j ≠ 30 → j ≠ 31 → z' j = z j) ∧ (∀ k, k ≠ 15 → k ≠ 16 → k ≠ 17 → f' k = f k) ∧ (∀ j, j < b → f' 15 j = f 15 j ∧ f' 16 j = f 16 j)
theorem FRc.a {b : Nat} {z z' : Nat → Int32} {f f' : Nat → FA} (h : FRc b z f z' f') : FRa b z f z' f' := ⟨fun j q1 q2 q3 q4 q5 _ _ q6 q7 => h.1 j q1 q2 q3 q4 q5 q6 q7, fun k q1 q2 _ => h.2.1 k q1 q2, h.2.2⟩
theorem FRa.refl {b : Nat} {z : Nat → Int32} {f : Nat → FA} : FRa b z f z f := FRc.refl.a
theorem FRa.trans {b c : Nat} {z z1 z2 : Nat → Int32} {f f1 f2 : Nat → FA} (h1 : FRa b z f z1 f1) (h2 : FRa c z1 f1 z2 f2) (hb : b ≤ c) : FRa b z f z2 f2 := by
  obtain ⟨a1, a2, a3⟩ := h1
  obtain ⟨b1, b2, b3⟩ := h2
  refine ⟨fun j q1 q2 q3 q4 q5 q6 q7 q8 q9 => (b1 j q1 q2 q3 q4 q5 q6 q7 q8 q9).trans (a1 j q1 q2 q3 q4 q5 q6 q7 q8 q9), fun k q1 q2 q3 => (b2 k q1 q2 q3).trans (a2 k q1 q2 q3), fun j hj => ?_⟩
  obtain ⟨c1, c2⟩ := b3 j (by omega)
  obtain ⟨d1, d2⟩ := a3 j hj
  exact ⟨c1.trans d1, c2.trans d2⟩
theorem FRa.z {b j : Nat} {z : Nat → Int32} {f : Nat → FA} {x : Int32} (hj : j = 27 ∨ j = 29) : FRa b z f (uZ z j x) f := ⟨fun k _ _ _ _ _ q6 q7 _ _ => uZ_n (by omega), fun _ _ _ _ => rfl, fun _ _ => ⟨rfl, rfl⟩⟩
theorem FRa.g {b : Nat} {z : Nat → Int32} {f : Nat → FA} {g : FA} : FRa b z f z (uA f 17 g) := ⟨fun _ _ _ _ _ _ _ _ _ _ => rfl, fun k _ _ q3 => uA_ne q3, fun j _ => ⟨by rw [uA_ne (by decide)], by rw [uA_ne (by decide)]⟩⟩
theorem CS.z {t p i n d a j : Nat} {z : Nat → Int32} {f : Nat → FA} {x : Int32} (h : CS t p i n d a z f) (hj : j = 27 ∨ j = 29) : CS t p i n d a (uZ z j x) f := by
  obtain ⟨h0, h1, h2, h3, h4, h5, ⟨s, s1, s2, s3⟩, h7⟩ := h
  refine ⟨h0, h1, ?_, ?_, ?_, h5, ⟨s, ?_, s2, ?_⟩, h7⟩
  · rw [uZ_n (by omega)]; exact h2
  · rw [uZ_n (by omega)]; exact h3
  · rw [uZ_n (by omega)]; exact h4
  · rw [uZ_n (by omega)]; exact s1
  · rw [uZ_n (by omega)]; exact s3
theorem CS.g {t p i n d a : Nat} {z : Nat → Int32} {f : Nat → FA} {g : FA} (h : CS t p i n d a z f) : CS t p i n d a z (uA f 17 g) := by
  obtain ⟨h0, h1, h2, h3, h4, h5, h6, h7⟩ := h
  refine ⟨?_, h1, h2, h3, h4, h5, h6, ?_⟩
  · rw [uA_ne (by decide)]; exact h0
  · rw [uA_ne (by decide), uA_ne (by decide)]; exact h7
def ST1 (z : Nat → Int32) : Prop := ST0 z ∧ ∃ u n, z 27 = nI u ∧ z 29 = nI n ∧ u ≤ 8 ∧ n ≤ 40
theorem ASt.np {t i n d a np q b m u : Nat} {z : Nat → Int32} {f : Nat → FA} (h : ASt t i n d a np q b m u z f) : np ≤ 26 := by
  have := h.2.2.2.2.len
  have := h.2.2.2.1
  omega
theorem ASt.st1 {t i n d a np q b m u : Nat} {z : Nat → Int32} {f : Nat → FA} (h : ASt t i n d a np q b m u z f) : ST1 z := by
  have := h.np
  exact ⟨h.1.st0, u, np, h.2.2.1, h.2.1, h.2.2.2.1, by omega⟩
theorem ST1.er {z : Nat → Int32} {x y : Int32} (h : ST1 z) : ST1 (uZ (uZ z 30 x) 31 y) := by
  obtain ⟨⟨s, a, c, h1, h2, h3, h4⟩, u, n, h5, h6, h7⟩ := h
  refine ⟨⟨s, a, c, ?_, ?_, ?_, h4⟩, u, n, ?_, ?_, h7⟩ <;> rw [uZ_n (by decide), uZ_n (by decide)] <;> assumption
set_option maxRecDepth 100000 in
theorem b285_1 (call : QC FA) (x1 : Int32) (z : Nat → Int32) (f : Nat → FA) (F : Nat) : rnG call 285 (F + 5) 0 [some (vR 0), some (vI x1)] [] (LR z f) = rnG call 285 F 5 [some (vR 0), some (vI x1)] [vI x1, vI (z 29), vR 17] (LR z f) := rfl
set_option maxRecDepth 100000 in
theorem b285_2 (call : QC FA) (x y : Int32) (ls : List (Option PV)) (z : Nat → Int32) (f : Nat → FA) (F : Nat) : rnG call 285 (F + 1) 5 ls [vI y, vI x, vR 17] (LR z f) = bif (Nat.beq 0 0 && pin x 40) then rnG call 285 F 6 ls [] (LR z (uA f 17 (upd (f 17) (ix x) y))) else none := rfl
set_option maxRecDepth 100000 in
theorem b285_3 (call : QC FA) (x1 : Int32) (z : Nat → Int32) (f : Nat → FA) (F : Nat) : rnG call 285 (F + 5) 6 [some (vR 0), some (vI x1)] [] (LR z f) = rnG call 285 F 11 [some (vR 0), some (vI x1)] [vI ((z 29) + 1), vR 0] (LR z f) := rfl
set_option maxRecDepth 100000 in
theorem b285_4 (call : QC FA) (y : Int32) (ls : List (Option PV)) (z : Nat → Int32) (f : Nat → FA) (F : Nat) : rnG call 285 (F + 1) 11 ls [vI y, vR 0] (LR z f) = rnG call 285 F 12 ls [] (LR (uZ z 29 y) f) := rfl
set_option maxRecDepth 100000 in
theorem b285_5 (call : QC FA) (ls : List (Option PV)) (L : QH FA) (F : Nat) : rnG call 285 (F + 1) 12 ls [] L = some (none, L) := rfl
theorem vc285_0 (call : QC FA) (x1 : Int32) (z : Nat → Int32) (f : Nat → FA) (res : Option PV × QH FA) (H : (pin (z 29) 40 = true ∧ res = (none, LR (uZ z 29 ((z 29) + 1)) (uA f 17 (upd (f 17) (ix (z 29)) x1))))) : RC call (mP 285) 0 [some (vR 0), some (vI x1)] [] (LR z f) res := by
  refine rc_b (i' := 5) (ls' := [some (vR 0), some (vI x1)]) (st' := [vI x1, vI (z 29), vR 17]) (L' := LR z f) 5 (b285_1 call x1 z f) ?_
  obtain ⟨g1, H⟩ := H
  refine rc_g (i' := 6) (ls' := [some (vR 0), some (vI x1)]) (st' := []) (L' := LR z (uA f 17 (upd (f 17) (ix (z 29)) x1))) (b285_2 call (z 29) x1 _ z f) (pinG g1) ?_
  refine rc_b (i' := 11) (ls' := [some (vR 0), some (vI x1)]) (st' := [vI ((z 29) + 1), vR 0]) (L' := LR z (uA f 17 (upd (f 17) (ix (z 29)) x1))) 5 (b285_3 call x1 z (uA f 17 (upd (f 17) (ix (z 29)) x1))) ?_
  refine rc_b (i' := 12) (ls' := [some (vR 0), some (vI x1)]) (st' := []) (L' := LR (uZ z 29 ((z 29) + 1)) (uA f 17 (upd (f 17) (ix (z 29)) x1))) 1 (b285_4 call ((z 29) + 1) _ z (uA f 17 (upd (f 17) (ix (z 29)) x1))) ?_
  subst H
  exact rc_ret (b285_5 call _ _)
theorem waits_r (d0 : Nat) (w : Int32) (z : Nat → Int32) (f : Nat → FA) (n : Nat) (hz : z 29 = nI n) (hn : n < 40) : mcall (d0 + 1) 285 [vR 0, vI w] (LR z f) = some (none, LR (uZ z 29 (nI (n + 1))) (uA f 17 (upd (f 17) n w))) := by
  have e1 : z 29 + 1 = nI (n + 1) := by rw [hz]; exact nI_add n 1
  refine mcall_i (mq285 (cu := [])).2.2 rfl (vc285_0 _ _ _ _ _ ⟨by rw [hz]; exact pin_nI hn (by omega), ?_⟩)
  rw [e1, hz, ix_nI (by omega)]
set_option maxRecDepth 100000 in
theorem b273_1 (call : QC FA) (x1 : Int32) (z : Nat → Int32) (f : Nat → FA) (F : Nat) : rnG call 273 (F + 2) 0 [some (vR 0), some (vI x1)] [] (LR z f) = rnG call 273 F 2 [some (vR 0), some (vI x1)] [vI (z 29)] (LR z f) := rfl
set_option maxRecDepth 100000 in
theorem b273_2 (call : QC FA) (x : Int32) (ls : List (Option PV)) (L : QH FA) (F : Nat) : rnG call 273 (F + 1) 2 ls [vI x] L = bif pcmp 5 x 0 then rnG call 273 F 32 ls [] L else rnG call 273 F 3 ls [] L := rfl
set_option maxRecDepth 100000 in
theorem b273_3 (call : QC FA) (ls : List (Option PV)) (L : QH FA) (F : Nat) : rnG call 273 (F + 1) 32 ls [] L = some (none, L) := rfl
set_option maxRecDepth 100000 in
theorem b273_4 (call : QC FA) (x1 : Int32) (z : Nat → Int32) (f : Nat → FA) (F : Nat) : rnG call 273 (F + 6) 3 [some (vR 0), some (vI x1)] [] (LR z f) = rnG call 273 F 9 [some (vR 0), some (vI x1)] [vI ((z 29) - 1), vR 17] (LR z f) := rfl
set_option maxRecDepth 100000 in
theorem b273_5 (call : QC FA) (x : Int32) (ls : List (Option PV)) (z : Nat → Int32) (f : Nat → FA) (F : Nat) : rnG call 273 (F + 1) 9 ls [vI x, vR 17] (LR z f) = bif (Nat.beq 0 0 && pin x 40) then rnG call 273 F 10 ls [vI (f 17 (ix x))] (LR z f) else none := rfl
set_option maxRecDepth 100000 in
theorem b273_6 (call : QC FA) (x1 : Int32) (s0 : Int32) (L : QH FA) (F : Nat) : rnG call 273 (F + 1) 10 [some (vR 0), some (vI x1)] [vI s0] L = rnG call 273 F 11 [some (vR 0), some (vI x1)] [vI x1, vI s0] L := rfl
set_option maxRecDepth 100000 in
theorem b273_7 (call : QC FA) (x y : Int32) (ls : List (Option PV)) (L : QH FA) (F : Nat) : rnG call 273 (F + 1) 11 ls [vI y, vI x] L = bif pcmp 1 x y then rnG call 273 F 32 ls [] L else rnG call 273 F 12 ls [] L := rfl
set_option maxRecDepth 100000 in
theorem b273_8 (call : QC FA) (x1 : Int32) (z : Nat → Int32) (f : Nat → FA) (F : Nat) : rnG call 273 (F + 5) 12 [some (vR 0), some (vI x1)] [] (LR z f) = rnG call 273 F 17 [some (vR 0), some (vI x1)] [vI ((z 29) - 1), vR 0] (LR z f) := rfl
set_option maxRecDepth 100000 in
theorem b273_9 (call : QC FA) (y : Int32) (ls : List (Option PV)) (z : Nat → Int32) (f : Nat → FA) (F : Nat) : rnG call 273 (F + 1) 17 ls [vI y, vR 0] (LR z f) = rnG call 273 F 18 ls [] (LR (uZ z 29 y) f) := rfl
set_option maxRecDepth 100000 in
theorem b273_10 (call : QC FA) (x1 : Int32) (L : QH FA) (F : Nat) : rnG call 273 (F + 3) 18 [some (vR 0), some (vI x1)] [] L = rnG call 273 F 21 [some (vR 0), some (vI x1)] [vI 0, vI x1, vR 0] L := rfl
set_option maxRecDepth 100000 in
theorem b273_11 (call : QC FA) (a0 : Int32) (a1 : Int32) (ls : List (Option PV)) (z : Nat → Int32) (f : Nat → FA) (F : Nat) : rnG call 273 (F + 1) 21 ls [vI a1, vI a0, vR 0] (LR z f) = cbd (call 205 [vR 0, vI a0, vI a1] (LR z f)) (fun r L' => rnG call 273 F 22 ls (r.toList ++ []) L') := pcY (ih := rnG call 273 F) (call := call) (a := 205) (b := 2) (v := 12) (t := 22) (x := 0) (ls := ls) (As := [vI a0, vI a1]) (st' := []) (L := LR z f) rfl rfl rfl
set_option maxRecDepth 100000 in
theorem b273_12 (call : QC FA) (x1 : Int32) (L : QH FA) (F : Nat) : rnG call 273 (F + 2) 22 [some (vR 0), some (vI x1)] [] L = rnG call 273 F 24 [some (vR 0), some (vI x1)] [vI 9, vI x1] L := rfl
set_option maxRecDepth 100000 in
theorem b273_13 (call : QC FA) (x y : Int32) (ls : List (Option PV)) (L : QH FA) (F : Nat) : rnG call 273 (F + 1) 24 ls [vI y, vI x] L = bif pcmp 1 x y then rnG call 273 F 0 ls [] L else rnG call 273 F 25 ls [] L := rfl
set_option maxRecDepth 100000 in
theorem b273_14 (call : QC FA) (x1 : Int32) (z : Nat → Int32) (f : Nat → FA) (F : Nat) : rnG call 273 (F + 5) 25 [some (vR 0), some (vI x1)] [] (LR z f) = rnG call 273 F 30 [some (vR 0), some (vI x1)] [vI ((z 27) - 1), vR 0] (LR z f) := rfl
set_option maxRecDepth 100000 in
theorem b273_15 (call : QC FA) (y : Int32) (ls : List (Option PV)) (z : Nat → Int32) (f : Nat → FA) (F : Nat) : rnG call 273 (F + 1) 30 ls [vI y, vR 0] (LR z f) = rnG call 273 F 31 ls [] (LR (uZ z 27 y) f) := rfl
set_option maxRecDepth 100000 in
theorem b273_16 (call : QC FA) (x1 : Int32) (L : QH FA) (F : Nat) : rnG call 273 (F + 1) 31 [some (vR 0), some (vI x1)] [] L = rnG call 273 F 0 [some (vR 0), some (vI x1)] [] L := rfl
theorem vc273_0 (d : Nat) (x1 : Int32) (z : Nat → Int32) (f : Nat → FA) (res : Option PV × QH FA) (H : ((I (z 29) ≤ 0 → res = (none, LR z f)) ∧ (0 < I (z 29) → (pin ((z 29) - 1) 40 = true ∧ ((¬ f 17 (ix ((z 29) - 1)) = x1 → res = (none, LR z f)) ∧ (f 17 (ix ((z 29) - 1)) = x1 → (∃ (z1 : Nat → Int32) (f1 : Nat → FA), (mcall (d + 1)) 205 [vR 0, vI x1, vI 0] (LR (uZ z 29 ((z 29) - 1)) f) = some (none, LR z1 f1) ∧ ((¬ x1 = 9 → RC (mcall (d + 1)) (mP 273) 0 [some (vR 0), some (vI x1)] [] (LR z1 f1) res) ∧ (x1 = 9 → RC (mcall (d + 1)) (mP 273) 0 [some (vR 0), some (vI x1)] [] (LR (uZ z1 27 ((z1 27) - 1)) f1) res))))))))) : RC (mcall (d + 1)) (mP 273) 0 [some (vR 0), some (vI x1)] [] (LR z f) res := by
  refine rc_b (i' := 2) (ls' := [some (vR 0), some (vI x1)]) (st' := [vI (z 29)]) (L' := LR z f) 2 (b273_1 (mcall (d + 1)) x1 z f) ?_
  refine rc_if (it := 32) (ie := 3) (ls' := [some (vR 0), some (vI x1)]) (st' := []) (b273_2 (mcall (d + 1)) (z 29) _ _) (fun q1 => ?_) (fun q1 => ?_)
  · have H := H.1 (cI5t q1 rfl rfl)
    subst H
    exact rc_ret (b273_3 (mcall (d + 1)) _ _)
  · have H := H.2 (cI5f q1 rfl rfl)
    refine rc_b (i' := 9) (ls' := [some (vR 0), some (vI x1)]) (st' := [vI ((z 29) - 1), vR 17]) (L' := LR z f) 6 (b273_4 (mcall (d + 1)) x1 z f) ?_
    obtain ⟨g1, H⟩ := H
    refine rc_g (i' := 10) (ls' := [some (vR 0), some (vI x1)]) (st' := [vI (f 17 (ix ((z 29) - 1)))]) (L' := LR z f) (b273_5 (mcall (d + 1)) ((z 29) - 1) _ z f) (pinG g1) ?_
    refine rc_b (i' := 11) (ls' := [some (vR 0), some (vI x1)]) (st' := [vI x1, vI (f 17 (ix ((z 29) - 1)))]) (L' := LR z f) 1 (b273_6 (mcall (d + 1)) x1 (f 17 (ix ((z 29) - 1))) _) ?_
    refine rc_if (it := 32) (ie := 12) (ls' := [some (vR 0), some (vI x1)]) (st' := []) (b273_7 (mcall (d + 1)) (f 17 (ix ((z 29) - 1))) x1 _ _) (fun q2 => ?_) (fun q2 => ?_)
    · have H := H.1 (cI1t q2)
      subst H
      exact rc_ret (b273_3 (mcall (d + 1)) _ _)
    · have H := H.2 (cI1f q2)
      refine rc_b (i' := 17) (ls' := [some (vR 0), some (vI x1)]) (st' := [vI ((z 29) - 1), vR 0]) (L' := LR z f) 5 (b273_8 (mcall (d + 1)) x1 z f) ?_
      refine rc_b (i' := 18) (ls' := [some (vR 0), some (vI x1)]) (st' := []) (L' := LR (uZ z 29 ((z 29) - 1)) f) 1 (b273_9 (mcall (d + 1)) ((z 29) - 1) _ z f) ?_
      refine rc_b (i' := 21) (ls' := [some (vR 0), some (vI x1)]) (st' := [vI 0, vI x1, vR 0]) (L' := LR (uZ z 29 ((z 29) - 1)) f) 3 (b273_10 (mcall (d + 1)) x1 _) ?_
      obtain ⟨z1, f1, hc, H⟩ := H
      refine rc_call (t := 22) (ls' := [some (vR 0), some (vI x1)]) (st' := []) (b273_11 (mcall (d + 1)) x1 0 _ (uZ z 29 ((z 29) - 1)) f) hc ?_
      show RC (mcall (d + 1)) (mP 273) 22 [some (vR 0), some (vI x1)] [] (LR z1 f1) res
      refine rc_b (i' := 24) (ls' := [some (vR 0), some (vI x1)]) (st' := [vI 9, vI x1]) (L' := LR z1 f1) 2 (b273_12 (mcall (d + 1)) x1 _) ?_
      refine rc_if (it := 0) (ie := 25) (ls' := [some (vR 0), some (vI x1)]) (st' := []) (b273_13 (mcall (d + 1)) x1 9 _ _) (fun q3 => ?_) (fun q3 => ?_)
      · have H := H.1 (cI1t q3)
        exact H
      · have H := H.2 (cI1f q3)
        refine rc_b (i' := 30) (ls' := [some (vR 0), some (vI x1)]) (st' := [vI ((z1 27) - 1), vR 0]) (L' := LR z1 f1) 5 (b273_14 (mcall (d + 1)) x1 z1 f1) ?_
        refine rc_b (i' := 31) (ls' := [some (vR 0), some (vI x1)]) (st' := []) (L' := LR (uZ z1 27 ((z1 27) - 1)) f1) 1 (b273_15 (mcall (d + 1)) ((z1 27) - 1) _ z1 f1) ?_
        refine rc_b (i' := 0) (ls' := [some (vR 0), some (vI x1)]) (st' := []) (L' := LR (uZ z1 27 ((z1 27) - 1)) f1) 1 (b273_16 (mcall (d + 1)) x1 _) ?_
        exact H
theorem se0 (d0 t i a : Nat) (w : Int32) (hw : w = 9 ∨ w = 10 ∨ w = 11) : ∀ np n q b m u z f, ASt t i n (m + 1) a np q b m u z f → ∃ z' f' n' np' q' m' u', RC (mcall (d0 + 1)) (mP 273) 0 [some (vR 0), some (vI w)] [] (LR z f) (none, LR z' f') ∧ ASt t i n' (m' + 1) a np' q' b m' u' z' f' ∧ n ≤ n' ∧ q' ≤ q ∧ FRa (800 + (i + n)) z f z' f' ∧ (np' = 0 ∨ ¬ f' 17 (np' - 1) = w) ∧ z' 15 = z 15 ∧ z' 16 = z 16 := by
  intro np
  induction np with
  | zero =>
    intro n q b m u z f h
    refine ⟨z, f, n, 0, q, m, u, vc273_0 _ _ _ _ _ ?_, h, Nat.le_refl _, Nat.le_refl _, FRa.refl, Or.inl rfl, rfl, rfl⟩
    rw [h.2.1]
    exact ⟨fun _ => rfl, fun q => absurd q (by decide)⟩
  | succ np ih =>
    intro n q b m u z f h
    have hnp := h.np
    obtain ⟨hC, h29, h27, hu, hP⟩ := h
    have i29 : I (z 29) = (np + 1 : Nat) := by rw [h29]; exact I_nI (by omega)
    have e29 : z 29 - 1 = nI np := nsub (a := np) (c := 1) h29 rfl
    by_cases c : f 17 np = w
    · -- the top comes out
      have step : ∃ q' m' u', q' ≤ q ∧ PS (f 17) np q' b m' u' ∧ u' ≤ 8 ∧ COK (f 15) (f 16) (i + n) n w 0 (m + 1) (m' + 1) ∧ ((w = 9 ∧ u = u' + 1) ∨ (¬ w = 9 ∧ u = u')) := by
        rcases hw with rfl | rfl | rfl
        · obtain ⟨q', u', rfl, rfl, h3⟩ := hP.p9 c
          exact ⟨q', m, u', h3.len.2.2.2, h3, by omega, Or.inr (Or.inr (Or.inl ⟨rfl, by omega, rfl⟩)), Or.inl ⟨rfl, rfl⟩⟩
        · obtain ⟨q', m', rfl, rfl, h2, h3⟩ := hP.p10 c
          exact ⟨q', m', u, by omega, h3, hu, Or.inr (Or.inr (Or.inr ⟨by decide, by decide, by decide, by omega, by omega, fun q => absurd q (by decide)⟩)), Or.inr ⟨by decide, rfl⟩⟩
        · obtain ⟨m', rfl, rfl, h3⟩ := hP.p11 c
          exact ⟨0, m', u, by omega, h3, hu, Or.inr (Or.inr (Or.inr ⟨by decide, by decide, by decide, by omega, by omega, fun q => absurd q (by decide)⟩)), Or.inr ⟨by decide, rfl⟩⟩
      obtain ⟨q', m', u', s1, s2, s3, s4, s5⟩ := step
      obtain ⟨z1, f1, e1, e2, e3, e4⟩ := em_c d0 (p := np) (e := m' + 1) w 0 (hC.z (j := 29) (x := z 29 - 1) (Or.inr rfl)) s4
      have k27 : z1 27 = nI u := by rw [e3.1 27 (by decide) (by decide) (by decide) (by decide) (by decide) (by decide) (by decide), uZ_n (by decide)]; exact h27
      have k29 : z1 29 = nI np := by rw [e3.1 29 (by decide) (by decide) (by decide) (by decide) (by decide) (by decide) (by decide), uZ_s]; exact e29
      have k17 : f1 17 = f 17 := e3.2.1 17 (by decide) (by decide)
      have k15 : z1 15 = z 15 := by rw [e4 15 (by decide), uZ_n (by decide)]
      have k16 : z1 16 = z 16 := by rw [e4 16 (by decide), uZ_n (by decide)]
      rcases s5 with ⟨rfl, rfl⟩ | ⟨s5, rfl⟩
      · have e27 : z1 27 - 1 = nI u' := nsub (a := u') (c := 1) k27 rfl
        obtain ⟨z', f', n', np', q2, m2, u2, r1, r2, r3, r4, r5, r6, r7, r8⟩ := ih (n + 1) q' b m' u' (uZ z1 27 (z1 27 - 1)) f1 ⟨e2.z (Or.inl rfl), by rw [uZ_n (by decide)]; exact k29, by rw [uZ_s]; exact e27, s3, by rw [k17]; exact s2⟩
        refine ⟨z', f', n', np', q2, m2, u2, vc273_0 _ _ _ _ _ ?_, r2, by omega, by omega, (((FRa.z (Or.inr rfl)).trans e3.a (Nat.le_refl _)).trans (FRa.z (b := 800 + (i + n)) (Or.inl rfl)) (Nat.le_refl _)).trans r5 (by omega), r6, ?_, ?_⟩
        · refine ⟨fun q => absurd q (by omega), fun _ => ⟨by rw [e29]; exact pin_nI (by omega) (by omega), fun q => absurd (by rw [e29, ix_nI (by omega)]; exact c) q, fun _ => ⟨z1, f1, e1, fun q => absurd rfl q, fun _ => r1⟩⟩⟩
        · rw [r7, uZ_n (by decide)]; exact k15
        · rw [r8, uZ_n (by decide)]; exact k16
      · obtain ⟨z', f', n', np', q2, m2, u2, r1, r2, r3, r4, r5, r6, r7, r8⟩ := ih (n + 1) q' b m' u z1 f1 ⟨e2, k29, k27, s3, by rw [k17]; exact s2⟩
        refine ⟨z', f', n', np', q2, m2, u2, vc273_0 _ _ _ _ _ ?_, r2, by omega, by omega, ((FRa.z (Or.inr rfl)).trans e3.a (Nat.le_refl _)).trans r5 (by omega), r6, ?_, ?_⟩
        · refine ⟨fun q => absurd q (by omega), fun _ => ⟨by rw [e29]; exact pin_nI (by omega) (by omega), fun q => absurd (by rw [e29, ix_nI (by omega)]; exact c) q, fun _ => ⟨z1, f1, e1, fun _ => r1, fun q => absurd q s5⟩⟩⟩
        · rw [r7]; exact k15
        · rw [r8]; exact k16
    · refine ⟨z, f, n, np + 1, q, m, u, vc273_0 _ _ _ _ _ ?_, ⟨hC, h29, h27, hu, hP⟩, Nat.le_refl _, Nat.le_refl _, FRa.refl, Or.inr c, rfl, rfl⟩
      exact ⟨fun q => absurd q (by omega), fun _ => ⟨by rw [e29]; exact pin_nI (by omega) (by omega), fun _ => rfl, fun q => absurd (by rw [e29, ix_nI (by omega)] at q; exact q) c⟩⟩
theorem settles_r (d0 : Nat) {t i n a np q b m u : Nat} {z : Nat → Int32} {f : Nat → FA} (w : Int32) (hw : w = 9 ∨ w = 10 ∨ w = 11) (h : ASt t i n (m + 1) a np q b m u z f) : ∃ z' f' n' np' q' m' u', mcall (d0 + 2) 273 [vR 0, vI w] (LR z f) = some (none, LR z' f') ∧ ASt t i n' (m' + 1) a np' q' b m' u' z' f' ∧ n ≤ n' ∧ q' ≤ q ∧ FRa (800 + (i + n)) z f z' f' ∧ (np' = 0 ∨ ¬ f' 17 (np' - 1) = w) ∧ z' 15 = z 15 ∧ z' 16 = z 16 := by
  obtain ⟨z', f', n', np', q', m', u', h1, h2⟩ := se0 d0 t i a w hw np n q b m u z f h
  exact ⟨z', f', n', np', q', m', u', mcall_i (mq273 (cu := [])).2.2 rfl h1, h2⟩
