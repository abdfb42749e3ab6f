/-! of one end, told in two ways: what the checker tells of the one heap holds of the other -/
def SHv (a b : PV) : Prop := match a, b with
  | .inl _, .inl _ => True
  | .inr r, .inr s => r = s
  | _, _ => False
def SHP (x0 x : PE) : Prop := match x0, x with
  | .inl (.inl a), .inl (.inl b) => a.1 = b.1 ∧ a.2.1 = b.2.1
  | .inl (.inr a), .inl (.inr b) => a = b
  | .inr a, .inr b => a.1 = b.1 ∧ R2 SHv a.2 b.2
  | _, _ => False
theorem SHv.rf (a : PV) : SHv a a := by
  match a with
  | .inl _ => exact trivial
  | .inr _ => exact rfl
theorem R2.rf {α : Type} {r : α → α → Prop} (hr : ∀ a, r a a) : ∀ l : List α, R2 r l l := by
  intro l
  induction l with
  | nil => exact trivial
  | cons a l ih => exact ⟨hr a, ih⟩
theorem SHP.rf (x : PE) : SHP x x := by
  match x with
  | .inl (.inl _) => exact ⟨rfl, rfl⟩
  | .inl (.inr _) => exact rfl
  | .inr _ => exact ⟨rfl, R2.rf SHv.rf _⟩
theorem R2.at {α β : Type} {r : α → β → Prop} {l : List α} {m : List β} {j : Nat} {a : α} {b : β} (h : R2 r l m) (ha : l[j]? = some a) (hb : m[j]? = some b) : r a b := by
  obtain ⟨b', h1, h2⟩ := h.get ((nth_eq l j).trans ha)
  rw [hb] at h1
  cases h1
  exact h2
theorem R2.mix {α β : Type} {r : α → β → Prop} {s : β → β → Prop} : ∀ (fs : List α) (m0 m1 m : List β), R2 r fs m0 → R2 r fs m1 → R2 s m0 m → (∀ (j : Nat) (v : α) (b0 b1 b : β), fs[j]? = some v → m0[j]? = some b0 → m1[j]? = some b1 → m[j]? = some b → r v b0 → r v b1 → s b0 b → r v b) → R2 r fs m := by
  intro fs
  induction fs with
  | nil =>
    intro m0 m1 m h0 h1 hs _
    cases m0 with
    | cons _ _ => cases h0
    | nil =>
      cases m with
      | cons _ _ => cases hs
      | nil => exact trivial
  | cons v fs ih =>
    intro m0 m1 m h0 h1 hs hj
    cases m0 with
    | nil => cases h0
    | cons b0 m0 =>
      cases m1 with
      | nil => cases h1
      | cons b1 m1 =>
        cases m with
        | nil => cases hs
        | cons b m => exact ⟨hj 0 v b0 b1 b rfl rfl rfl rfl h0.1 h1.1 hs.1, ih m0 m1 m h0.2 h1.2 hs.2 (fun j v' c0 c1 c e0 e1 e2 e3 => hj (j + 1) v' c0 c1 c (by rw [List.getElem?_cons_succ]; exact e0) (by rw [List.getElem?_cons_succ]; exact e1) (by rw [List.getElem?_cons_succ]; exact e2) (by rw [List.getElem?_cons_succ]; exact e3))⟩
def obsg : Nat → List (Nat × Nat × Nat) → Bool
  | _, [] => true
  | N, s :: t => (Nat.ble s.1 N || (Nat.beq s.2.1 0 && Nat.beq s.2.2 4294967295)) && obsg (N - s.1) t
theorem SegOK_eqv : ∀ (sg : List (Nat × Nat × Nat)) (N : Nat) (f g : Nat → Int32), obsg N sg = true → (∀ j, j < N → f j = g j) → SegOK sg g → SegOK sg f := by
  intro sg
  induction sg with
  | nil => intro N f g _ _ _; exact trivial
  | cons s t ih =>
    intro N f g hb hfg hg
    have hb : ((Nat.ble s.1 N || (Nat.beq s.2.1 0 && Nat.beq s.2.2 4294967295)) && obsg (N - s.1) t) = true := hb
    rw [Bool.and_eq_true, Bool.or_eq_true, Bool.and_eq_true] at hb
    obtain ⟨hb1, hb2⟩ := hb
    obtain ⟨g1, g2⟩ := hg
    refine ⟨fun j hj => ?_, ih (N - s.1) (fun j => f (s.1 + j)) (fun j => g (s.1 + j)) hb2 (fun j hj => hfg _ (by omega)) g2⟩
    rcases hb1 with h | ⟨h1, h2⟩
    · have := Nat.le_of_ble_eq_true h
      rw [hfg j (by omega)]
      exact g1 j hj
    · rw [Nat.eq_of_beq_eq_true h1, Nat.eq_of_beq_eq_true h2]
      exact inb_top _
theorem LK.eqv {f g : Nat → Int32} (h : ∀ j, j < 355 → f j = g j) (hg : LK g) : LK f := fun c hc h0 => by
  rw [h _ (by omega)] at h0 ⊢
  exact hg c hc h0
def okP2 (p N : Nat) : Bool := Nat.beq p 0 || ((Nat.beq p 1 && Nat.ble 355 N) || (Nat.beq p 2 && Nat.ble 2850 N))
theorem PRD_eqv {p N : Nat} {f g : Nat → Int32} (hp : okP2 p N = true) (h : ∀ j, j < N → f j = g j) (hg : PRD [] p g) : PRD [] p f := by
  unfold okP2 at hp
  rw [Bool.or_eq_true, Bool.or_eq_true, Bool.and_eq_true, Bool.and_eq_true] at hp
  rcases hp with h0 | ⟨h1, h2⟩ | ⟨h1, h2⟩
  · rw [Nat.eq_of_beq_eq_true h0]
    exact PRD_0
  · have e := Nat.eq_of_beq_eq_true h1
    have := Nat.le_of_ble_eq_true h2
    subst e
    have hg : LK g := hg
    show LK f
    exact hg.eqv (fun j hj => h j (by omega))
  · have e := Nat.eq_of_beq_eq_true h1
    have := Nat.le_of_ble_eq_true h2
    subst e
    have hg : ∀ j, j < 6 → LK (fun i => g (499 * j + i)) := hg
    show ∀ j, j < 6 → LK (fun i => f (499 * j + i))
    exact fun j hj => (hg j hj).eqv (fun i hi => h _ (by omega))
def okAC (c : AC) : Bool := match c with
  | .inl (.inl (.inl k, p, sg)) => Nat.ble 2147483648 k && (Nat.blt k 4294967296 && (obsg (k - 2147483648) sg && okP2 p (k - 2147483648)))
  | .inl (.inl (.inr _, p, sg)) => obsg 0 sg && okP2 p 0
  | .inl (.inr _) => true
  | .inr (q, fs) => match vwCl[q]? with
    | some r => Nat.ble fs.length r.2.2
    | none => false
theorem vI_of {lam : Nat → Nat} {v : AV} {y : Int32} {b : PV} (h0 : vRel lam [] v (vI y)) (h1 : vRel lam [] v b) : ∃ y', b = vI y' := by
  match v with
  | .inl c => obtain ⟨z, _, h2⟩ := h1; exact ⟨z, h2⟩
  | .inr (.inl o) => cases h0
  | .inr (.inr (.inl j)) => cases h0
  | .inr (.inr (.inr b')) => obtain ⟨z, h2, _⟩ := h1; exact ⟨z, h2⟩
/-- of the heap h1 it is told by the checker; hh is the same, and shaped as h0, of which it was told before -/
theorem HOK_eqv {lam : Nat → Nat} {T : List AC} {h0 h1 hh : PH} (hT : ∀ k c, nth T k = some c → okAC c = true) (H0 : HOK lam [] T h0) (H1 : HOK lam [] T h1) (hE : EQV hh h1) (hS : ∀ (a : Nat) (x0 : PE), h0[a]? = some x0 → ∃ x, hh[a]? = some x ∧ SHP x0 x) : HOK lam [] T hh := by
  intro k c hc
  obtain ⟨x0, a0, c0⟩ := H0 k c hc
  obtain ⟨x1, a1, c1⟩ := H1 k c hc
  obtain ⟨x, a, s⟩ := hS _ _ a0
  refine ⟨x, a, ?_⟩
  have ok := hT k c hc
  match c, c0, c1, ok with
  | .inl (.inl (ln, p, sg)), c0, c1, ok =>
    obtain ⟨N0, f0, rfl, b1, b2, b3, b4⟩ := c0
    obtain ⟨N1, f1, rfl, d1, d2, d3, d4⟩ := c1
    match x, s, a with
    | .inl (.inl (t, N, f)), s, a =>
      obtain ⟨s1, s2⟩ := s
      have s1 : 0 = t := s1
      have s2 : N0 = N := s2
      subst s1 s2
      obtain ⟨e1, e2⟩ := hE.1 _ _ _ _ _ a a1
      subst e1
      have key : obsg N0 sg = true ∧ okP2 p N0 = true ∨ obsg 0 sg = true ∧ okP2 p 0 = true := by
        match ln, d2, ok with
        | .inl k', d2, ok =>
          have ok : (Nat.ble 2147483648 k' && (Nat.blt k' 4294967296 && (obsg (k' - 2147483648) sg && okP2 p (k' - 2147483648)))) = true := ok
          rw [Bool.and_eq_true, Bool.and_eq_true, Bool.and_eq_true] at ok
          obtain ⟨o1, o2, o3, o4⟩ := ok
          have o1 := Nat.le_of_ble_eq_true o1
          have o2 := Nat.blt_eq.mp o2
          have e : N0 = k' - 2147483648 := len_of (lam := lam) (by omega) d1 (by rw [show 2147483648 + (k' - 2147483648) = k' by omega]; exact d2)
          rw [e]
          exact Or.inl ⟨o3, o4⟩
        | .inr q, d2, ok =>
          have ok : (obsg 0 sg && okP2 p 0) = true := ok
          rw [Bool.and_eq_true] at ok
          exact Or.inr ok
      rcases key with ⟨k1, k2⟩ | ⟨k1, k2⟩
      · exact ⟨N0, f, rfl, d1, d2, SegOK_eqv _ N0 _ _ k1 e2 d3, PRD_eqv k2 e2 d4⟩
      · exact ⟨N0, f, rfl, d1, d2, SegOK_eqv _ 0 _ _ k1 (fun j hj => by omega) d3, PRD_eqv k2 (fun j hj => by omega) d4⟩
    | .inl (.inr _), s, _ => exact s.elim
    | .inr _, s, _ => exact s.elim
  | .inl (.inr (q, rs)), c0, c1, ok =>
    obtain ⟨f0, rfl, b1⟩ := c0
    match x, s with
    | .inl (.inl _), s => exact s.elim
    | .inl (.inr y), s =>
      have s : (q, rs.length, f0) = y := s
      subst s
      exact ⟨f0, rfl, b1⟩
    | .inr _, s => exact s.elim
  | .inr (q, fs), c0, c1, ok =>
    obtain ⟨xs0, rfl, b1⟩ := c0
    obtain ⟨xs1, rfl, d1⟩ := c1
    match x, s, a with
    | .inl (.inl _), s, _ => exact s.elim
    | .inl (.inr _), s, _ => exact s.elim
    | .inr (q', xs), s, a =>
      obtain ⟨s1, s2⟩ := s
      have s1 : q = q' := s1
      subst s1
      have s2 : R2 SHv xs0 xs := s2
      refine ⟨xs, rfl, R2.mix fs xs0 xs1 xs b1 d1 s2 (fun j v y0 y1 y e e0 e1 e2 r0 r1 sy => ?_)⟩
      have ok : (match vwCl[q]? with
        | some r => Nat.ble fs.length r.2.2
        | none => false) = true := ok
      match hq : vwCl[q]?, ok with
      | some r, ok =>
        have ok := Nat.le_of_ble_eq_true ok
        have hj : j < fs.length := (List.getElem?_eq_some_iff.mp e).1
        match y0, y, sy, r0, e0, e2 with
        | .inl w0, .inl w, sy, r0, e0, e2 =>
          obtain ⟨w1, rfl⟩ := vI_of r0 r1
          have ew : w = w1 := hE.2 _ _ _ _ j _ _ r a a1 hq (by omega) e2 e1
          rw [ew]
          exact r1
        | .inr _, .inr _, sy, r0, e0, e2 =>
          have sy : _ = _ := sy
          subst sy
          exact r0
        | .inl _, .inr _, sy, _, _, _ => exact sy.elim
        | .inr _, .inl _, sy, _, _, _ => exact sy.elim
      | none, ok => cases ok
/-- two exact heaps over the same places -/
def SHQ (x0 x : QE FA) : Prop := ∀ lb : Nat → Nat, SHP (se rdF lb x0) (se rdF lb x)
theorem SHQ.rf (x : QE FA) : SHQ x x := fun lb => SHP.rf _
theorem Rep_sh {H h h' : PH} {lb : Nat → Nat} {N : Nat} {L L' : QH FA} (hR : Rep rdF H lb N L h) (hR' : Rep rdF h lb N L' h') (hL : R2 SHQ L L') : ∀ (a : Nat) (x0 : PE), h[a]? = some x0 → ∃ x, h'[a]? = some x ∧ SHP x0 x := by
  intro a x0 hx
  by_cases c : ∃ k, k < N ∧ a = lb k
  · obtain ⟨k, hk, rfl⟩ := c
    obtain ⟨y0, g0⟩ : ∃ y0, L[k]? = some y0 := ⟨_, List.getElem?_eq_getElem (by rw [hR.1]; exact hk)⟩
    obtain ⟨y, g⟩ : ∃ y, L'[k]? = some y := ⟨_, List.getElem?_eq_getElem (by rw [hR'.1]; exact hk)⟩
    have q0 := hR.2.1 k y0 g0
    rw [hx] at q0
    cases q0
    exact ⟨_, hR'.2.1 k y g, (R2.at hL g0 g) lb⟩
  · refine ⟨x0, ?_, SHP.rf x0⟩
    rw [hR'.2.2.2 a (fun k hk e => c ⟨k, hk, e⟩)]
    exact hx
theorem LW_sh (W : TXW) (z z' : Nat → Int32) (f f' : Nat → FA) : R2 SHQ (LW W z f) (LW W z' f') := ⟨(fun _ => ⟨rfl, rfl, rfl, trivial, rfl, rfl, rfl, rfl, rfl, rfl, rfl, rfl, trivial⟩), (fun _ => ⟨rfl, rfl, rfl, rfl, rfl, trivial⟩), (fun _ => ⟨rfl, rfl, rfl, trivial, trivial, trivial, trivial, trivial, trivial, trivial, trivial, trivial⟩), (fun _ => ⟨rfl, rfl⟩), (fun _ => ⟨rfl, rfl⟩), (fun _ => ⟨rfl, rfl, trivial⟩), (fun _ => ⟨rfl, rfl⟩), (fun _ => rfl), (fun _ => ⟨rfl, rfl, rfl, rfl, rfl, rfl, rfl, trivial⟩), (fun _ => ⟨rfl, rfl⟩), (fun _ => ⟨rfl, rfl⟩), (fun _ => ⟨rfl, rfl⟩), (fun _ => ⟨rfl, rfl, trivial, trivial, trivial⟩), (fun _ => rfl), (fun _ => ⟨rfl, rfl, rfl, trivial, trivial, trivial, trivial, trivial, trivial, trivial, trivial, trivial⟩), (fun _ => ⟨rfl, rfl⟩), (fun _ => ⟨rfl, rfl⟩), (fun _ => ⟨rfl, rfl, rfl, trivial, trivial, trivial, trivial, trivial, trivial, trivial, trivial, trivial⟩), (fun _ => ⟨rfl, rfl⟩), (fun _ => ⟨rfl, rfl⟩), (fun _ => ⟨rfl, rfl, rfl, trivial, trivial, trivial, trivial, trivial, trivial, trivial, trivial, trivial⟩), (fun _ => ⟨rfl, rfl⟩), (fun _ => ⟨rfl, rfl⟩), (fun _ => ⟨rfl, rfl, rfl, trivial, trivial, trivial, trivial, trivial, trivial, trivial, trivial, trivial⟩), (fun _ => ⟨rfl, rfl⟩), (fun _ => ⟨rfl, rfl⟩), (fun _ => ⟨rfl, rfl, rfl, trivial, trivial, trivial, trivial, trivial, trivial, trivial, trivial, trivial⟩), (fun _ => ⟨rfl, rfl⟩), (fun _ => ⟨rfl, rfl⟩), (fun _ => ⟨rfl, rfl, rfl, trivial, trivial, trivial, trivial, trivial, trivial, trivial, trivial, trivial⟩), (fun _ => ⟨rfl, rfl⟩), (fun _ => ⟨rfl, rfl⟩), (fun _ => ⟨rfl, rfl, rfl, trivial, trivial, trivial, trivial, trivial, trivial, trivial, trivial, trivial⟩), (fun _ => ⟨rfl, rfl⟩), (fun _ => ⟨rfl, rfl⟩), (fun _ => ⟨rfl, rfl, rfl, rfl, rfl, rfl, rfl, trivial⟩), (fun _ => ⟨rfl, rfl⟩), (fun _ => ⟨rfl, rfl⟩), (fun _ => ⟨rfl, rfl⟩), (fun _ => ⟨rfl, rfl, rfl, trivial, trivial, trivial⟩), (fun _ => ⟨rfl, rfl⟩), (fun _ => ⟨rfl, rfl⟩), R2.rf SHQ.rf _⟩
theorem LR_sh (z z' : Nat → Int32) (f f' : Nat → FA) : R2 SHQ (LR z f) (LR z' f') := ⟨(fun _ => ⟨rfl, trivial, rfl, rfl, trivial, rfl, trivial, trivial, rfl, rfl, rfl, rfl, rfl, trivial, trivial, trivial, trivial, trivial, rfl, rfl, rfl, rfl, rfl, rfl, rfl, rfl, trivial, trivial, trivial, rfl, trivial, trivial, trivial, trivial, trivial, trivial, rfl, trivial, rfl, trivial, rfl, rfl, rfl, rfl, trivial, rfl, rfl, trivial, rfl, rfl, rfl, trivial, rfl, trivial, rfl, trivial, rfl, rfl, trivial, rfl, rfl, rfl, trivial, rfl, trivial, rfl, trivial, rfl, rfl, rfl, rfl, trivial, trivial, trivial, trivial, trivial, rfl, trivial⟩), (fun _ => ⟨rfl, rfl⟩), (fun _ => ⟨rfl, rfl⟩), (fun _ => ⟨rfl, rfl⟩), (fun _ => ⟨rfl, rfl⟩), (fun _ => ⟨rfl, rfl⟩), (fun _ => ⟨rfl, rfl⟩), (fun _ => ⟨rfl, rfl⟩), (fun _ => ⟨rfl, rfl⟩), (fun _ => ⟨rfl, rfl⟩), (fun _ => ⟨rfl, rfl⟩), (fun _ => ⟨rfl, rfl⟩), (fun _ => ⟨rfl, rfl⟩), (fun _ => ⟨rfl, rfl⟩), (fun _ => ⟨rfl, rfl⟩), (fun _ => ⟨rfl, rfl⟩), (fun _ => ⟨rfl, rfl⟩), (fun _ => ⟨rfl, rfl⟩), (fun _ => ⟨rfl, rfl⟩), (fun _ => ⟨rfl, rfl⟩), (fun _ => ⟨rfl, rfl⟩), (fun _ => ⟨rfl, rfl⟩), (fun _ => ⟨rfl, rfl⟩), (fun _ => ⟨rfl, rfl⟩), (fun _ => ⟨rfl, rfl⟩), (fun _ => ⟨rfl, rfl⟩), (fun _ => ⟨rfl, rfl⟩), (fun _ => ⟨rfl, rfl⟩), (fun _ => ⟨rfl, rfl⟩), (fun _ => ⟨rfl, rfl⟩), (fun _ => ⟨rfl, rfl⟩), (fun _ => ⟨rfl, rfl⟩), (fun _ => ⟨rfl, rfl⟩), (fun _ => ⟨rfl, rfl⟩), (fun _ => ⟨rfl, rfl⟩), (fun _ => ⟨rfl, rfl⟩), (fun _ => ⟨rfl, rfl⟩), (fun _ => ⟨rfl, rfl⟩), (fun _ => ⟨rfl, rfl⟩), (fun _ => ⟨rfl, rfl⟩), (fun _ => ⟨rfl, rfl⟩), (fun _ => ⟨rfl, rfl⟩), (fun _ => ⟨rfl, rfl⟩), trivial⟩
theorem okT_of {T : List AC} (h : T.all okAC = true) : ∀ k c, nth T k = some c → okAC c = true := fun k c hc => List.all_eq_true.mp h c (List.mem_of_getElem? ((nth_eq T k).symm.trans hc))
set_option maxRecDepth 100000 in
theorem okT_r : TRf.all okAC = true := by decide +kernel
set_option maxRecDepth 100000 in
theorem okT_c0 : (TBc 0).all okAC = true := by decide +kernel
set_option maxRecDepth 100000 in
theorem okT_c1 : (TBc 1).all okAC = true := by decide +kernel
