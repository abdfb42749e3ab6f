/-! two contracts of one call: both hold of its one end -/
theorem we_ne {s : State} {below : List Frame} {o : Outcome} (hw : Within s below) : ¬ Ended s below o := by
  obtain ⟨ab, h1, h2, h3⟩ := hw
  intro he
  cases o with
  | threw a =>
    have he : s.frames = .throwing a :: below := he
    rw [h1] at he
    exact h3 a (List.append_cancel_right (as := ab) (cs := [.throwing a]) he)
  | returned v =>
    have hl : s.frames.length = below.length := by
      cases below with
      | nil =>
        have he : v = none ∧ s.frames = [] := he
        rw [he.2]
      | cons fr r =>
        cases fr with
        | java g =>
          obtain ⟨c, i, len, -, -, e⟩ := he
          rw [e]
          rfl
        | native g =>
          have he : s.frames = .native { g with awaiting := false, answer := some (.returned v) } :: r := he
          rw [he]
          rfl
        | proc g =>
          have he : s.frames = .proc { g with awaiting := false, answer := some (.returned v) } :: r := he
          rw [he]
          rfl
        | _ =>
          have he : v = none ∧ s.frames = _ := he
          rw [he.2]
    rw [h1, List.length_append] at hl
    cases ab with
    | nil => exact h2 rfl
    | cons _ _ => simp only [List.length_cons] at hl; omega
theorem toL_inj {v w : Option Value} {st : List Value} (h : v.toList ++ st = w.toList ++ st) : v = w := by
  have h := List.append_cancel_right h
  cases v with
  | none => cases w with
    | none => rfl
    | some _ => cases h
  | some a => cases w with
    | none => cases h
    | some b =>
      have h : [a] = [b] := h
      cases h
      rfl
theorem end_inj {s : State} {below : List Frame} {v w : Option Value} (h1 : Ended s below (.returned v)) (h2 : Ended s below (.returned w)) : v = w := by
  cases below with
  | nil =>
    have h1 : v = none ∧ s.frames = [] := h1
    have h2 : w = none ∧ s.frames = [] := h2
    exact h1.1.trans h2.1.symm
  | cons fr r =>
    cases fr with
    | java g =>
      obtain ⟨c, i, len, -, -, e⟩ := h1
      obtain ⟨c', i', len', -, -, e'⟩ := h2
      have q := e.symm.trans e'
      injection q with q _
      injection q with q
      exact toL_inj (congrArg JFrame.stack q)
    | native g =>
      have h1 : s.frames = .native { g with awaiting := false, answer := some (.returned v) } :: r := h1
      have h2 : s.frames = .native { g with awaiting := false, answer := some (.returned w) } :: r := h2
      have q := h1.symm.trans h2
      injection q with q _
      injection q with q
      have q := congrArg NFrame.answer q
      have q : some (Outcome.returned v) = some (Outcome.returned w) := q
      injection q with q
      injection q
    | proc g =>
      have h1 : s.frames = .proc { g with awaiting := false, answer := some (.returned v) } :: r := h1
      have h2 : s.frames = .proc { g with awaiting := false, answer := some (.returned w) } :: r := h2
      have q := h1.symm.trans h2
      injection q with q _
      injection q with q
      have q := congrArg PFrame.answer q
      have q : some (Outcome.returned v) = some (Outcome.returned w) := q
      injection q with q
      injection q
    | _ =>
      have h1 : v = none ∧ s.frames = _ := h1
      have h2 : w = none ∧ s.frames = _ := h2
      exact h1.1.trans h2.1.symm
/-- heaps that say the same of numbers -/
def EQV (h1 h2 : PH) : Prop := (∀ (a N : Nat) (f : Nat → Int32) (N' : Nat) (f' : Nat → Int32), h1[a]? = some (eI N f) → h2[a]? = some (eI N' f') → N = N' ∧ ∀ j, j < N → f j = f' j) ∧ (∀ (a c : Nat) (fs fs' : List PV) (j : Nat) (x x' : Int32) (r : vw_C), h1[a]? = some (eO c fs) → h2[a]? = some (eO c fs') → vwCl[c]? = some r → j < r.2.2 → fs[j]? = some (vI x) → fs'[j]? = some (vI x') → x = x')
theorem vV_get {G : PG} {fs : List PV} {j : Nat} {x : Int32} (h : fs[j]? = some (vI x)) : vp_V (fs.map (pr G)) j = .int x := by
  unfold vp_V
  rw [List.getD_eq_getElem?_getD, List.getElem?_map, h]
  rfl
theorem EQV_of {G : PG} {h1 h2 : PH} {H : Heap} (a1 : va_P G.1 vwCl (pw G h1) H) (a2 : va_P G.1 vwCl (pw G h2) H) : EQV h1 h2 := by
  refine ⟨fun a N f N' f' e1 e2 => ?_, fun a c fs fs' j x x' r e1 e2 hc hj g1 g2 => ?_⟩
  · have q1 : H[G.2.2.1 + a]? = some (arrV (G.2.1 0) N (fun j => .int (f j))) := a1 a _ (pw_get e1)
    have q2 : H[G.2.2.1 + a]? = some (arrV (G.2.1 0) N' (fun j => .int (f' j))) := a2 a _ (pw_get e2)
    have e := Option.some.inj (q1.symm.trans q2)
    have en : N = N' := by
      have := congrArg (fun c : Cell => c.slots.size) e
      rw [arrV_size, arrV_size] at this
      exact this
    subst en
    refine ⟨rfl, fun j hj => ?_⟩
    have r1 := arrV_read (G.2.1 0) (fun j => Value.int (f j)) hj
    have r2 := arrV_read (G.2.1 0) (fun j => Value.int (f' j)) hj
    rw [e, r2] at r1
    have r1 := Option.some.inj r1
    injection r1 with r1
    exact r1.symm
  · obtain ⟨r1, s1, t1⟩ := a1 a _ (pw_get e1)
    obtain ⟨r2, s2, t2⟩ := a2 a _ (pw_get e2)
    have s1 : vwCl[c]? = some r1 := s1
    have s2 : vwCl[c]? = some r2 := s2
    cases Option.some.inj (s1.symm.trans hc)
    cases Option.some.inj (s2.symm.trans hc)
    obtain ⟨c1, k1, -, -, m1⟩ := t1
    obtain ⟨c2, k2, -, -, m2⟩ := t2
    cases Option.some.inj (k1.symm.trans k2)
    have n1 := m1 j hj
    have n2 := m2 j hj
    rw [n1] at n2
    have n2 := Option.some.inj n2
    have v1 : vp_V (fs.map (pr G)) j = .int x := vV_get g1
    have v2 : vp_V (fs'.map (pr G)) j = .int x' := vV_get g2
    have n2 : vp_V (fs.map (pr G)) j = vp_V (fs'.map (pr G)) j := n2
    rw [v1, v2] at n2
    injection n2
theorem PMet_and {l : Launch} {G : PG} {y : MethodName} {bytes : ByteArray} {maxL : Nat} {ret : Option FieldType} {d mc ms : Nat} {av : List PV} {h : PH} {Φ1 Φ2 : Option PV → PH → Prop} (h1 : PMet l G y bytes maxL ret d mc ms av h Φ1) (h2 : PMet l G y bytes maxL ret d mc ms av h Φ2) : PMet l G y bytes maxL ret d mc ms av h (fun r hh => Φ1 r hh ∧ ∃ r2 h2', Φ2 r2 h2' ∧ EQV hh h2' ∧ hh.length = h2'.length ∧ r2.map (pr G) = r.map (pr G)) := by
  intro p e ha hc1 hc2 s m args below hf hp hP hK
  obtain ⟨n1, o1, w1, s1, e1, ⟨⟨q1, f1⟩, L1⟩⟩ := h1 p e ha hc1 hc2 s m args below hf hp hP hK
  obtain ⟨n2, o2, w2, s2, e2, ⟨⟨q2, f2⟩, L2⟩⟩ := h2 p e ha hc1 hc2 s m args below hf hp hP hK
  have hn : n1 = n2 := by
    rcases Nat.lt_trichotomy n1 n2 with q | q | q
    · exact absurd e1 (we_ne (w2 n1 q))
    · exact q
    · exact absurd e2 (we_ne (w1 n2 q))
  subst hn
  obtain ⟨r1, hh1, rfl, p1, z1, a1⟩ := q1
  obtain ⟨r2, hh2, rfl, p2, z2, a2⟩ := q2
  exact ⟨n1, _, w1, s1, e1, ⟨⟨⟨r1, hh1, rfl, ⟨p1, r2, hh2, p2, EQV_of a1 a2, by omega, end_inj e2 e1⟩, z1, a1⟩, f1⟩, L1⟩⟩
