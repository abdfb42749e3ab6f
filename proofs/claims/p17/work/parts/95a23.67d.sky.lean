/-! the class's reader: a line of the sky -/
def pGs (l : List Nat) (g : Nat → Int32) : Prop := (∃ a b c, l = [a, 0, b, c] ∧ g 0 = nI a ∧ g 1 = nI 307 ∧ g 2 = nI c ∧ g 3 = nI b) ∨ (∃ a b c e, l = [a, 1, b, c, e] ∧ c < 12 ∧ e < 12 ∧ g 0 = nI a ∧ g 1 = nI 321 ∧ g 2 = nI b ∧ g 3 = nI c ∧ g 4 = nI e) ∨ (∃ a b c, l = [a, 2, b, c] ∧ c < 3 ∧ g 0 = nI a ∧ g 1 = nI 303 ∧ g 2 = 0 ∧ g 3 = nI b ∧ g 4 = (if c = 1 then 1 else if c = 2 then -1 else 0))
def pGk (l : List Nat) (g : Nat → Int32) : Prop := (∃ b c, l = [0, b, c] ∧ g 1 = nI 307 ∧ g 2 = nI c ∧ g 3 = nI b) ∨ (∃ b c e, l = [1, b, c, e] ∧ c < 12 ∧ e < 12 ∧ g 1 = nI 321 ∧ g 2 = nI b ∧ g 3 = nI c ∧ g 4 = nI e) ∨ (∃ b c, l = [2, b, c] ∧ c < 3 ∧ g 1 = nI 303 ∧ g 2 = 0 ∧ g 3 = nI b ∧ g 4 = (if c = 1 then 1 else if c = 2 then -1 else 0))
/-- the day is read: how a line's rest goes -/
def pLk (d : Nat) (t : FA) (n i : Nat) (C : List TK) (z : Nat → Int32) (f : Nat → FA) (p : PLS) (G : List Nat → (Nat → Int32) → Prop) : Prop := match p with
  | .inl e => pFt (d + 5) 134 [vR 0] z f e ∨ ∃ z1 f1, pcall (d + 5) 134 [vR 0] (LPr z f) = some (some (vI 1), LPr z1 f1) ∧ PLZ z f z1 f1 ∧ pFt (d + 6) 133 [vR 0, vI 59] z1 f1 e
  | .inr (l, r) => ∃ z1 f1 z' f', pcall (d + 5) 134 [vR 0] (LPr z f) = some (some (vI 1), LPr z1 f1) ∧ pcall (d + 6) 133 [vR 0, vI 59] (LPr z1 f1) = some (some (vI 1), LPr z' f') ∧ pcR t n r C z' f' ∧ PLZ z f z' f' ∧ (∀ j, j < 5 * i → f' 2 j = f 2 j) ∧ f' 2 (5 * i) = f 2 (5 * i) ∧ G l (fun w => f' 2 (5 * i + w))
theorem pmind {t : FA} {n i : Nat} {x : TT} {r : List TT} {C : List TK} {z : Nat → Int32} {f : Nat → FA} (d : Nat) (h : pcR t n (x :: r) C z f) (h11 : z 11 = nI i) (hi : i < 16) : ((x.2.1 = 322 ∨ x.2.1 = 323 ∨ x.2.1 = 324) ∧ ∃ z', pcall (d + 3) 125 [vR 0] (LPr z f) = some (some (vI 1), LPr z' (uA f 2 (ptW (f 2) i 4 (if x.2.1 = 322 then 1 else if x.2.1 = 323 then -1 else 0)))) ∧ pcR t n r C z' (uA f 2 (ptW (f 2) i 4 (if x.2.1 = 322 then 1 else if x.2.1 = 323 then -1 else 0))) ∧ PDZ z z' ∧ PLZ z f z' (uA f 2 (ptW (f 2) i 4 (if x.2.1 = 322 then 1 else if x.2.1 = 323 then -1 else 0)))) ∨ (¬ (x.2.1 = 322 ∨ x.2.1 = 323 ∨ x.2.1 = 324) ∧ pFt (d + 3) 125 [vR 0] z f (1, x.1)) := by
  obtain ⟨a1, a2, a3, a4⟩ := pcR_hd2 h
  have wr : ∀ (a : Int32) (z : Nat → Int32) (f : Nat → FA), pcall (d + 2) 138 [vR 0, vI a] (LPr z f) = some (some (vI 0), LPr (uZ (uZ z 7 a) 8 (z 3)) f) := pWrong (d + 1)
  have go : ∀ res, _ → pcall (d + 3) 125 [vR 0] (LPr z f) = some res := fun res H => pcall_i (by decide) (mq125 (cu := [])).2.2 rfl (vcp125_0 (pcall (d + 2)) wr none z f res H)
  have e322 := pcT_eq a2 a4 322 (by decide) (by decide)
  have e323 := pcT_eq a2 a4 323 (by decide) (by decide)
  have e324 := pcT_eq a2 a4 324 (by decide) (by decide)
  have put : ∀ v : Int32, pcall (d + 2) 128 [vR 0, vI 4, vI v] (LPr z f) = some (none, LPr z (uA f 2 (ptW (f 2) i 4 v))) := fun v => pput (d + 1) (z := z) (f := f) (i := i) (w := 4) v h11 hi (by decide)
  have st : ∀ v : Int32, (x.2.1 = 322 ∨ x.2.1 = 323 ∨ x.2.1 = 324) → ∃ z', pcall (d + 2) 135 [vR 0] (LPr z (uA f 2 (ptW (f 2) i 4 v))) = some (none, LPr z' (uA f 2 (ptW (f 2) i 4 v))) ∧ pcR t n r C z' (uA f 2 (ptW (f 2) i 4 v)) ∧ PDZ z z' := fun v q => pstep (pcR_pt (g := ptW (f 2) i 4 v) h) (by omega) d
  by_cases c1 : x.2.1 = 322
  · obtain ⟨z', s1, s2, s3⟩ := st 1 (Or.inl c1)
    rw [if_pos c1]
    exact Or.inl ⟨Or.inl c1, z', go _ ⟨fun _ => ⟨fun _ => ⟨_, _, put 1, _, _, s1, rfl⟩, fun q => by have := e323.mp q; omega⟩, fun q => absurd (e322.mpr c1) q⟩, s2, s3, PLZ.tr PLZ.pt (PKZ.st s3).l⟩
  · have n1 : ¬ z 5 = 322 := fun q => c1 (e322.mp q)
    by_cases c2 : x.2.1 = 323
    · obtain ⟨z', s1, s2, s3⟩ := st (-1) (Or.inr (Or.inl c2))
      rw [if_neg c1, if_pos c2]
      exact Or.inl ⟨Or.inr (Or.inl c2), z', go _ ⟨fun q => absurd q n1, fun _ => ⟨fun _ => ⟨_, _, put (-1), _, _, s1, rfl⟩, fun q => absurd (e323.mpr c2) q⟩⟩, s2, s3, PLZ.tr PLZ.pt (PKZ.st s3).l⟩
    · have n2 : ¬ z 5 = 323 := fun q => c2 (e323.mp q)
      by_cases c3 : x.2.1 = 324
      · obtain ⟨z', s1, s2, s3⟩ := st 0 (Or.inr (Or.inr c3))
        rw [if_neg c1, if_neg c2]
        exact Or.inl ⟨Or.inr (Or.inr c3), z', go _ ⟨fun q => absurd q n1, fun _ => ⟨fun q => absurd q n2, fun _ => ⟨fun _ => ⟨_, _, put 0, _, _, s1, rfl⟩, fun q => absurd (e324.mpr c3) q⟩⟩⟩, s2, s3, PLZ.tr PLZ.pt (PKZ.st s3).l⟩
      · have n3 : ¬ z 5 = 324 := fun q => c3 (e324.mp q)
        exact Or.inr ⟨fun q => q.elim c1 (fun q => q.elim c2 c3), z, f, go _ ⟨fun q => absurd q n1, fun _ => ⟨fun q => absurd q n2, fun _ => ⟨fun q => absurd q n3, fun _ => by rw [a1]; rfl⟩⟩⟩, PLZ.rf⟩
theorem pskyl {t : FA} {n i m : Nat} {ts : List TT} {C : List TK} {z : Nat → Int32} {f : Nat → FA} (d : Nat) (h : pcR t n ts C z f) (h11 : z 11 = nI i) (hi : i < 16) (h9 : z 9 = nI m) (hm : m ≤ 20) : pLk d t n i C z f (pXq m ts) pGk := by
  obtain ⟨y, r, rfl⟩ := pcR_ne h
  have h0 := h
  obtain ⟨a1, a2, a3, a4⟩ := pcR_hd2 h
  have wr : ∀ (a : Int32) (z : Nat → Int32) (f : Nat → FA), pcall (d + 4) 138 [vR 0, vI a] (LPr z f) = some (some (vI 0), LPr (uZ (uZ z 7 a) 8 (z 3)) f) := pWrong (d + 3)
  have put := pput (d + 3) (z := z) (f := f) (i := i) (w := 1) (z 5) h11 hi (by decide)
  have h := pcR_pt (g := ptW (f 2) i 1 (z 5)) h
  have go : ∀ res, _ → pcall (d + 5) 134 [vR 0] (LPr z f) = some res := fun res H => pcall_i (by decide) (mq134 (cu := [])).2.2 rfl (vcp134_0 (pcall (d + 4)) wr z f res ⟨_, _, put, H⟩)
  have e307 := pcT_eq a2 a4 307 (by decide) (by decide)
  have e321 := pcT_eq a2 a4 321 (by decide) (by decide)
  have e303 := pcT_eq a2 a4 303 (by decide) (by decide)
  have p0 := PLZ.pt (z := z) (f := f) (g := ptW (f 2) i 1 (z 5))
  show pLk d t n i C z f (if y.2.1 = 307 then _ else _) _
  by_cases c1 : y.2.1 = 307
  · rw [if_pos c1]
    have q1 := e307.mpr c1
    obtain ⟨z1, s1, s2, s3⟩ := pstep h (by omega) (d + 2)
    have p1 := p0.tr s3.l
    have z111 : z1 11 = nI i := (s3.k 11 (by decide)).trans h11
    have go := fun res H => go res ⟨fun q => absurd q1 q, fun _ => ⟨z1, _, s1, H⟩⟩
    obtain ⟨x1, r, rfl⟩ := pcR_ne s2
    rcases pbnd (d + 1) s2 z111 hi 3 (by decide) 10 9 (by decide) with ⟨e, e1, e2⟩ | ⟨e1, b1, b2, z2, t1, t2, t3⟩
    · rw [pxI_e e1]
      exact Or.inl (e2.pre p1 (fun _ _ hL => go _ ⟨_, _, _, hL, fun _ => rfl, fun q => absurd rfl q⟩))
    obtain ⟨x2, r, rfl⟩ := pcR_ne t2
    rw [pxI_s e1]
    have p2 := p1.tr t3.2
    have go := fun res H => go res ⟨_, _, _, t1, fun q => absurd q one_n, fun _ => H⟩
    rcases psgn (d + 1) t2 318 (by decide) (by decide) (by decide) with ⟨e, e3, e4⟩ | ⟨e3, z3, u1, u2, u3⟩
    · rw [pxI_e e3]
      exact Or.inl (e4.pre p2 (fun _ _ hL => go _ ⟨_, _, _, hL, fun _ => rfl, fun q => absurd rfl q⟩))
    obtain ⟨x3, r, rfl⟩ := pcR_ne u2
    rw [pxI_s e3]
    have p3 := p2.tr u3.2
    have go := fun res H => go res ⟨_, _, _, u1, fun q => absurd q one_n, fun _ => H⟩
    have z311 : z3 11 = nI i := (u3.1.k 11 (by decide)).trans ((t3.1.k 11 (by decide)).trans z111)
    rcases pbnd (d + 1) u2 z311 hi 2 (by decide) 12 11 (by decide) with ⟨e, e5, e6⟩ | ⟨e5, b3, b4, z4, v1, v2, v3⟩
    · rw [pxI_e e5]
      exact Or.inl (e6.pre p3 (fun _ _ hL => go _ ⟨_, _, _, hL, fun _ => rfl, fun q => absurd rfl q⟩))
    obtain ⟨x4, r, rfl⟩ := pcR_ne v2
    rw [pxI_s e5]
    have p4 := p3.tr v3.2
    have full := go _ ⟨_, _, _, v1, fun q => absurd q one_n, fun _ => rfl⟩
    rcases psgn (d + 3) v2 59 (by decide) (by decide) (by decide) with ⟨e, e7, e8⟩ | ⟨e7, z5, w1, w2, w3⟩
    · rw [pxI_e e7]
      exact Or.inr ⟨_, _, full, p4, e8⟩
    rw [pxI_s e7]
    refine ⟨_, _, z5, _, full, w1, w2, p4.tr w3.2, fun j hj => ?_, ?_, Or.inl ⟨x1.2.2, x3.2.2, rfl, ?_, ?_, ?_⟩⟩
    · rw [uA_self, ptW_lo hj, uA_self, ptW_lo hj, uA_self, ptW_lo hj]
    · show uA _ 2 _ 2 (5 * i + 0) = _
      rw [uA_self, ptW_n (by decide), uA_self, ptW_n (by decide), uA_self, ptW_n (by decide)]
      rfl
    · show uA _ 2 _ 2 (5 * i + 1) = _
      rw [uA_self, ptW_n (by decide), uA_self, ptW_n (by decide), uA_self, ptW_s, q1]
    · show uA _ 2 _ 2 (5 * i + 2) = _
      rw [uA_self, ptW_s]
    · show uA _ 2 _ 2 (5 * i + 3) = _
      rw [uA_self, ptW_n (by decide), uA_self, ptW_s]
  · have n1 : ¬ z 5 = 307 := fun q => c1 (e307.mp q)
    rw [if_neg c1]
    by_cases c2 : y.2.1 = 321
    · rw [if_pos c2]
      have q1 := e321.mpr c2
      obtain ⟨z1, s1, s2, s3⟩ := pstep h (by omega) (d + 2)
      have p1 := p0.tr s3.l
      have z111 : z1 11 = nI i := (s3.k 11 (by decide)).trans h11
      have go := fun res H => go res ⟨fun _ => ⟨fun q => absurd q1 q, fun _ => ⟨z1, _, s1, H⟩⟩, fun q => absurd q n1⟩
      obtain ⟨x2, r, rfl⟩ := pcR_ne s2
      rcases psgn (d + 1) s2 318 (by decide) (by decide) (by decide) with ⟨e, e3, e4⟩ | ⟨e3, z2, t1, t2, t3⟩
      · rw [pxI_e e3]
        exact Or.inl (e4.pre p1 (fun _ _ hL => go _ ⟨_, _, _, hL, fun _ => rfl, fun q => absurd rfl q⟩))
      obtain ⟨x3, r, rfl⟩ := pcR_ne t2
      rw [pxI_s e3]
      have p2 := p1.tr t3.2
      have go := fun res H => go res ⟨_, _, _, t1, fun q => absurd q one_n, fun _ => H⟩
      have z211 : z2 11 = nI i := (t3.1.k 11 (by decide)).trans z111
      rcases pbnd (d + 1) t2 z211 hi 2 (by decide) 12 11 (by decide) with ⟨e, e5, e6⟩ | ⟨e5, b3, b4, z3, u1, u2, u3⟩
      · rw [pxI_e e5]
        exact Or.inl (e6.pre p2 (fun _ _ hL => go _ ⟨_, _, _, hL, fun _ => rfl, fun q => absurd rfl q⟩))
      obtain ⟨x4, r, rfl⟩ := pcR_ne u2
      rw [pxI_s e5]
      have p3 := p2.tr u3.2
      have go := fun res H => go res ⟨_, _, _, u1, fun q => absurd q one_n, fun _ => H⟩
      have z311 : z3 11 = nI i := (u3.1.k 11 (by decide)).trans z211
      rcases pbnd (d + 1) u2 z311 hi 3 (by decide) 12 11 (by decide) with ⟨e, e7, e8⟩ | ⟨e7, b5, b6, z4, v1, v2, v3⟩
      · rw [pxI_e e7]
        exact Or.inl (e8.pre p3 (fun _ _ hL => go _ ⟨_, _, _, hL, fun _ => rfl, fun q => absurd rfl q⟩))
      obtain ⟨x5, r, rfl⟩ := pcR_ne v2
      rw [pxI_s e7]
      have p4 := p3.tr v3.2
      have go := fun res H => go res ⟨_, _, _, v1, fun q => absurd q one_n, fun _ => H⟩
      have z411 : z4 11 = nI i := (v3.1.k 11 (by decide)).trans z311
      rcases pbnd (d + 1) v2 z411 hi 4 (by decide) 12 11 (by decide) with ⟨e, e9, e10⟩ | ⟨e9, b7, b8, z5, w1, w2, w3⟩
      · rw [pxI_e e9]
        exact Or.inl (e10.pre p4 (fun _ _ hL => go _ ⟨_, _, _, hL, fun _ => rfl, fun q => absurd rfl q⟩))
      obtain ⟨x6, r, rfl⟩ := pcR_ne w2
      rw [pxI_s e9]
      have p5 := p4.tr w3.2
      have full := go _ ⟨_, _, _, w1, fun q => absurd q one_n, fun _ => rfl⟩
      rcases psgn (d + 3) w2 59 (by decide) (by decide) (by decide) with ⟨e, e11, e12⟩ | ⟨e11, z6, y1, y2, y3⟩
      · rw [pxI_e e11]
        exact Or.inr ⟨_, _, full, p5, e12⟩
      rw [pxI_s e11]
      refine ⟨_, _, z6, _, full, y1, y2, p5.tr y3.2, fun j hj => ?_, ?_, Or.inr (Or.inl ⟨x3.2.2, x4.2.2, x5.2.2, rfl, b5, b7, ?_, ?_, ?_, ?_⟩)⟩
      · rw [uA_self, ptW_lo hj, uA_self, ptW_lo hj, uA_self, ptW_lo hj, uA_self, ptW_lo hj]
      · show uA _ 2 _ 2 (5 * i + 0) = _
        rw [uA_self, ptW_n (by decide), uA_self, ptW_n (by decide), uA_self, ptW_n (by decide), uA_self, ptW_n (by decide)]
        rfl
      · show uA _ 2 _ 2 (5 * i + 1) = _
        rw [uA_self, ptW_n (by decide), uA_self, ptW_n (by decide), uA_self, ptW_n (by decide), uA_self, ptW_s, q1]
      · show uA _ 2 _ 2 (5 * i + 2) = _
        rw [uA_self, ptW_n (by decide), uA_self, ptW_n (by decide), uA_self, ptW_s]
      · show uA _ 2 _ 2 (5 * i + 3) = _
        rw [uA_self, ptW_n (by decide), uA_self, ptW_s]
      · show uA _ 2 _ 2 (5 * i + 4) = _
        rw [uA_self, ptW_s]
    · have n2 : ¬ z 5 = 321 := fun q => c2 (e321.mp q)
      rw [if_neg c2]
      by_cases c3 : y.2.1 = 303
      · rw [if_pos c3]
        have q1 := e303.mpr c3
        obtain ⟨z1, s1, s2, s3⟩ := pstep h (by omega) (d + 2)
        have z111 : z1 11 = nI i := (s3.k 11 (by decide)).trans h11
        have z19 : z1 9 = nI m := (s3.k 9 (by decide)).trans h9
        have put2 := pput (d + 3) (z := z1) (f := uA f 2 (ptW (f 2) i 1 (z 5))) (i := i) (w := 2) 0 z111 hi (by decide)
        rw [uA_self, uA_uA] at put2
        have h2 : pcR t n r C z1 (uA f 2 (ptW (ptW (f 2) i 1 (z 5)) i 2 0)) := by
          have k := pcR_pt (g := ptW (ptW (f 2) i 1 (z 5)) i 2 0) s2
          rw [uA_uA] at k
          exact k
        have p1 : PLZ z f z1 (uA f 2 (ptW (ptW (f 2) i 1 (z 5)) i 2 0)) := (PLZ.pt (f := f)).tr (PDZ.l s3)
        have go := fun res H => go res ⟨fun _ => ⟨fun _ => ⟨fun q => absurd q1 q, fun _ => ⟨z1, _, s1, z1, _, put2, H⟩⟩, fun q => absurd q n2⟩, fun q => absurd q n1⟩
        have im : I (z1 9 - 1) = (m : Int) - 1 := by
          rw [z19]
          cases m with
          | zero => decide
          | succ m => rw [show nI (m + 1) - 1 = nI m from nI_sub (a := m + 1) (b := 1) (by omega), I_nI (by omega)]; omega
        obtain ⟨x2, r, rfl⟩ := pcR_ne h2
        rcases pbnd (d + 1) h2 z111 hi 3 (by decide) m (z1 9 - 1) im with ⟨e, e1, e2⟩ | ⟨e1, b1, b2, z2, t1, t2, t3⟩
        · rw [pxI_e e1]
          exact Or.inl (e2.pre p1 (fun _ _ hL => go _ ⟨_, _, _, hL, fun _ => rfl, fun q => absurd rfl q⟩))
        obtain ⟨x3, r, rfl⟩ := pcR_ne t2
        rw [pxI_s e1, show pxI [] (x3 :: r) = .inr ([], x3 :: r) from rfl]
        have p2 := p1.tr t3.2
        have go := fun res H => go res ⟨_, _, _, t1, fun q => absurd q one_n, fun _ => H⟩
        have z211 : z2 11 = nI i := (t3.1.k 11 (by decide)).trans z111
        show pLk d t n i C z f (pJ [2] (pJ [x2.2.2] (pXm (x3 :: r)))) _
        rcases pmind (d + 1) t2 z211 hi with ⟨e3, z3, u1, u2, u3⟩ | ⟨e3, e4⟩
        · have full := go _ ⟨_, _, _, u1, fun q => absurd q one_n, fun _ => rfl⟩
          obtain ⟨x4, r, rfl⟩ := pcR_ne u2
          have p3 := p2.tr u3.2
          have hX : pXm (x3 :: x4 :: r) = pJ [if x3.2.1 = 322 then 1 else if x3.2.1 = 323 then 2 else 0] (pxI [(0, 59)] (x4 :: r)) := by
            show (if x3.2.1 = 322 then pJ [1] (pxI [(0, 59)] (x4 :: r)) else if x3.2.1 = 323 then pJ [2] (pxI [(0, 59)] (x4 :: r)) else if x3.2.1 = 324 then pJ [0] (pxI [(0, 59)] (x4 :: r)) else .inl (1, x3.1)) = _
            by_cases g1 : x3.2.1 = 322
            · rw [if_pos g1, if_pos g1]
            · rw [if_neg g1, if_neg g1]
              by_cases g2 : x3.2.1 = 323
              · rw [if_pos g2, if_pos g2]
              · rw [if_neg g2, if_neg g2, if_pos (by omega)]
          rw [hX]
          rcases psgn (d + 3) u2 59 (by decide) (by decide) (by decide) with ⟨e, e11, e12⟩ | ⟨e11, z6, y1, y2, y3⟩
          · rw [pxI_e e11]
            exact Or.inr ⟨_, _, full, p3, e12⟩
          rw [pxI_s e11]
          refine ⟨_, _, z6, _, full, y1, y2, p3.tr y3.2, fun j hj => ?_, ?_, Or.inr (Or.inr ⟨x2.2.2, _, rfl, ?_, ?_, ?_, ?_, ?_⟩)⟩
          · rw [uA_self, ptW_lo hj, uA_self, ptW_lo hj, uA_self, ptW_lo hj, ptW_lo hj]
          · show uA _ 2 _ 2 (5 * i + 0) = _
            rw [uA_self, ptW_n (by decide), uA_self, ptW_n (by decide), uA_self, ptW_n (by decide), ptW_n (by decide)]
            rfl
          · by_cases g1 : x3.2.1 = 322
            · rw [if_pos g1]; decide
            · rw [if_neg g1]
              by_cases g2 : x3.2.1 = 323
              · rw [if_pos g2]; decide
              · rw [if_neg g2]; decide
          · show uA _ 2 _ 2 (5 * i + 1) = _
            rw [uA_self, ptW_n (by decide), uA_self, ptW_n (by decide), uA_self, ptW_n (by decide), ptW_s, q1]
          · show uA _ 2 _ 2 (5 * i + 2) = _
            rw [uA_self, ptW_n (by decide), uA_self, ptW_n (by decide), uA_self, ptW_s]
          · show uA _ 2 _ 2 (5 * i + 3) = _
            rw [uA_self, ptW_n (by decide), uA_self, ptW_s]
          · show uA _ 2 _ 2 (5 * i + 4) = _
            rw [uA_self, ptW_s]
            by_cases g1 : x3.2.1 = 322
            · rw [if_pos g1, if_pos g1]; rfl
            · rw [if_neg g1, if_neg g1]
              by_cases g2 : x3.2.1 = 323
              · rw [if_pos g2, if_pos g2]; rfl
              · rw [if_neg g2, if_neg g2]; rfl
        · have hX : pXm (x3 :: r) = .inl (1, x3.1) := by
            show (if x3.2.1 = 322 then pJ [1] (pxI [(0, 59)] r) else if x3.2.1 = 323 then pJ [2] (pxI [(0, 59)] r) else if x3.2.1 = 324 then pJ [0] (pxI [(0, 59)] r) else .inl (1, x3.1)) = _
            rw [if_neg (fun q => e3 (Or.inl q)), if_neg (fun q => e3 (Or.inr (Or.inl q))), if_neg (fun q => e3 (Or.inr (Or.inr q)))]
          rw [hX]
          exact Or.inl (e4.pre p2 (fun _ _ hL => go _ ⟨_, _, _, hL, fun _ => rfl, fun q => absurd rfl q⟩))
      · have n3 : ¬ z 5 = 303 := fun q => c3 (e303.mp q)
        rw [if_neg c3]
        exact Or.inl ⟨z, _, go _ ⟨fun _ => ⟨fun _ => ⟨fun _ => by rw [a1]; rfl, fun q => absurd q n3⟩, fun q => absurd q n2⟩, fun q => absurd q n1⟩, p0⟩
theorem psky {t : FA} {n i m : Nat} {ts : List TT} {C : List TK} {z : Nat → Int32} {f : Nat → FA} (d : Nat) (h : pcR t n ts C z f) (h11 : z 11 = nI i) (hi : i < 16) (h9 : z 9 = nI m) (hm : m ≤ 20) : pLn d 2 t n i C z f (pXs m ts) pGs := by
  obtain ⟨x, r, rfl⟩ := pcR_ne h
  have wr : ∀ (a : Int32) (z : Nat → Int32) (f : Nat → FA), pcall (d + 5) 138 [vR 0, vI a] (LPr z f) = some (some (vI 0), LPr (uZ (uZ z 7 a) 8 (z 3)) f) := pWrong (d + 4)
  have go : ∀ res, _ → pcall (d + 6) 127 [vR 0, vI (nI 2)] (LPr z f) = some res := fun res H => pcall_i (by decide) (mq127 (cu := [])).2.2 rfl (vcp127_0 (pcall (d + 5)) wr (nI 2) none z f res ⟨fun q => absurd rfl q, fun _ => H⟩)
  unfold pXs
  rcases pbnd (d + 2) h h11 hi 0 (by decide) 1000 999 (by decide) with ⟨e, e1, e2⟩ | ⟨e1, b1, b2, z1, s1, s2, s3⟩
  · rw [pxI_e e1]
    exact Or.inl (e2.pre PLZ.rf (fun _ _ hL => go _ ⟨_, _, _, hL, fun _ => rfl, fun q => absurd rfl q⟩))
  obtain ⟨y, r, rfl⟩ := pcR_ne s2
  rw [pxI_s e1, show pxI [] (y :: r) = .inr ([], y :: r) from rfl]
  have p1 := s3.2
  have go := fun res H => go res ⟨_, _, _, s1, fun q => absurd q one_n, fun _ => H⟩
  have k := pskyl d s2 ((s3.1.k 11 (by decide)).trans h11) hi ((s3.1.k 9 (by decide)).trans h9) hm
  show pLn d 2 t n i C z f (pJ [x.2.2] (pXq m (y :: r))) pGs
  cases hq : pXq m (y :: r) with
  | inl e =>
    rw [hq] at k
    rcases k with k | ⟨z2, f2, k1, k2, k3⟩
    · exact Or.inl (k.pre p1 (fun _ _ hL => go _ ⟨_, _, _, hL, fun _ => rfl, fun q => absurd rfl q⟩))
    · exact Or.inr ⟨z2, f2, go _ ⟨_, _, _, k1, fun q => absurd q one_n, fun _ => rfl⟩, p1.tr k2, k3⟩
  | inr p =>
    obtain ⟨l, r'⟩ := p
    rw [hq] at k
    obtain ⟨z2, f2, z', f', k1, k2, k3, k4, k5, k6, k7⟩ := k
    rw [uA_self] at k5 k6
    have g0 : f' 2 (5 * i + 0) = nI x.2.2 := k6.trans ptW_s
    refine ⟨z2, f2, z', f', go _ ⟨_, _, _, k1, fun q => absurd q one_n, fun _ => rfl⟩, k2, k3, p1.tr k4, fun j hj => (k5 j hj).trans (ptW_lo hj), ?_⟩
    rcases k7 with ⟨b, c, h1, h3, h4, h5⟩ | ⟨b, c, e, h1, h2, h3, h5, h6, h7, h8⟩ | ⟨b, c, h1, h2, h4, h5, h6, h7⟩
    · exact Or.inl ⟨x.2.2, b, c, by rw [h1]; rfl, g0, h3, h4, h5⟩
    · exact Or.inr (Or.inl ⟨x.2.2, b, c, e, by rw [h1]; rfl, h2, h3, g0, h5, h6, h7, h8⟩)
    · exact Or.inr (Or.inr ⟨x.2.2, b, c, by rw [h1]; rfl, h2, g0, h4, h5, h6, h7⟩)
