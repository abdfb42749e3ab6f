/-! the class's reader: lines of the other texts -/
/-- a fault that is told in a call -/
def pFt (d k : Nat) (As : List PV) (z : Nat → Int32) (f : Nat → FA) (e : Nat × Nat) : Prop := ∃ z' f', pcall d k As (LPr z f) = some (some (vI 0), LPr (uZ (uZ z' 7 (nI e.1)) 8 (nI e.2)) f') ∧ PLZ z f z' f'
theorem psgn {t : FA} {n : Nat} {x : TT} {r : List TT} {C : List TK} {z : Nat → Int32} {f : Nat → FA} (d : Nat) (h : pcR t n (x :: r) C z f) (c : Nat) (hc : c < 326) (h3 : c ≠ 3 ∧ c ≠ 44 ∧ c ≠ 46 ∧ c ≠ 58) (h2 : c ≠ 2) : (∃ e, pIt 0 c x = .inl e ∧ pFt (d + 3) 133 [vR 0, vI (nI c)] z f e) ∨ (pIt 0 c x = .inr [] ∧ ∃ z', pcall (d + 3) 133 [vR 0, vI (nI c)] (LPr z f) = some (some (vI 1), LPr z' f) ∧ pcR t n r C z' f ∧ PDZ z z' ∧ PLZ z f z' f) := by
  obtain ⟨a1, a2, a3, a4⟩ := pcR_hd2 h
  have w : ∀ (a : Int32) (z : Nat → Int32) (f : Nat → FA), pcall (d + 2) 138 [vR 0, vI a] (LPr z f) = some (some (vI 0), LPr (uZ (uZ z 7 a) 8 (z 3)) f) := pWrong (d + 1)
  have tc := pcT_eq a2 a4 c hc h3
  have go : ∀ res, _ → pcall (d + 3) 133 [vR 0, vI (nI c)] (LPr z f) = some res := fun res H => pcall_i (by decide) (mq133 (cu := [])).2.2 rfl (vcp133_0 (pcall (d + 2)) w (nI c) z f res H)
  by_cases c1 : x.2.1 = c
  · obtain ⟨z', s1, s2, s3⟩ := pstep h (by omega) d
    exact Or.inr ⟨pIt_0 c1, z', go _ ⟨fun _ => ⟨z', f, s1, rfl⟩, fun q => absurd (tc.mpr c1) q⟩, s2, s3, (PKZ.st s3).l⟩
  · exact Or.inl ⟨(1, x.1), pIt_0e c1, z, f, go _ ⟨fun q => absurd (tc.mp q) c1, fun _ => by rw [a1]; rfl⟩, PLZ.rf⟩
theorem pbnd {t : FA} {n i : Nat} {x : TT} {r : List TT} {C : List TK} {z : Nat → Int32} {f : Nat → FA} (d : Nat) (h : pcR t n (x :: r) C z f) (h11 : z 11 = nI i) (hi : i < 16) (w : Nat) (hw : w < 5) (c : Nat) (y : Int32) (hy : I y = (c : Int) - 1) : (∃ e, pIt 1 c x = .inl e ∧ pFt (d + 3) 119 [vR 0, vI (nI w), vI y] z f e) ∨ (pIt 1 c x = .inr [x.2.2] ∧ x.2.2 < c ∧ x.2.1 = 1 ∧ ∃ z', pcall (d + 3) 119 [vR 0, vI (nI w), vI y] (LPr z f) = some (some (vI 1), LPr z' (uA f 2 (ptW (f 2) i w (nI x.2.2)))) ∧ pcR t n r C z' (uA f 2 (ptW (f 2) i w (nI x.2.2))) ∧ PDZ z z' ∧ PLZ z f z' (uA f 2 (ptW (f 2) i w (nI x.2.2)))) := by
  obtain ⟨a1, a2, a3, a4⟩ := pcR_hd2 h
  have wr : ∀ (a : Int32) (z : Nat → Int32) (f : Nat → FA), pcall (d + 2) 138 [vR 0, vI a] (LPr z f) = some (some (vI 0), LPr (uZ (uZ z 7 a) 8 (z 3)) f) := pWrong (d + 1)
  have t1 := pcT_eq a2 a4 1 (by decide) (by decide)
  have go : ∀ res, _ → pcall (d + 3) 119 [vR 0, vI (nI w), vI y] (LPr z f) = some res := fun res H => pcall_i (by decide) (mq119 (cu := [])).2.2 rfl (vcp119_0 (pcall (d + 2)) wr (nI w) y z f res H)
  by_cases c1 : x.2.1 = 1
  · have z5 := t1.mpr c1
    obtain ⟨z6, v4⟩ := a3 c1
    have i6 : I (z 6) = x.2.2 := by rw [z6]; exact I_nI (by omega)
    by_cases c2 : x.2.2 < c
    · obtain ⟨z', s1, s2, s3⟩ := pstep (pcR_pt (g := ptW (f 2) i w (nI x.2.2)) h) (by omega) d
      have hp := pput (d + 1) (z := z) (f := f) (i := i) (w := w) (nI x.2.2) h11 hi hw
      exact Or.inr ⟨pIt_1 c1 c2, c2, c1, z', go _ ⟨fun _ => ⟨fun _ => ⟨z, _, by rw [z6]; exact hp, z', _, s1, rfl⟩, fun q => by omega⟩, fun q => absurd z5 q⟩, s2, s3, (PLZ.pt (z := z) (f := f) (g := ptW (f 2) i w (nI x.2.2))).tr (PKZ.st s3).l⟩
    · exact Or.inl ⟨(2, x.1), pIt_1f c1 c2, z, f, go _ ⟨fun _ => ⟨fun q => by omega, fun _ => by rw [a1]; rfl⟩, fun q => absurd z5 q⟩, PLZ.rf⟩
  · exact Or.inl ⟨(1, x.1), pIt_1e c1, z, f, go _ ⟨fun q => absurd (t1.mp q) c1, fun _ => by rw [a1]; rfl⟩, PLZ.rf⟩
theorem pcR_ne {t : FA} {n : Nat} {ts : List TT} {C : List TK} {z : Nat → Int32} {f : Nat → FA} (h : pcR t n ts C z f) : ∃ x r, ts = x :: r := by
  obtain ⟨x, r, e, -⟩ := pcR_hd h
  exact ⟨x, r, e⟩
/-- what a line's reading comes to: the rest of the line and the end's sign -/
def pLn (d k : Nat) (t : FA) (n i : Nat) (C : List TK) (z : Nat → Int32) (f : Nat → FA) (p : PLS) (G : List Nat → (Nat → Int32) → Prop) : Prop := match p with
  | .inl e => pFt (d + 6) 127 [vR 0, vI (nI k)] z f e ∨ ∃ z1 f1, pcall (d + 6) 127 [vR 0, vI (nI k)] (LPr z f) = some (some (vI 1), LPr z1 f1) ∧ PLZ z f z1 f1 ∧ pFt (d + 6) 133 [vR 0, vI 59] z1 f1 e
  | .inr (l, r) => ∃ z1 f1 z' f', pcall (d + 6) 127 [vR 0, vI (nI k)] (LPr z f) = some (some (vI 1), LPr z1 f1) ∧ pcall (d + 6) 133 [vR 0, vI 59] (LPr z1 f1) = some (some (vI 1), LPr z' f') ∧ pcR t n r C z' f' ∧ PLZ z f z' f' ∧ (∀ j, j < 5 * i → f' 2 j = f 2 j) ∧ G l (fun w => f' 2 (5 * i + w))
theorem PDZ.k {z z' : Nat → Int32} (h : PDZ z z') (j : Nat) (hj : j ≠ 3 ∧ j ≠ 4 ∧ j ≠ 5 ∧ j ≠ 6) : z' j = z j := h j hj.1 hj.2.1 hj.2.2.1 hj.2.2.2
theorem PDZ.l {z z' : Nat → Int32} {f : Nat → FA} (h : PDZ z z') : PLZ z f z' f := (PKZ.st h).l
theorem ptW_lo {g : FA} {i w j : Nat} {v : Int32} (h : j < 5 * i) : ptW g i w v j = g j := pk_un (by omega)
theorem ptW_s {g : FA} {i w : Nat} {v : Int32} : ptW g i w v (5 * i + w) = v := pk_us
theorem ptW_n {g : FA} {i w u : Nat} {v : Int32} (h : u ≠ w) : ptW g i w v (5 * i + u) = g (5 * i + u) := pk_un (by omega)
theorem pFt.pre {d k : Nat} {As : List PV} {z z1 : Nat → Int32} {f f1 : Nat → FA} {e : Nat × Nat} {d' k' : Nat} {As' : List PV} (h : pFt d k As z1 f1 e) (h0 : PLZ z f z1 f1) (hk : ∀ z' f', pcall d k As (LPr z1 f1) = some (some (vI 0), LPr z' f') → pcall d' k' As' (LPr z f) = some (some (vI 0), LPr z' f')) : pFt d' k' As' z f e := by
  obtain ⟨z', f', a, b⟩ := h
  exact ⟨z', f', hk _ _ a, h0.tr b⟩
def pGw (l : List Nat) (g : Nat → Int32) : Prop := ∃ a b c, l = [a, b, c] ∧ g 0 = nI a ∧ g 1 = nI b ∧ g 2 = nI c
theorem pways {t : FA} {n i m : Nat} {ts : List TT} {C : List TK} {z : Nat → Int32} {f : Nat → FA} (d : Nat) (h : pcR t n ts C z f) (h11 : z 11 = nI i) (hi : i < 16) (h9 : z 9 = nI m) (hm : m ≤ 20) : pLn d 1 t n i C z f (pXw m ts) pGw := by
  obtain ⟨x, r, rfl⟩ := pcR_ne h
  have wr : ∀ (a : Int32) (z : Nat → Int32) (f : Nat → FA), pcall (d + 5) 138 [vR 0, vI a] (LPr z f) = some (some (vI 0), LPr (uZ (uZ z 7 a) 8 (z 3)) f) := pWrong (d + 4)
  have go : ∀ res, _ → pcall (d + 6) 127 [vR 0, vI (nI 1)] (LPr z f) = some res := fun res H => pcall_i (by decide) (mq127 (cu := [])).2.2 rfl (vcp127_0 (pcall (d + 5)) wr (nI 1) none z f res ⟨fun _ => H, fun q => absurd q (by decide)⟩)
  have im : I (z 9 - 1) = (m : Int) - 1 := by
    rw [h9]
    cases m with
    | zero => decide
    | succ m => rw [show nI (m + 1) - 1 = nI m from nI_sub (a := m + 1) (b := 1) (by omega), I_nI (by omega)]; omega
  unfold pXw
  rcases pbnd (d + 2) h h11 hi 0 (by decide) m (z 9 - 1) im with ⟨e, e1, e2⟩ | ⟨e1, b1, b2, z1, s1, s2, s3⟩
  · rw [pxI_e e1]
    exact Or.inl (e2.pre PLZ.rf (fun _ _ hL => go _ ⟨_, _, _, hL, fun q => absurd rfl q, fun _ => rfl⟩))
  obtain ⟨y, r, rfl⟩ := pcR_ne s2
  rw [pxI_s e1]
  have p1 := s3.2
  have go := fun res H => go res ⟨_, _, _, s1, fun _ => ⟨fun q => absurd rfl q, fun _ => H⟩, fun q => absurd q one_n⟩
  rcases psgn (d + 2) s2 318 (by decide) (by decide) (by decide) with ⟨e, e3, e4⟩ | ⟨e3, z2, t1, t2, t3⟩
  · rw [pxI_e e3]
    exact Or.inl (e4.pre p1 (fun _ _ hL => go _ ⟨_, _, _, hL, fun _ => rfl, fun q => absurd rfl q⟩))
  obtain ⟨x2, r, rfl⟩ := pcR_ne t2
  rw [pxI_s e3]
  have p2 := p1.tr t3.2
  have go := fun res H => go res ⟨_, _, _, t1, fun q => absurd q one_n, fun _ => H⟩
  have z211 : z2 11 = nI i := (t3.1.k 11 (by decide)).trans ((s3.1.k 11 (by decide)).trans h11)
  rcases pbnd (d + 2) t2 z211 hi 1 (by decide) 12 11 (by decide) with ⟨e, e5, e6⟩ | ⟨e5, b3, b4, z3, u1, u2, u3⟩
  · rw [pxI_e e5]
    exact Or.inl (e6.pre p2 (fun _ _ hL => go _ ⟨_, _, _, hL, fun _ => rfl, fun q => absurd rfl q⟩))
  obtain ⟨y2, r, rfl⟩ := pcR_ne u2
  rw [pxI_s e5]
  have p3 := p2.tr u3.2
  have go := fun res H => go res ⟨_, _, _, u1, fun q => absurd q one_n, fun _ => H⟩
  rcases psgn (d + 2) u2 319 (by decide) (by decide) (by decide) with ⟨e, e7, e8⟩ | ⟨e7, z4, v1, v2, v3⟩
  · rw [pxI_e e7]
    exact Or.inl (e8.pre p3 (fun _ _ hL => go _ ⟨_, _, _, hL, fun _ => rfl, fun q => absurd rfl q⟩))
  obtain ⟨x3, r, rfl⟩ := pcR_ne v2
  rw [pxI_s e7]
  have p4 := p3.tr v3.2
  have go := fun res H => go res ⟨_, _, _, v1, fun q => absurd q one_n, fun _ => H⟩
  have z411 : z4 11 = nI i := (v3.1.k 11 (by decide)).trans ((u3.1.k 11 (by decide)).trans z211)
  rcases pbnd (d + 2) v2 z411 hi 2 (by decide) 12 11 (by decide) with ⟨e, e9, e10⟩ | ⟨e9, b5, b6, z5, w1, w2, w3⟩
  · rw [pxI_e e9]
    exact Or.inl (e10.pre p4 (fun _ _ hL => go _ ⟨_, _, _, hL, fun _ => rfl, fun q => absurd rfl q⟩))
  obtain ⟨y3, r, rfl⟩ := pcR_ne w2
  rw [pxI_s e9]
  have p5 := p4.tr w3.2
  have full := go _ ⟨_, _, _, w1, fun q => absurd q one_n, fun _ => rfl⟩
  rcases psgn (d + 3) w2 59 (by decide) (by decide) (by decide) with ⟨e, e11, e12⟩ | ⟨e11, z6, x1, x2', x3'⟩
  · rw [pxI_e e11]
    exact Or.inr ⟨_, _, full, p5, e12⟩
  rw [pxI_s e11]
  refine ⟨_, _, z6, _, full, x1, x2', p5.tr x3'.2, fun j hj => ?_, x.2.2, x2.2.2, x3.2.2, rfl, ?_, ?_, ?_⟩
  · rw [uA_self, ptW_lo hj, uA_self, ptW_lo hj, uA_self, ptW_lo hj]
  · show uA _ 2 _ 2 (5 * i + 0) = _
    rw [uA_self, ptW_n (by decide), uA_self, ptW_n (by decide), uA_self, ptW_s]
  · show uA _ 2 _ 2 (5 * i + 1) = _
    rw [uA_self, ptW_n (by decide), uA_self, ptW_s]
  · show uA _ 2 _ 2 (5 * i + 2) = _
    rw [uA_self, ptW_s]
def pGt (l : List Nat) (g : Nat → Int32) : Prop := ∃ a b, l = [a, b] ∧ g 0 = nI a ∧ g 1 = nI b
theorem ptwins {t : FA} {n i m : Nat} {ts : List TT} {C : List TK} {z : Nat → Int32} {f : Nat → FA} (d : Nat) (h : pcR t n ts C z f) (h11 : z 11 = nI i) (hi : i < 16) (h9 : z 9 = nI m) (hm : m ≤ 20) : pLn d 3 t n i C z f (pXt m ts) pGt := by
  obtain ⟨x, r, rfl⟩ := pcR_ne h
  obtain ⟨-, -, x6, -⟩ := pcR_hd2 h
  have wr : ∀ (a : Int32) (z : Nat → Int32) (f : Nat → FA), pcall (d + 5) 138 [vR 0, vI a] (LPr z f) = some (some (vI 0), LPr (uZ (uZ z 7 a) 8 (z 3)) f) := pWrong (d + 4)
  have go : ∀ res, _ → pcall (d + 6) 127 [vR 0, vI (nI 3)] (LPr z f) = some res := fun res H => pcall_i (by decide) (mq127 (cu := [])).2.2 rfl (vcp127_0 (pcall (d + 5)) wr (nI 3) none z f res ⟨fun _ => H, fun q => absurd q (by decide)⟩)
  have im : ∀ z' : Nat → Int32, z' 9 = nI m → I (z' 9 - 1) = (m : Int) - 1 := fun z' h9 => by
    rw [h9]
    cases m with
    | zero => decide
    | succ m => rw [show nI (m + 1) - 1 = nI m from nI_sub (a := m + 1) (b := 1) (by omega), I_nI (by omega)]; omega
  unfold pXt
  rcases pbnd (d + 2) h h11 hi 0 (by decide) m (z 9 - 1) (im z h9) with ⟨e, e1, e2⟩ | ⟨e1, b1, b2, z1, s1, s2, s3⟩
  · rw [pxI_e e1]
    exact Or.inl (e2.pre PLZ.rf (fun _ _ hL => go _ ⟨_, _, _, hL, fun q => absurd rfl q, fun _ => rfl⟩))
  obtain ⟨y, r, rfl⟩ := pcR_ne s2
  rw [pxI_s e1]
  have p1 := s3.2
  have go := fun res H => go res ⟨_, _, _, s1, fun _ => ⟨fun _ => H, fun q => absurd q (by decide)⟩, fun q => absurd q one_n⟩
  rcases psgn (d + 2) s2 325 (by decide) (by decide) (by decide) with ⟨e, e3, e4⟩ | ⟨e3, z2, t1, t2, t3⟩
  · rw [pxI_e e3]
    exact Or.inl (e4.pre p1 (fun _ _ hL => go _ ⟨_, _, _, hL, fun q => absurd rfl q, fun _ => rfl⟩))
  obtain ⟨x2, r, rfl⟩ := pcR_ne t2
  rw [pxI_s e3, show pxI [] (x2 :: r) = .inr ([], x2 :: r) from rfl]
  have p2 := p1.tr t3.2
  have go := fun res H => go res ⟨_, _, _, t1, fun _ => H, fun q => absurd q one_n⟩
  have z211 : z2 11 = nI i := (t3.1.k 11 (by decide)).trans ((s3.1.k 11 (by decide)).trans h11)
  have z29 : z2 9 = nI m := (t3.1.k 9 (by decide)).trans ((s3.1.k 9 (by decide)).trans h9)
  obtain ⟨q1, q2, q3, q4⟩ := pcR_hd2 t2
  have tn := pcT_eq q2 q4 1 (by decide) (by decide)
  obtain ⟨x61, x62⟩ := x6 b2
  show pLn d 3 t n i C z f (pJ [x.2.2] (pXb m x.2.2 (x2 :: r))) pGt
  unfold pXb
  show pLn d 3 t n i C z f (pJ [x.2.2] (if x2.2.1 = 1 ∧ x2.2.2 = x.2.2 then .inl (2, x2.1) else pxI [(1, m), (0, 59)] (x2 :: r))) pGt
  by_cases c1 : x2.2.1 = 1 ∧ x2.2.2 = x.2.2
  · rw [if_pos c1]
    have q5 := tn.mpr c1.1
    have q6 : z2 6 = z 6 := by rw [(q3 c1.1).1, x61, c1.2]
    exact Or.inl ⟨z2, _, go _ ⟨fun q => absurd q5 q, fun _ => ⟨fun q => absurd q6 q, fun _ => by rw [q1]; rfl⟩⟩, p2⟩
  · rw [if_neg c1]
    have fin : ∀ res, (∃ (r3 : Int32) (z3 : Nat → Int32) (f3 : Nat → FA), pcall (d + 5) 119 [vR 0, vI 1, vI (z2 9 - 1)] (LPr z2 _) = some (some (vI r3), LPr z3 f3) ∧ ((r3 = 0 ∨ r3 = 1) ∧ res = (some (vI r3), LPr z3 f3))) → pcall (d + 6) 127 [vR 0, vI (nI 3)] (LPr z f) = some res := fun res H => go res ⟨fun _ => H, fun q5 => ⟨fun _ => H, fun q6 => by
      exfalso
      have n1 := tn.mp q5
      refine c1 ⟨n1, ?_⟩
      obtain ⟨v1, v2⟩ := q3 n1
      rw [v1, x61] at q6
      exact nI_inj (by omega) (by omega) q6⟩⟩
    rcases pbnd (d + 2) t2 z211 hi 1 (by decide) m (z2 9 - 1) (im z2 z29) with ⟨e, e5, e6⟩ | ⟨e5, b3, b4, z3, u1, u2, u3⟩
    · rw [pxI_e e5]
      exact Or.inl (e6.pre p2 (fun _ _ hL => fin _ ⟨_, _, _, hL, Or.inl rfl, rfl⟩))
    obtain ⟨y2, r, rfl⟩ := pcR_ne u2
    rw [pxI_s e5]
    have p3 := p2.tr u3.2
    have full := fin _ ⟨_, _, _, u1, Or.inr rfl, rfl⟩
    rcases psgn (d + 3) u2 59 (by decide) (by decide) (by decide) with ⟨e, e7, e8⟩ | ⟨e7, z4, v1, v2, v3⟩
    · rw [pxI_e e7]
      exact Or.inr ⟨_, _, full, p3, e8⟩
    rw [pxI_s e7]
    refine ⟨_, _, z4, _, full, v1, v2, p3.tr v3.2, fun j hj => ?_, x.2.2, x2.2.2, rfl, ?_, ?_⟩
    · rw [uA_self, ptW_lo hj, uA_self, ptW_lo hj]
    · show uA _ 2 _ 2 (5 * i + 0) = _
      rw [uA_self, ptW_n (by decide), uA_self, ptW_s]
    · show uA _ 2 _ 2 (5 * i + 1) = _
      rw [uA_self, ptW_s]
