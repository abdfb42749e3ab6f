/-! the reference's reader: a line of the sky -/
theorem pJ_nil (p : PLS) : pJ [] p = p := by
  rcases p with e | ⟨l, r⟩ <;> rfl
theorem pJ_J (a b : List Nat) (p : PLS) : pJ a (pJ b p) = pJ (a ++ b) p := by
  rcases p with e | ⟨l, r⟩
  · rfl
  · show (Sum.inr (a ++ (b ++ l), r) : PLS) = .inr (a ++ b ++ l, r)
    rw [List.append_assoc]
theorem pxI_app (Q : List (Nat × Nat)) : ∀ (P : List (Nat × Nat)) (ts : List TT), pxI (P ++ Q) ts = match pxI P ts with
    | .inl e => .inl e
    | .inr (l, r) => pJ l (pxI Q r) := by
  intro P
  induction P with
  | nil =>
    intro ts
    show pxI Q ts = pJ [] (pxI Q ts)
    rw [pJ_nil]
  | cons p P ih =>
    intro ts
    obtain ⟨q, c⟩ := p
    cases ts with
    | nil => rfl
    | cons x r =>
      show pxI ((q, c) :: (P ++ Q)) (x :: r) = _
      cases h : pIt q c x with
      | inl e =>
        rw [pxI_e h, pxI_e h]
      | inr l =>
        rw [pxI_s h, pxI_s h, ih r]
        cases h2 : pxI P r with
        | inl e => rfl
        | inr p2 =>
          obtain ⟨l', r'⟩ := p2
          show (match pJ l' (pxI Q r') with
            | .inl e => .inl e
            | .inr (a, b) => .inr (l ++ a, b)) = pJ (l ++ l') (pxI Q r')
          rw [← pJ_J]
          rcases pJ l' (pxI Q r') with e | ⟨a, b⟩ <;> rfl
/-- a deed's numbers in the reference's row: the others stay -/
def pd9 (p : Nat) (f f' : Nat → FA) : Prop := ∀ j, j ≠ p + 1 → j ≠ p + 3 → j ≠ p + 4 → f' 19 j = f 19 j
/-- what a deed's own reading comes to -/
def pMd (d k p : Nat) (t : FA) (n : Nat) (C : List TK) (z : Nat → Int32) (f : Nat → FA) (q : PLS) (G : List Nat → (Nat → FA) → Prop) : Prop := match q with
  | .inl e => pMt d k [vR 0, vI (nI p)] z f e
  | .inr (l, r) => ∃ v z' f', v < 100000 ∧ mcall d k [vR 0, vI (nI p)] (LR z f) = some (some (vI (nI v)), LR z' f') ∧ prR t n r C z' f' ∧ MLF z f z' f' ∧ pd9 p f f' ∧ G l f'
theorem prheat {t : FA} {n p : Nat} {ts : List TT} {C : List TK} {z : Nat → Int32} {f : Nat → FA} (d : Nat) (h : prR t n ts C z f) (hp : 80 ≤ p) (hp2 : p ≤ 155) : pMd (d + 6) 254 p t n C z f (pxI [(1, 10), (0, 318), (1, 12)] ts) (fun l f' => ∃ a b, l = [a, b] ∧ a < 10 ∧ b < 12 ∧ f' 19 (p + 3) = nI a ∧ f' 19 (p + 1) = nI b) := by
  obtain ⟨x, r, rfl⟩ := prR_ne h
  have go : ∀ res, _ → mcall (d + 6) 254 [vR 0, vI (nI p)] (LR z f) = some res := fun res H => mcall_i (mq254 (cu := [])).2.2 rfl (vc254_0 d (nI p) z f res H)
  have e1' : nI p + 1 = nI (p + 1) := nI_add p 1
  have e3' : nI p + 3 = nI (p + 3) := nI_add p 3
  have p1 : pin (nI p + 1) 160 = true := by rw [e1']; exact pin_nI (by omega) (by omega)
  have p3 : pin (nI p + 3) 160 = true := by rw [e3']; exact pin_nI (by omega) (by omega)
  have x1 : ix (nI p + 1) = p + 1 := by rw [e1']; exact ix_nI (by omega)
  have x3 : ix (nI p + 3) = p + 3 := by rw [e3']; exact ix_nI (by omega)
  rcases pnumb (d + 1) h 10 9 (by decide) with ⟨e, e1, e2⟩ | ⟨e1, b1, b2, b3, z1, s1, s2, s3⟩
  · rw [pxI_e e1]
    obtain ⟨z', f', k1, k2⟩ := e2
    refine ⟨z', uA f' 19 (upd (f' 19) (p + 3) (-1)), go _ ⟨_, _, _, k1, p3, p3, fun q => ?_, fun _ => ?_⟩, k2.tr (MLF.u19 (by omega))⟩
    · rw [x3, pk_us] at q
      exact absurd rfl q
    · rw [x3]
  have go := fun res H => go res ⟨_, _, _, s1, p3, p3, fun _ => H, fun q => by
    rw [x3, pk_us] at q
    exact absurd q (nI_n1 (by omega))⟩
  rw [x3] at go
  rw [pxI_s e1]
  have s2' := prR_u (g := upd (f 19) (p + 3) (nI x.2.2)) s2 (Or.inr (Or.inl rfl))
  have f1 : MLF z f z1 (uA f 19 (upd (f 19) (p + 3) (nI x.2.2))) := (MLF.st s3).tr (MLF.u19 (by omega))
  obtain ⟨y, r, rfl⟩ := prR_ne s2'
  have bad : ∀ e, pMt (d + 5) 263 [vR 0, vI (nI (pxr 18)), vI 0, vI 11] z1 (uA f 19 (upd (f 19) (p + 3) (nI x.2.2))) e → pMt (d + 6) 254 [vR 0, vI (nI p)] z f e := by
    rintro e ⟨z', f', k1, k2⟩
    refine ⟨z', uA f' 19 (upd (f' 19) (p + 1) (-1)), go _ ⟨_, _, _, k1, p1, p1, ?_⟩, (f1.tr k2).tr (MLF.u19 (by omega))⟩
    rw [x1, pk_us]
  rcases ptold d s2' 18 (by decide) 12 11 (by decide) with ⟨e, e3, e4⟩ | ⟨e3, x4, r4, rfl, e4⟩
  · rw [pxI_e e3]
    exact bad e e4
  rw [pxI_s e3]
  rcases e4 with ⟨e, e5, e6⟩ | ⟨e5, b4, b5, b6, z2, t1, t2, t3⟩
  · rw [pxI_e e5]
    exact bad e e6
  rw [pxI_s e5, show pxI [] r4 = .inr ([], r4) from rfl]
  refine ⟨x4.2.2, z2, _, by omega, go _ ⟨_, _, _, t1, p1, p1, ?_⟩, prR_u (g := upd (upd (f 19) (p + 3) (nI x.2.2)) (p + 1) (nI x4.2.2)) t2 (Or.inr (Or.inl rfl)), ?_, fun j a b c => ?_, x.2.2, x4.2.2, rfl, b1, b4, ?_, ?_⟩
  · rw [x1, pk_us, uA_self]
  · have k := (f1.tr (MLF.st t3)).tr (MLF.u19 (j := p + 1) (v := nI x4.2.2) (by omega))
    rw [uA_self] at k
    exact k
  · rw [uA_self, pk_un a, pk_un b]
  · rw [uA_self, pk_un (by omega), pk_us]
  · rw [uA_self, pk_us]
theorem prputty {t : FA} {n p : Nat} {ts : List TT} {C : List TK} {z : Nat → Int32} {f : Nat → FA} (d : Nat) (h : prR t n ts C z f) (hp : 80 ≤ p) (hp2 : p ≤ 155) : pMd (d + 6) 260 p t n C z f (pxI [(0, 318), (1, 12), (1, 12), (1, 12)] ts) (fun l f' => ∃ a b c, l = [a, b, c] ∧ a < 12 ∧ b < 12 ∧ c < 12 ∧ f' 19 (p + 1) = nI a ∧ f' 19 (p + 3) = nI b ∧ f' 19 (p + 4) = nI c) := by
  obtain ⟨y, r, rfl⟩ := prR_ne h
  have go : ∀ res, _ → mcall (d + 6) 260 [vR 0, vI (nI p)] (LR z f) = some res := fun res H => mcall_i (mq260 (cu := [])).2.2 rfl (vc260_0 d (nI p) z f res H)
  have e1' : nI p + 1 = nI (p + 1) := nI_add p 1
  have e3' : nI p + 3 = nI (p + 3) := nI_add p 3
  have e4' : nI p + 4 = nI (p + 4) := nI_add p 4
  have p1 : pin (nI p + 1) 160 = true := by rw [e1']; exact pin_nI (by omega) (by omega)
  have p3 : pin (nI p + 3) 160 = true := by rw [e3']; exact pin_nI (by omega) (by omega)
  have p4 : pin (nI p + 4) 160 = true := by rw [e4']; exact pin_nI (by omega) (by omega)
  have x1 : ix (nI p + 1) = p + 1 := by rw [e1']; exact ix_nI (by omega)
  have x3 : ix (nI p + 3) = p + 3 := by rw [e3']; exact ix_nI (by omega)
  have x4 : ix (nI p + 4) = p + 4 := by rw [e4']; exact ix_nI (by omega)
  have bad : ∀ e, pMt (d + 5) 263 [vR 0, vI (nI (pxr 18)), vI 0, vI 11] z f e → pMt (d + 6) 260 [vR 0, vI (nI p)] z f e := by
    rintro e ⟨z', f', k1, k2⟩
    refine ⟨z', uA f' 19 (upd (f' 19) (p + 1) (-1)), go _ ⟨_, _, _, k1, p1, p1, fun q => ?_, fun _ => ?_⟩, k2.tr (MLF.u19 (by omega))⟩
    · rw [x1, pk_us] at q
      exact absurd rfl q
    · rw [x1]
  rcases ptold d h 18 (by decide) 12 11 (by decide) with ⟨e, e3, e4⟩ | ⟨e3, x6, r6, rfl, e4⟩
  · rw [pxI_e e3]
    exact bad e e4
  rw [pxI_s e3]
  rcases e4 with ⟨e, e5, e6⟩ | ⟨e5, b1, b2, b3, z1, s1, s2, s3⟩
  · rw [pxI_e e5]
    exact bad e e6
  have go := fun res H => go res ⟨_, _, _, s1, p1, p1, fun _ => H, fun q => by
    rw [x1, pk_us] at q
    exact absurd q (nI_n1 (by omega))⟩
  rw [x1] at go
  rw [pxI_s e5]
  have s2' := prR_u (g := upd (f 19) (p + 1) (nI x6.2.2)) s2 (Or.inr (Or.inl rfl))
  have f1 : MLF z f z1 (uA f 19 (upd (f 19) (p + 1) (nI x6.2.2))) := (MLF.st s3).tr (MLF.u19 (by omega))
  obtain ⟨x7, r7, rfl⟩ := prR_ne s2'
  rcases pnumb (d + 1) s2' 12 11 (by decide) with ⟨e, e7, e8⟩ | ⟨e7, b4, b5, b6, z2, t1, t2, t3⟩
  · rw [pxI_e e7]
    obtain ⟨z', f', k1, k2⟩ := e8
    refine ⟨z', uA f' 19 (upd (f' 19) (p + 3) (-1)), go _ ⟨_, _, _, k1, p3, p3, fun q => ?_, fun _ => ?_⟩, (f1.tr k2).tr (MLF.u19 (by omega))⟩
    · rw [x3, pk_us] at q
      exact absurd rfl q
    · rw [x3]
  have go := fun res H => go res ⟨_, _, _, t1, p3, p3, fun _ => H, fun q => by
    rw [x3, pk_us] at q
    exact absurd q (nI_n1 (by omega))⟩
  rw [x3, uA_self, uA_uA] at go
  rw [pxI_s e7]
  have t2' := prR_u (g := upd (upd (f 19) (p + 1) (nI x6.2.2)) (p + 3) (nI x7.2.2)) t2 (Or.inr (Or.inl rfl))
  rw [uA_uA] at t2'
  have f2 : MLF z f z2 (uA f 19 (upd (upd (f 19) (p + 1) (nI x6.2.2)) (p + 3) (nI x7.2.2))) := by
    have k := (f1.tr (MLF.st t3)).tr (MLF.u19 (j := p + 3) (v := nI x7.2.2) (by omega))
    rw [uA_self, uA_uA] at k
    exact k
  obtain ⟨x8, r8, rfl⟩ := prR_ne t2'
  rcases pnumb (d + 1) t2' 12 11 (by decide) with ⟨e, e9, e10⟩ | ⟨e9, b7, b8, b9, z3, u1, u2, u3⟩
  · rw [pxI_e e9]
    obtain ⟨z', f', k1, k2⟩ := e10
    refine ⟨z', uA f' 19 (upd (f' 19) (p + 4) (-1)), go _ ⟨_, _, _, k1, p4, p4, ?_⟩, (f2.tr k2).tr (MLF.u19 (by omega))⟩
    rw [x4, pk_us]
  rw [pxI_s e9, show pxI [] r8 = .inr ([], r8) from rfl]
  refine ⟨x8.2.2, z3, _, by omega, go _ ⟨_, _, _, u1, p4, p4, ?_⟩, prR_u (g := upd (upd (upd (f 19) (p + 1) (nI x6.2.2)) (p + 3) (nI x7.2.2)) (p + 4) (nI x8.2.2)) u2 (Or.inr (Or.inl rfl)), ?_, fun j a b c => ?_, x6.2.2, x7.2.2, x8.2.2, rfl, b1, b4, b7, ?_, ?_, ?_⟩
  · rw [x4, pk_us, uA_self]
  · have k := (f2.tr (MLF.st u3)).tr (MLF.u19 (j := p + 4) (v := nI x8.2.2) (by omega))
    rw [uA_self] at k
    exact k
  · rw [uA_self, pk_un c, pk_un b, pk_un a]
  · rw [uA_self, pk_un (by omega), pk_un (by omega), pk_us]
  · rw [uA_self, pk_un (by omega), pk_us]
  · rw [uA_self, pk_us]
/-- a mind's word -/
def pMw (x : TT) : (Nat × Nat) ⊕ List Nat := if x.2.1 = 322 then .inr [1] else if x.2.1 = 323 then .inr [2] else if x.2.1 = 324 then .inr [0] else .inl (1, x.1)
def pXk (m : Nat) (ts : List TT) : PLS := match pxI [(1, m)] ts with
  | .inl e => .inl e
  | .inr (_, []) => .inl (0, 0)
  | .inr (l, x :: r) => match pMw x with
    | .inl e => .inl e
    | .inr l2 => .inr (l ++ l2, r)
theorem prmind {t : FA} {n p m : Nat} {ts : List TT} {C : List TK} {z : Nat → Int32} {f : Nat → FA} (d : Nat) (h : prR t n ts C z f) (hp : 80 ≤ p) (hp2 : p ≤ 155) (h6 : z 6 = nI m) (hm : m ≤ 20) : pMd (d + 5) 257 p t n C z f (pXk m ts) (fun l f' => ∃ a b, l = [a, b] ∧ a < m ∧ b < 3 ∧ f' 19 (p + 1) = 0 ∧ f' 19 (p + 3) = nI a ∧ f' 19 (p + 4) = (if b = 1 then 1 else if b = 2 then -1 else 0)) := by
  have go : ∀ res, _ → mcall (d + 5) 257 [vR 0, vI (nI p)] (LR z f) = some res := fun res H => mcall_i (mq257 (cu := [])).2.2 rfl (vc257_0 d (nI p) z f res H)
  have e1' : nI p + 1 = nI (p + 1) := nI_add p 1
  have e3' : nI p + 3 = nI (p + 3) := nI_add p 3
  have e4' : nI p + 4 = nI (p + 4) := nI_add p 4
  have p1 : pin (nI p + 1) 160 = true := by rw [e1']; exact pin_nI (by omega) (by omega)
  have p3 : pin (nI p + 3) 160 = true := by rw [e3']; exact pin_nI (by omega) (by omega)
  have p4 : pin (nI p + 4) 160 = true := by rw [e4']; exact pin_nI (by omega) (by omega)
  have x1 : ix (nI p + 1) = p + 1 := by rw [e1']; exact ix_nI (by omega)
  have x3 : ix (nI p + 3) = p + 3 := by rw [e3']; exact ix_nI (by omega)
  have x4 : ix (nI p + 4) = p + 4 := by rw [e4']; exact ix_nI (by omega)
  have h0 := prR_u (g := upd (f 19) (p + 1) 0) h (Or.inr (Or.inl rfl))
  have f0 : MLF z f z (uA f 19 (upd (f 19) (p + 1) 0)) := MLF.u19 (by omega)
  rw [x1] at go
  have go := fun res H => go res ⟨p1, H⟩
  obtain ⟨x, r, rfl⟩ := prR_ne h0
  unfold pXk
  rcases pnumb d h0 m (z 6 - 1) (im_z h6 hm) with ⟨e, e1, e2⟩ | ⟨e1, b1, b2, b3, z1, s1, s2, s3⟩
  · rw [pxI_e e1]
    obtain ⟨z', f', k1, k2⟩ := e2
    refine ⟨z', uA f' 19 (upd (f' 19) (p + 3) (-1)), go _ ⟨_, _, _, k1, p3, p3, fun q => ?_, fun _ => ?_⟩, (f0.tr k2).tr (MLF.u19 (by omega))⟩
    · rw [x3, pk_us] at q
      exact absurd rfl q
    · rw [x3]
  have go := fun res H => go res ⟨_, _, _, s1, p3, p3, fun _ => H, fun q => by
    rw [x3, pk_us] at q
    exact absurd q (nI_n1 (by omega))⟩
  rw [x3, x4, uA_self, uA_uA] at go
  simp only [uA_uA] at go
  rw [pxI_s e1, show pxI [] r = .inr ([], r) from rfl]
  have s2' := prR_u (g := upd (upd (f 19) (p + 1) 0) (p + 3) (nI x.2.2)) s2 (Or.inr (Or.inl rfl))
  rw [uA_uA] at s2'
  have f1 : MLF z f z1 (uA f 19 (upd (upd (f 19) (p + 1) 0) (p + 3) (nI x.2.2))) := by
    have k := (f0.tr (MLF.st s3)).tr (MLF.u19 (j := p + 3) (v := nI x.2.2) (by omega))
    rw [uA_self, uA_uA] at k
    exact k
  obtain ⟨y, r, rfl⟩ := prR_ne s2'
  obtain ⟨a1, a2, a3, a4⟩ := prR_hd2 s2'
  have ew := pxR_t a2 a3
  have e22 : (z1 15 = 2 ∧ z1 16 = 22) ↔ y.2.1 = 322 := pxR_w a2 a3 22 (by decide)
  have e23 : (z1 15 = 2 ∧ z1 16 = 23) ↔ y.2.1 = 323 := pxR_w a2 a3 23 (by decide)
  have e24 : (z1 15 = 2 ∧ z1 16 = 24) ↔ y.2.1 = 324 := pxR_w a2 a3 24 (by decide)
  show pMd (d + 5) 257 p t n C z f (match pMw y with
    | .inl e => .inl e
    | .inr l2 => .inr ([x.2.2] ++ [] ++ l2, r)) _
  -- a mind told
  have fin : ∀ (v : Int32) (b : Nat), b < 3 → v = (if b = 1 then 1 else if b = 2 then -1 else 0) → ¬ y.2.1 = 2 → (∀ res, (pin (nI p + 4) 160 = true ∧ ∃ (z3 : Nat → Int32) (f3 : Nat → FA), mcall (d + 4) 269 [vR 0] (LR z1 (uA f 19 (upd (upd (upd (f 19) (p + 1) 0) (p + 3) (nI x.2.2)) (p + 4) v))) = some (none, LR z3 f3) ∧ res = (some (vI 0), LR z3 f3)) → mcall (d + 5) 257 [vR 0, vI (nI p)] (LR z f) = some res) → pMd (d + 5) 257 p t n C z f (.inr ([x.2.2] ++ [] ++ [b], r)) (fun l f' => ∃ a b, l = [a, b] ∧ a < m ∧ b < 3 ∧ f' 19 (p + 1) = 0 ∧ f' 19 (p + 3) = nI a ∧ f' 19 (p + 4) = (if b = 1 then 1 else if b = 2 then -1 else 0)) := by
    intro v b hb hv hy k
    have u2 := prR_u (g := upd (upd (upd (f 19) (p + 1) 0) (p + 3) (nI x.2.2)) (p + 4) v) s2' (Or.inr (Or.inl rfl))
    rw [uA_uA] at u2
    obtain ⟨z2, t1, t2, t3⟩ := prstep u2 hy (d + 1)
    refine ⟨0, z2, _, by decide, k _ ⟨p4, z2, _, t1, rfl⟩, t2, ?_, fun j a b c => ?_, x.2.2, b, rfl, b1, hb, ?_, ?_, ?_⟩
    · have k2 := (f1.tr (MLF.u19 (j := p + 4) (v := v) (by omega))).tr (MLF.st t3)
      rw [uA_self, uA_uA] at k2
      exact k2
    · rw [uA_self, pk_un c, pk_un b, pk_un a]
    · rw [uA_self, pk_un (by omega), pk_un (by omega), pk_us]
    · rw [uA_self, pk_un (by omega), pk_us]
    · rw [uA_self, pk_us]
      exact hv
  have i22 : z1 16 = 22 → I (z1 16) = 22 := fun q => by rw [q]; decide
  have i23 : z1 16 = 23 → I (z1 16) = 23 := fun q => by rw [q]; decide
  have i24 : z1 16 = 24 → I (z1 16) = 24 := fun q => by rw [q]; decide
  unfold pMw
  by_cases c1 : y.2.1 = 322
  · rw [if_pos c1]
    obtain ⟨w1, w2⟩ := e22.mpr c1
    have := i22 w2
    exact fin 1 1 (by decide) rfl (by omega) (fun res H => go res ⟨fun q => absurd w1 q, fun _ => ⟨fun _ => ⟨fun q => absurd w2 q, fun _ => H⟩, fun q => absurd ⟨by omega, by omega⟩ q⟩⟩)
  · rw [if_neg c1]
    have n22 : z1 15 = 2 → ¬ z1 16 = 22 := fun q q2 => c1 (e22.mp ⟨q, q2⟩)
    by_cases c2 : y.2.1 = 323
    · rw [if_pos c2]
      obtain ⟨w1, w2⟩ := e23.mpr c2
      have := i23 w2
      exact fin (-1) 2 (by decide) rfl (by omega) (fun res H => go res ⟨fun q => absurd w1 q, fun _ => ⟨fun _ => ⟨fun _ => ⟨fun q => absurd w2 q, fun _ => H⟩, fun q => absurd q (n22 w1)⟩, fun q => absurd ⟨by omega, by omega⟩ q⟩⟩)
    · rw [if_neg c2]
      have n23 : z1 15 = 2 → ¬ z1 16 = 23 := fun q q2 => c2 (e23.mp ⟨q, q2⟩)
      by_cases c3 : y.2.1 = 324
      · rw [if_pos c3]
        obtain ⟨w1, w2⟩ := e24.mpr c3
        have := i24 w2
        exact fin 0 0 (by decide) rfl (by omega) (fun res H => go res ⟨fun q => absurd w1 q, fun _ => ⟨fun _ => ⟨fun _ => ⟨fun _ => H, fun q => absurd q (n23 w1)⟩, fun q => absurd q (n22 w1)⟩, fun q => absurd ⟨by omega, by omega⟩ q⟩⟩)
      · rw [if_neg c3]
        have er := er_x (d + 3) 1 (f := uA f 19 (upd (upd (f 19) (p + 1) 0) (p + 3) (nI x.2.2))) a1
        refine ⟨z1, _, go _ ⟨fun _ => ⟨_, _, _, er, rfl⟩, fun w1 => ⟨fun q => ?_, fun _ => ⟨_, _, _, er, rfl⟩⟩⟩, f1⟩
        exfalso
        have q1 : z1 16 = 22 ∨ z1 16 = 23 ∨ z1 16 = 24 := by
          rcases (show I (z1 16) = 22 ∨ I (z1 16) = 23 ∨ I (z1 16) = 24 by omega) with k | k | k
          · exact Or.inl (Int32.toInt_inj.mp k)
          · exact Or.inr (Or.inl (Int32.toInt_inj.mp k))
          · exact Or.inr (Or.inr (Int32.toInt_inj.mp k))
        rcases q1 with k | k | k
        · exact c1 (e22.mp ⟨w1, k⟩)
        · exact c2 (e23.mp ⟨w1, k⟩)
        · exact c3 (e24.mp ⟨w1, k⟩)
/-- a deed's numbers, told once: what, when, with what -/
def pGm (l : List Nat) (p m : Nat) (g : FA) : Prop := (∃ a b c, l = [a, 0, b, c] ∧ c < 12 ∧ g p = nI a ∧ g (p + 1) = nI c ∧ g (p + 2) = 0 ∧ g (p + 3) = nI b) ∨ (∃ a b c e, l = [a, 1, b, c, e] ∧ b < 12 ∧ c < 12 ∧ e < 12 ∧ g p = nI a ∧ g (p + 1) = nI b ∧ g (p + 2) = 1 ∧ g (p + 3) = nI c ∧ g (p + 4) = nI e) ∨ (∃ a b c, l = [a, 2, b, c] ∧ b < m ∧ c < 3 ∧ g p = nI a ∧ g (p + 1) = 0 ∧ g (p + 2) = 2 ∧ g (p + 3) = nI b ∧ g (p + 4) = (if c = 1 then 1 else if c = 2 then -1 else 0))
theorem pXm_k (m : Nat) (ts : List TT) : (match pxI [(1, m)] ts with
      | .inl e => .inl e
      | .inr (l, r') => pJ l (pXm r') : PLS) = (match pXk m ts with
      | .inl e => .inl e
      | .inr (l, r) => pJ l (pxI [(0, 59)] r) : PLS) := by
  unfold pXk
  rcases pxI [(1, m)] ts with e | ⟨l, r⟩
  · rfl
  · cases r with
    | nil => rfl
    | cons x r =>
      show pJ l (if x.2.1 = 322 then pJ [1] (pxI [(0, 59)] r) else if x.2.1 = 323 then pJ [2] (pxI [(0, 59)] r) else if x.2.1 = 324 then pJ [0] (pxI [(0, 59)] r) else .inl (1, x.1)) = (match (match pMw x with
        | .inl e => .inl e
        | .inr l2 => .inr (l ++ l2, r) : PLS) with
        | .inl e => .inl e
        | .inr (l, r) => pJ l (pxI [(0, 59)] r) : PLS)
      unfold pMw
      by_cases c1 : x.2.1 = 322
      · rw [if_pos c1, if_pos c1, pJ_J]
      · rw [if_neg c1, if_neg c1]
        by_cases c2 : x.2.1 = 323
        · rw [if_pos c2, if_pos c2, pJ_J]
        · rw [if_neg c2, if_neg c2]
          by_cases c3 : x.2.1 = 324
          · rw [if_pos c3, if_pos c3, pJ_J]
          · rw [if_neg c3, if_neg c3]
            rfl
theorem prdeed {t : FA} {n i m : Nat} {x : TT} {r : List TT} {C : List TK} {z : Nat → Int32} {f : Nat → FA} (d : Nat) (h : prR t n (x :: r) C z f) (hx : x.2.1 = 320) (hi : i < 16) (h6 : z 6 = nI m) (hm : m ≤ 20) : pMl (d + 7) 253 [vR 0, vI (nI (80 + 5 * i))] t n C z f (pXs m r) (fun l f' => pGm l (80 + 5 * i) m (f' 19) ∧ ∀ j, j < 80 + 5 * i → f' 19 j = f 19 j) := by
  have hp : 80 ≤ 80 + 5 * i := by omega
  have hp2 : 80 + 5 * i ≤ 155 := by omega
  generalize 80 + 5 * i = p at hp hp2
  have go : ∀ res, _ → mcall (d + 7) 253 [vR 0, vI (nI p)] (LR z f) = some res := fun res H => mcall_i (mq253 (cu := [])).2.2 rfl (vc253_0 d (nI p) none none z f res H)
  have p0 : pin (nI p) 160 = true := pin_nI (by omega) (by omega)
  have x0 : ix (nI p) = p := ix_nI (by omega)
  have e2' : nI p + 2 = nI (p + 2) := nI_add p 2
  have p2 : pin (nI p + 2) 160 = true := by rw [e2']; exact pin_nI (by omega) (by omega)
  have xx2 : ix (nI p + 2) = p + 2 := by rw [e2']; exact ix_nI (by omega)
  unfold pXs
  rcases ptold (d + 1) h 20 (by decide) 1000 999 (by decide) with ⟨e, e1, -⟩ | ⟨-, x2, r2, rfl, e1⟩
  · rw [pIt_0 hx] at e1
    cases e1
  rcases e1 with ⟨e, e1, e2⟩ | ⟨e1, b1, b2, b3, z1, s1, s2, s3⟩
  · rw [pxI_e e1]
    obtain ⟨z', f', k1, k2⟩ := e2
    refine ⟨z', uA f' 19 (upd (f' 19) p (-1)), go _ ⟨_, _, _, k1, p0, p0, fun q => ?_, fun _ => ?_⟩, k2.tr (MLF.u19 (by omega))⟩
    · rw [x0, pk_us] at q
      exact absurd rfl q
    · rw [x0]
  have go := fun res H => go res ⟨_, _, _, s1, p0, p0, fun _ => H, fun q => by
    rw [x0, pk_us] at q
    exact absurd q (nI_n1 (by omega))⟩
  rw [x0] at go
  rw [pxI_s e1, show pxI [] r2 = .inr ([], r2) from rfl]
  have s2' := prR_u (g := upd (f 19) p (nI x2.2.2)) s2 (Or.inr (Or.inl rfl))
  have f1 : MLF z f z1 (uA f 19 (upd (f 19) p (nI x2.2.2))) := (MLF.st s3).tr (MLF.u19 (by omega))
  obtain ⟨y, r, rfl⟩ := prR_ne s2'
  obtain ⟨a1, a2, a3, a4⟩ := prR_hd2 s2'
  have e11 : (z1 15 = 2 ∧ z1 16 = 11) ↔ y.2.1 = 307 := pxR_w a2 a3 7 (by decide)
  have e21 : (z1 15 = 2 ∧ z1 16 = 21) ↔ y.2.1 = 321 := pxR_w a2 a3 21 (by decide)
  have e07 : (z1 15 = 2 ∧ z1 16 = 7) ↔ y.2.1 = 303 := pxR_w a2 a3 3 (by decide)
  show pMl (d + 7) 253 [vR 0, vI (nI p)] t n C z f (pJ [x2.2.2] (pXq m (y :: r))) _
  -- behind the deed's word
  have deed : ∀ (w : Int32), ¬ y.2.1 = 2 → ∃ z2, mcall (d + 6) 269 [vR 0] (LR z1 (uA f 19 (upd (f 19) p (nI x2.2.2)))) = some (none, LR z2 (uA f 19 (upd (f 19) p (nI x2.2.2)))) ∧ prR t n r C z2 (uA f 19 (upd (upd (f 19) p (nI x2.2.2)) (p + 2) w)) ∧ MLF z f z2 (uA f 19 (upd (upd (f 19) p (nI x2.2.2)) (p + 2) w)) ∧ z2 6 = nI m := by
    intro w hy
    obtain ⟨z2, t1, t2, t3⟩ := prstep s2' hy (d + 3)
    have t2' := prR_u (g := upd (upd (f 19) p (nI x2.2.2)) (p + 2) w) t2 (Or.inr (Or.inl rfl))
    rw [uA_uA] at t2'
    have k := (f1.tr (MLF.st t3)).tr (MLF.u19 (j := p + 2) (v := w) (by omega))
    rw [uA_self, uA_uA] at k
    exact ⟨z2, t1, t2', k, (k.1 6 (by decide) (by decide) (by decide) (by decide)).trans h6⟩
  -- behind the deed: the line's end
  have last : ∀ (w x2' : Int32) (q : PLS) (kk : Nat) (z2 : Nat → Int32) (G : List Nat → (Nat → FA) → Prop) (v : List Nat), prR t n r C z2 (uA f 19 (upd (upd (f 19) p (nI x2.2.2)) (p + 2) w)) → MLF z f z2 (uA f 19 (upd (upd (f 19) p (nI x2.2.2)) (p + 2) w)) → pMd (d + 6) kk p t n C z2 (uA f 19 (upd (upd (f 19) p (nI x2.2.2)) (p + 2) w)) q G → (∀ res, (∃ (r4 : Int32) (z4 : Nat → Int32) (f4 : Nat → FA), mcall (d + 6) kk [vR 0, vI (nI p)] (LR z2 (uA f 19 (upd (upd (f 19) p (nI x2.2.2)) (p + 2) w))) = some (some (vI r4), LR z4 f4) ∧ RC (mcall (d + 6)) (mP 253) 70 [some (vR 0), some (vI (nI p)), some (vI x2'), some (vI r4)] [] (LR z4 f4) res) → mcall (d + 7) 253 [vR 0, vI (nI p)] (LR z f) = some res) → (∀ l f', G l f' → f' 19 p = nI x2.2.2 → f' 19 (p + 2) = w → pGm (x2.2.2 :: (v ++ l)) p m (f' 19)) → pMl (d + 7) 253 [vR 0, vI (nI p)] t n C z f (pJ [x2.2.2] (pJ v (match q with
      | .inl e => .inl e
      | .inr (l, r) => pJ l (pxI [(0, 59)] r)))) (fun l f' => pGm l p m (f' 19) ∧ ∀ j, j < p → f' 19 j = f 19 j) := by
    intro w x2' q kk z2 G v hr2 hf2 hq k hG
    rcases q with e | ⟨l, r'⟩
    · exact hq.pre hf2 (fun z' f' hL => k _ ⟨_, _, _, hL, vcc70_253_70 d _ _ _ _ _ _ ⟨fun q => absurd rfl q, fun _ => rfl⟩⟩)
    · obtain ⟨vv, z', f', hv, k1, k2, k3, k4, k5⟩ := hq
      have hp0 : f' 19 p = nI x2.2.2 := by
        rw [k4 p (by omega) (by omega) (by omega), uA_self, pk_un (by omega), pk_us]
      have hp2' : f' 19 (p + 2) = w := by
        rw [k4 (p + 2) (by omega) (by omega) (by omega), uA_self, pk_us]
      have hlo : ∀ j, j < p → f' 19 j = f 19 j := fun j hj => by
        rw [k4 j (by omega) (by omega) (by omega), uA_self, pk_un (by omega), pk_un (by omega)]
      have g := hG l f' k5 hp0 hp2'
      obtain ⟨x9, r9, rfl⟩ := prR_ne k2
      show pMl (d + 7) 253 [vR 0, vI (nI p)] t n C z f (pJ [x2.2.2] (pJ v (pJ l (pxI [(0, 59)] (x9 :: r9))))) _
      rcases pmark (d + 2) k2 with ⟨e, e11, e12⟩ | ⟨e11, z4, v1, v2, v3⟩
      · rw [pxI_e e11]
        exact e12.pre (hf2.tr k3) (fun z'' f'' hL => k _ ⟨_, _, _, k1, vcc70_253_70 d _ _ _ _ _ _ ⟨fun _ => ⟨_, _, _, hL, rfl⟩, fun q => absurd q (nI_n1 hv)⟩⟩)
      · rw [pxI_s e11, show pxI [] r9 = .inr ([], r9) from rfl, pJ_J, pJ_J]
        refine ⟨z4, f', k _ ⟨_, _, _, k1, vcc70_253_70 d _ _ _ _ _ _ ⟨fun _ => ⟨_, _, _, v1, rfl⟩, fun q => absurd q (nI_n1 hv)⟩⟩, v2, (hf2.tr k3).tr (MLF.st v3), ?_, hlo⟩
        show pGm ([x2.2.2] ++ v ++ l ++ []) p m (f' 19)
        rw [List.append_nil, show [x2.2.2] ++ v ++ l = x2.2.2 :: (v ++ l) from by rw [List.append_assoc]; rfl]
        exact g
  show pMl (d + 7) 253 [vR 0, vI (nI p)] t n C z f (pJ [x2.2.2] (if y.2.1 = 307 then pJ [0] (pxI [(1, 10), (0, 318), (1, 12), (0, 59)] r) else if y.2.1 = 321 then pJ [1] (pxI [(0, 318), (1, 12), (1, 12), (1, 12), (0, 59)] r) else if y.2.1 = 303 then pJ [2] (match pxI [(1, m)] r with
      | .inl e => .inl e
      | .inr (l, r') => pJ l (pXm r')) else .inl (1, y.1))) _
  by_cases c1 : y.2.1 = 307
  · rw [if_pos c1, show pxI [(1, 10), (0, 318), (1, 12), (0, 59)] r = _ from pxI_app [(0, 59)] [(1, 10), (0, 318), (1, 12)] r]
    have w1 := e11.mpr c1
    obtain ⟨z2, t1, t2, t3, t4⟩ := deed 0 (by omega)
    refine last 0 0 _ 254 z2 _ [0] t2 t3 (prheat d t2 hp hp2) (fun res H => go res ⟨fun _ => vcc44_253_44 d (nI p) 0 none z1 _ res ⟨z2, _, t1, p2, fun q => absurd rfl q, fun _ => ?_⟩, fun q => absurd w1 q⟩) ?_
    · rw [xx2, uA_self, uA_uA]
      exact H
    · rintro l f' ⟨a, b, rfl, ha, hb, g1, g2⟩ h0 h2
      exact Or.inl ⟨x2.2.2, a, b, rfl, hb, h0, g2, h2, g1⟩
  · have n1 : ¬ (z1 15 = 2 ∧ z1 16 = 11) := fun q => c1 (e11.mp q)
    rw [if_neg c1]
    by_cases c2 : y.2.1 = 321
    · rw [if_pos c2, show pxI [(0, 318), (1, 12), (1, 12), (1, 12), (0, 59)] r = _ from pxI_app [(0, 59)] [(0, 318), (1, 12), (1, 12), (1, 12)] r]
      have w1 := e21.mpr c2
      obtain ⟨z2, t1, t2, t3, t4⟩ := deed 1 (by omega)
      refine last 1 1 _ 260 z2 _ [1] t2 t3 (prputty d t2 hp hp2) (fun res H => go res ⟨fun q => absurd q n1, fun _ => ⟨fun _ => vcc44_253_44 d (nI p) 1 none z1 _ res ⟨z2, _, t1, p2, fun _ => ⟨fun q => absurd rfl q, fun _ => ?_⟩, fun q => absurd q one_n⟩, fun q => absurd w1 q⟩⟩) ?_
      · rw [xx2, uA_self, uA_uA]
        exact H
      · rintro l f' ⟨a, b, c, rfl, ha, hb, hc, g1, g2, g3⟩ h0 h2
        exact Or.inr (Or.inl ⟨x2.2.2, a, b, c, rfl, ha, hb, hc, h0, g1, h2, g2, g3⟩)
    · have n2 : ¬ (z1 15 = 2 ∧ z1 16 = 21) := fun q => c2 (e21.mp q)
      rw [if_neg c2]
      by_cases c3 : y.2.1 = 303
      · rw [if_pos c3, pXm_k]
        have w1 := e07.mpr c3
        obtain ⟨z2, t1, t2, t3, t4⟩ := deed 2 (by omega)
        refine last 2 2 _ 257 z2 _ [2] t2 t3 (prmind (d + 1) t2 hp hp2 t4 hm) (fun res H => go res ⟨fun q => absurd q n1, fun _ => ⟨fun q => absurd q n2, fun _ => ⟨fun _ => vcc44_253_44 d (nI p) 2 none z1 _ res ⟨z2, _, t1, p2, fun _ => ⟨fun _ => ?_, fun q => absurd q (by decide)⟩, fun q => absurd q (by decide)⟩, fun q => absurd w1 q⟩⟩⟩) ?_
        · rw [xx2, uA_self, uA_uA]
          exact H
        · rintro l f' ⟨a, b, rfl, ha, hb, g1, g2, g3⟩ h0 h2
          exact Or.inr (Or.inr ⟨x2.2.2, a, b, rfl, ha, hb, h0, g1, h2, g2, g3⟩)
      · have n3 : ¬ (z1 15 = 2 ∧ z1 16 = 7) := fun q => c3 (e07.mp q)
        rw [if_neg c3]
        exact ⟨z1, _, go _ ⟨fun q => absurd q n1, fun _ => ⟨fun q => absurd q n2, fun _ => ⟨fun q => absurd q n3, fun _ => ⟨_, _, _, er_x (d + 5) 1 a1, rfl⟩⟩⟩⟩, f1⟩
