/-! the reference's reader: lines of the other texts -/
/-- what reading the other texts leaves alone: the drafts apart -/
def MLF (z : Nat → Int32) (f : Nat → FA) (z' : Nat → Int32) (f' : Nat → FA) : Prop := (∀ j, j ≠ 13 → j ≠ 14 → j ≠ 15 → j ≠ 16 → z' j = z j) ∧ (∀ k, k ≠ 18 → k ≠ 19 → k ≠ 20 → f' k = f k) ∧ (∀ j, j < 48 → f' 18 j = f 18 j) ∧ (∀ j, j < 80 → f' 19 j = f 19 j) ∧ ∀ j, j < 20 → f' 20 j = f 20 j
theorem MLF.rf {z : Nat → Int32} {f : Nat → FA} : MLF z f z f := ⟨fun _ _ _ _ _ => rfl, fun _ _ _ _ => rfl, fun _ _ => rfl, fun _ _ => rfl, fun _ _ => rfl⟩
theorem MLF.tr {z1 z2 z3 : Nat → Int32} {f1 f2 f3 : Nat → FA} (h1 : MLF z1 f1 z2 f2) (h2 : MLF z2 f2 z3 f3) : MLF z1 f1 z3 f3 := ⟨fun j a b c e => (h2.1 j a b c e).trans (h1.1 j a b c e), fun k a b c => (h2.2.1 k a b c).trans (h1.2.1 k a b c), fun j hj => (h2.2.2.1 j hj).trans (h1.2.2.1 j hj), fun j hj => (h2.2.2.2.1 j hj).trans (h1.2.2.2.1 j hj), fun j hj => (h2.2.2.2.2 j hj).trans (h1.2.2.2.2 j hj)⟩
theorem MLF.st {z z' : Nat → Int32} {f : Nat → FA} (h : RDZ z z') : MLF z f z' f := ⟨fun j a b c e => h j a b c e, fun _ _ _ _ => rfl, fun _ _ => rfl, fun _ _ => rfl, fun _ _ => rfl⟩
theorem MLF.u18 {z : Nat → Int32} {f : Nat → FA} {j : Nat} {v : Int32} (hj : 48 ≤ j) : MLF z f z (uA f 18 (upd (f 18) j v)) := ⟨fun _ _ _ _ _ => rfl, fun _ a _ _ => uA_ne a, fun i hi => by rw [uA_self]; exact pk_un (by omega), fun _ _ => by rw [uA_ne (by decide)], fun _ _ => by rw [uA_ne (by decide)]⟩
theorem MLF.u19 {z : Nat → Int32} {f : Nat → FA} {j : Nat} {v : Int32} (hj : 80 ≤ j) : MLF z f z (uA f 19 (upd (f 19) j v)) := ⟨fun _ _ _ _ _ => rfl, fun _ _ a _ => uA_ne a, fun _ _ => by rw [uA_ne (by decide)], fun i hi => by rw [uA_self]; exact pk_un (by omega), fun _ _ => by rw [uA_ne (by decide)]⟩
theorem MLF.u20 {z : Nat → Int32} {f : Nat → FA} {j : Nat} {v : Int32} (hj : 20 ≤ j) : MLF z f z (uA f 20 (upd (f 20) j v)) := ⟨fun _ _ _ _ _ => rfl, fun _ _ _ a => uA_ne a, fun _ _ => by rw [uA_ne (by decide)], fun _ _ => by rw [uA_ne (by decide)], fun i hi => by rw [uA_self]; exact pk_un (by omega)⟩
theorem prR_u {t : FA} {n k : Nat} {ts : List TT} {C : List TK} {z : Nat → Int32} {f : Nat → FA} {g : FA} (h : prR t n ts C z f) (hk : k = 18 ∨ k = 19 ∨ k = 20) : prR t n ts C z (uA f k g) := by
  obtain ⟨⟨g1, gY, g2, g3, g4⟩, h6, h10, h11⟩ := h
  refine ⟨⟨by rw [uA_ne (by omega)]; exact g1, by rw [uA_ne (by omega)]; exact gY, g2, g3, g4⟩, h6, h10, by rw [uA_ne (by omega), uA_ne (by omega)]; exact h11⟩
/-- a fault that is told in a call -/
def pMt (d k : Nat) (As : List PV) (z : Nat → Int32) (f : Nat → FA) (e : Nat × Nat) : Prop := ∃ z' f', mcall d k As (LR z f) = some (some (vI (-1)), LR (uZ (uZ z' 30 (nI e.1)) 31 (nI e.2)) f') ∧ MLF z f z' f'
theorem pMt.pre {d k : Nat} {As : List PV} {z z1 : Nat → Int32} {f f1 : Nat → FA} {e : Nat × Nat} {d' k' : Nat} {As' : List PV} (h : pMt d k As z1 f1 e) (h0 : MLF z f z1 f1) (hk : ∀ z' f', mcall d k As (LR z1 f1) = some (some (vI (-1)), LR z' f') → mcall d' k' As' (LR z f) = some (some (vI (-1)), LR z' f')) : pMt d' k' As' z f e := by
  obtain ⟨z', f', a, b⟩ := h
  exact ⟨z', f', hk _ _ a, h0.tr b⟩
theorem nI_n1 {v : Nat} (h : v < 100000) : ¬ nI v = -1 := by
  intro q
  have q := congrArg I q
  rw [I_nI (by omega)] at q
  have h5 : I (-1) = -1 := by decide
  omega
theorem pmark {t : FA} {n : Nat} {x : TT} {r : List TT} {C : List TK} {z : Nat → Int32} {f : Nat → FA} (d : Nat) (h : prR t n (x :: r) C z f) : (∃ e, pIt 0 59 x = .inl e ∧ pMt (d + 4) 256 [vR 0, vI 59] z f e) ∨ (pIt 0 59 x = .inr [] ∧ ∃ z', mcall (d + 4) 256 [vR 0, vI 59] (LR z f) = some (some (vI 0), LR z' f) ∧ prR t n r C z' f ∧ RDZ z z') := by
  obtain ⟨a1, a2, a3, a4⟩ := prR_hd2 h
  have e59 := pxR_s a2 a3 59 (by decide) (by decide)
  have go : ∀ res, _ → mcall (d + 4) 256 [vR 0, vI 59] (LR z f) = some res := fun res H => mcall_i (mq256 (cu := [])).2.2 rfl (vc256_0 d 59 z f res H)
  by_cases c1 : x.2.1 = 59
  · obtain ⟨z', s1, s2, s3⟩ := prstep h (by omega) d
    exact Or.inr ⟨pIt_0 c1, z', go _ ⟨fun _ => ⟨z', f, s1, rfl⟩, fun q => absurd (e59.mpr c1) q⟩, s2, s3⟩
  · exact Or.inl ⟨(1, x.1), pIt_0e c1, z, f, go _ ⟨fun q => absurd (e59.mp q) c1, fun _ => ⟨_, _, _, er_x (d + 2) 1 a1, rfl⟩⟩, MLF.rf⟩
theorem pnumb {t : FA} {n : Nat} {x : TT} {r : List TT} {C : List TK} {z : Nat → Int32} {f : Nat → FA} (d : Nat) (h : prR t n (x :: r) C z f) (c : Nat) (y : Int32) (hy : I y = (c : Int) - 1) : (∃ e, pIt 1 c x = .inl e ∧ pMt (d + 4) 258 [vR 0, vI 0, vI y] z f e) ∨ (pIt 1 c x = .inr [x.2.2] ∧ x.2.2 < c ∧ x.2.1 = 1 ∧ x.2.2 < 10000 ∧ ∃ z', mcall (d + 4) 258 [vR 0, vI 0, vI y] (LR z f) = some (some (vI (nI x.2.2)), LR z' f) ∧ prR t n r C z' f ∧ RDZ z z') := by
  obtain ⟨a1, a2, a3, a4⟩ := prR_hd2 h
  have en := pxR_n a2 a3
  have i0 : I (0 : Int32) = 0 := by decide
  have go : ∀ res, _ → mcall (d + 4) 258 [vR 0, vI 0, vI y] (LR z f) = some res := fun res H => mcall_i (mq258 (cu := [])).2.2 rfl (vc258_0 d 0 y none z f res H)
  by_cases c1 : x.2.1 = 1
  · have z15 := en.mpr c1
    have z16 := (a2.2.2.1 c1).2
    have v4 := a4 c1
    have i16 : I (z 16) = x.2.2 := by rw [z16]; exact I_nI (by omega)
    by_cases c2 : x.2.2 < c
    · obtain ⟨z', s1, s2, s3⟩ := prstep h (by omega) d
      exact Or.inr ⟨pIt_1 c1 c2, c2, c1, v4, z', go _ ⟨fun _ => ⟨fun _ => ⟨z', f, s1, by rw [z16]⟩, fun q => absurd ⟨by omega, by omega⟩ q⟩, fun q => absurd z15 q⟩, s2, s3⟩
    · exact Or.inl ⟨(2, x.1), pIt_1f c1 c2, z, f, go _ ⟨fun _ => ⟨fun q => by omega, fun _ => ⟨_, _, _, er_x (d + 2) 2 a1, rfl⟩⟩, fun q => absurd z15 q⟩, MLF.rf⟩
  · exact Or.inl ⟨(1, x.1), pIt_1e c1, z, f, go _ ⟨fun q => absurd (en.mp q) c1, fun _ => ⟨_, _, _, er_x (d + 2) 1 a1, rfl⟩⟩, MLF.rf⟩
theorem prR_ne {t : FA} {n : Nat} {ts : List TT} {C : List TK} {z : Nat → Int32} {f : Nat → FA} (h : prR t n ts C z f) : ∃ x r, ts = x :: r := by
  obtain ⟨x, r, e, -⟩ := prR_hd h
  exact ⟨x, r, e⟩
/-- a word, and a number behind it -/
theorem ptold {t : FA} {n : Nat} {x : TT} {r : List TT} {C : List TK} {z : Nat → Int32} {f : Nat → FA} (d : Nat) (h : prR t n (x :: r) C z f) (j : Nat) (hj : j < 26) (c : Nat) (y : Int32) (hy : I y = (c : Int) - 1) : (∃ e, pIt 0 (300 + j) x = .inl e ∧ pMt (d + 5) 263 [vR 0, vI (nI (pxr j)), vI 0, vI y] z f e) ∨ (pIt 0 (300 + j) x = .inr [] ∧ ∃ x2 r2, r = x2 :: r2 ∧ ((∃ e, pIt 1 c x2 = .inl e ∧ pMt (d + 5) 263 [vR 0, vI (nI (pxr j)), vI 0, vI y] z f e) ∨ (pIt 1 c x2 = .inr [x2.2.2] ∧ x2.2.2 < c ∧ x2.2.1 = 1 ∧ x2.2.2 < 10000 ∧ ∃ z', mcall (d + 5) 263 [vR 0, vI (nI (pxr j)), vI 0, vI y] (LR z f) = some (some (vI (nI x2.2.2)), LR z' f) ∧ prR t n r2 C z' f ∧ RDZ z z'))) := by
  obtain ⟨a1, a2, a3, a4⟩ := prR_hd2 h
  have ew := pxR_w a2 a3 j hj
  have go : ∀ res, _ → mcall (d + 5) 263 [vR 0, vI (nI (pxr j)), vI 0, vI y] (LR z f) = some res := fun res H => mcall_i (mq263 (cu := [])).2.2 rfl (vc263_0 d (nI (pxr j)) 0 y z f res H)
  by_cases c1 : x.2.1 = 300 + j
  · obtain ⟨z1, s1, s2, s3⟩ := prstep h (by omega) (d + 1)
    obtain ⟨x2, r2, rfl⟩ := prR_ne s2
    refine Or.inr ⟨pIt_0 c1, x2, r2, rfl, ?_⟩
    rcases pnumb d s2 c y hy with ⟨e, e1, e2⟩ | ⟨e1, b1, b2, b3, z2, t1, t2, t3⟩
    · exact Or.inl ⟨e, e1, e2.pre (MLF.st s3) (fun _ _ hL => go _ ⟨fun _ => ⟨z1, f, s1, _, _, _, hL, rfl⟩, fun q => absurd (ew.mpr c1) q⟩)⟩
    · exact Or.inr ⟨e1, b1, b2, b3, z2, go _ ⟨fun _ => ⟨z1, f, s1, _, _, _, t1, rfl⟩, fun q => absurd (ew.mpr c1) q⟩, t2, s3.trans t3⟩
  · exact Or.inl ⟨(1, x.1), pIt_0e c1, z, f, go _ ⟨fun q => absurd (ew.mp q) c1, fun _ => ⟨_, _, _, er_x (d + 3) 1 a1, rfl⟩⟩, MLF.rf⟩
/-- what a line's reading comes to -/
def pMl (d k : Nat) (As : List PV) (t : FA) (n : Nat) (C : List TK) (z : Nat → Int32) (f : Nat → FA) (p : PLS) (G : List Nat → (Nat → FA) → Prop) : Prop := match p with
  | .inl e => pMt d k As z f e
  | .inr (l, r) => ∃ z' f', mcall d k As (LR z f) = some (some (vI 0), LR z' f') ∧ prR t n r C z' f' ∧ MLF z f z' f' ∧ G l f'
theorem im_z {m : Nat} {x : Int32} (h : x = nI m) (hm : m ≤ 20) : I (x - 1) = (m : Int) - 1 := by
  rw [h]
  cases m with
  | zero => decide
  | succ m =>
    rw [show nI (m + 1) - 1 = nI m from nI_sub (a := m + 1) (b := 1) (by omega), I_nI (by omega)]
    omega
theorem prway {t : FA} {n i m : Nat} {x : TT} {r : List TT} {C : List TK} {z : Nat → Int32} {f : Nat → FA} (d : Nat) (h : prR t n (x :: r) C z f) (hx : x.2.1 = 317) (hi : i < 16) (h6 : z 6 = nI m) (hm : m ≤ 20) : pMl (d + 6) 267 [vR 0, vI (nI (48 + 3 * i))] t n C z f (pXw m r) (fun l f' => (∃ a b c, l = [a, b, c] ∧ a < m ∧ b < 12 ∧ c < 12 ∧ f' 18 (48 + 3 * i) = nI a ∧ f' 18 (48 + 3 * i + 1) = nI b ∧ f' 18 (48 + 3 * i + 2) = nI c) ∧ ∀ j, j < 48 + 3 * i → f' 18 j = f 18 j) := by
  have go : ∀ res, _ → mcall (d + 6) 267 [vR 0, vI (nI (48 + 3 * i))] (LR z f) = some res := fun res H => mcall_i (mq267 (cu := [])).2.2 rfl (vc267_0 d (nI (48 + 3 * i)) z f res H)
  have p0 : pin (nI (48 + 3 * i)) 96 = true := pin_nI (by omega) (by omega)
  have p1 : pin (nI (48 + 3 * i) + 1) 96 = true := by rw [show nI (48 + 3 * i) + 1 = nI (48 + 3 * i + 1) from nI_add _ 1]; exact pin_nI (by omega) (by omega)
  have p2 : pin (nI (48 + 3 * i) + 2) 96 = true := by rw [show nI (48 + 3 * i) + 2 = nI (48 + 3 * i + 2) from nI_add _ 2]; exact pin_nI (by omega) (by omega)
  have x0 : ix (nI (48 + 3 * i)) = 48 + 3 * i := ix_nI (by omega)
  have x1 : ix (nI (48 + 3 * i) + 1) = 48 + 3 * i + 1 := by rw [show nI (48 + 3 * i) + 1 = nI (48 + 3 * i + 1) from nI_add _ 1]; exact ix_nI (by omega)
  have x2' : ix (nI (48 + 3 * i) + 2) = 48 + 3 * i + 2 := by rw [show nI (48 + 3 * i) + 2 = nI (48 + 3 * i + 2) from nI_add _ 2]; exact ix_nI (by omega)
  unfold pXw
  rcases ptold d h 17 (by decide) m (z 6 - 1) (im_z h6 hm) with ⟨e, e1, -⟩ | ⟨-, x2, r2, rfl, e1⟩
  · rw [pIt_0 hx] at e1
    cases e1
  rcases e1 with ⟨e, e1, e2⟩ | ⟨e1, b1, b2, b3, z1, s1, s2, s3⟩
  · rw [pxI_e e1]
    obtain ⟨z', f', k1, k2⟩ := e2
    refine ⟨z', uA f' 18 (upd (f' 18) (48 + 3 * i) (-1)), go _ ⟨_, _, _, k1, p0, p0, fun q => ?_, fun _ => ?_⟩, k2.tr (MLF.u18 (by omega))⟩
    · rw [x0, pk_us] at q
      exact absurd rfl q
    · rw [x0]
  have go := fun res H => go res ⟨_, _, _, s1, p0, p0, fun _ => H, fun q => by
    rw [x0, pk_us] at q
    exact absurd q (nI_n1 (by omega))⟩
  rw [x0] at go
  rw [pxI_s e1]
  have s2' := prR_u (g := upd (f 18) (48 + 3 * i) (nI x2.2.2)) s2 (Or.inl rfl)
  have f1 : MLF z f z1 (uA f 18 (upd (f 18) (48 + 3 * i) (nI x2.2.2))) := (MLF.st s3).tr (MLF.u18 (by omega))
  obtain ⟨y, r, rfl⟩ := prR_ne s2'
  rcases ptold d s2' 18 (by decide) 12 11 (by decide) with ⟨e, e3, e4⟩ | ⟨e3, x4, r4, rfl, e4⟩
  · rw [pxI_e e3]
    obtain ⟨z', f', k1, k2⟩ := e4
    refine ⟨z', uA f' 18 (upd (f' 18) (48 + 3 * i + 1) (-1)), go _ ⟨_, _, _, k1, p1, p1, fun q => ?_, fun _ => ?_⟩, (f1.tr k2).tr (MLF.u18 (by omega))⟩
    · rw [x1, pk_us] at q
      exact absurd rfl q
    · rw [x1]
  rw [pxI_s e3]
  rcases e4 with ⟨e, e5, e6⟩ | ⟨e5, b4, b5, b6, z2, t1, t2, t3⟩
  · rw [pxI_e e5]
    obtain ⟨z', f', k1, k2⟩ := e6
    refine ⟨z', uA f' 18 (upd (f' 18) (48 + 3 * i + 1) (-1)), go _ ⟨_, _, _, k1, p1, p1, fun q => ?_, fun _ => ?_⟩, (f1.tr k2).tr (MLF.u18 (by omega))⟩
    · rw [x1, pk_us] at q
      exact absurd rfl q
    · rw [x1]
  have go := fun res H => go res ⟨_, _, _, t1, p1, p1, fun _ => H, fun q => by
    rw [x1, pk_us] at q
    exact absurd q (nI_n1 (by omega))⟩
  rw [x1, uA_self, uA_uA] at go
  rw [pxI_s e5]
  have t2' := prR_u (g := upd (upd (f 18) (48 + 3 * i) (nI x2.2.2)) (48 + 3 * i + 1) (nI x4.2.2)) t2 (Or.inl rfl)
  rw [uA_uA] at t2'
  have f2 : MLF z f z2 (uA f 18 (upd (upd (f 18) (48 + 3 * i) (nI x2.2.2)) (48 + 3 * i + 1) (nI x4.2.2))) := by
    have k := (f1.tr (MLF.st t3)).tr (MLF.u18 (j := 48 + 3 * i + 1) (v := nI x4.2.2) (by omega))
    rw [uA_self, uA_uA] at k
    exact k
  obtain ⟨y2, r, rfl⟩ := prR_ne t2'
  rcases ptold d t2' 19 (by decide) 12 11 (by decide) with ⟨e, e7, e8⟩ | ⟨e7, x6, r6, rfl, e8⟩
  · rw [pxI_e e7]
    obtain ⟨z', f', k1, k2⟩ := e8
    refine ⟨z', uA f' 18 (upd (f' 18) (48 + 3 * i + 2) (-1)), go _ ⟨_, _, _, k1, p2, p2, fun q => ?_, fun _ => ?_⟩, (f2.tr k2).tr (MLF.u18 (by omega))⟩
    · rw [x2', pk_us] at q
      exact absurd rfl q
    · rw [x2']
  rw [pxI_s e7]
  rcases e8 with ⟨e, e9, e10⟩ | ⟨e9, b7, b8, b9, z3, u1, u2, u3⟩
  · rw [pxI_e e9]
    obtain ⟨z', f', k1, k2⟩ := e10
    refine ⟨z', uA f' 18 (upd (f' 18) (48 + 3 * i + 2) (-1)), go _ ⟨_, _, _, k1, p2, p2, fun q => ?_, fun _ => ?_⟩, (f2.tr k2).tr (MLF.u18 (by omega))⟩
    · rw [x2', pk_us] at q
      exact absurd rfl q
    · rw [x2']
  have go := fun res H => go res ⟨_, _, _, u1, p2, p2, fun _ => H, fun q => by
    rw [x2', pk_us] at q
    exact absurd q (nI_n1 (by omega))⟩
  rw [x2', uA_self, uA_uA] at go
  rw [pxI_s e9]
  have u2' := prR_u (g := upd (upd (upd (f 18) (48 + 3 * i) (nI x2.2.2)) (48 + 3 * i + 1) (nI x4.2.2)) (48 + 3 * i + 2) (nI x6.2.2)) u2 (Or.inl rfl)
  rw [uA_uA] at u2'
  have f3 : MLF z f z3 (uA f 18 (upd (upd (upd (f 18) (48 + 3 * i) (nI x2.2.2)) (48 + 3 * i + 1) (nI x4.2.2)) (48 + 3 * i + 2) (nI x6.2.2))) := by
    have k := (f2.tr (MLF.st u3)).tr (MLF.u18 (j := 48 + 3 * i + 2) (v := nI x6.2.2) (by omega))
    rw [uA_self, uA_uA] at k
    exact k
  obtain ⟨y3, r, rfl⟩ := prR_ne u2'
  rcases pmark (d + 1) u2' with ⟨e, e11, e12⟩ | ⟨e11, z4, v1, v2, v3⟩
  · rw [pxI_e e11]
    exact e12.pre f3 (fun _ _ hL => go _ ⟨_, _, _, hL, rfl⟩)
  rw [pxI_s e11]
  refine ⟨z4, _, go _ ⟨_, _, _, v1, rfl⟩, v2, f3.tr (MLF.st v3), ⟨x2.2.2, x4.2.2, x6.2.2, rfl, b1, b4, b7, ?_, ?_, ?_⟩, fun j hj => ?_⟩
  · rw [uA_self, pk_un (by omega), pk_un (by omega), pk_us]
  · rw [uA_self, pk_un (by omega), pk_us]
  · rw [uA_self, pk_us]
  · rw [uA_self, pk_un (by omega), pk_un (by omega), pk_un (by omega)]
