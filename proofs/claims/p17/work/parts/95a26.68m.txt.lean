/-! the reference's reader: whole texts -/
theorem prtwin {t : FA} {n m : Nat} {x : TT} {r : List TT} {C : List TK} {z : Nat → Int32} {f : Nat → FA} (d : Nat) (h : prR t n (x :: r) C z f) (hx : x.2.1 = 317) (h6 : z 6 = nI m) (hm : m ≤ 20) : pMl (d + 6) 264 [vR 0] t n C z f (pXt m r) (fun l f' => ∃ a b, l = [a, b] ∧ a < m ∧ b < m ∧ a ≠ b ∧ f' 20 = upd (upd (f 20) (20 + a) (f 20 (20 + a) ||| (1 <<< (nI b &&& 31)))) (20 + b) (f 20 (20 + b) ||| (1 <<< (nI a &&& 31)))) := by
  have go : ∀ res, _ → mcall (d + 6) 264 [vR 0] (LR z f) = some res := fun res H => mcall_i (mq264 (cu := [])).2.2 rfl (vc264_0 d none none z f res H)
  unfold pXt
  rcases ptold d h 17 (by decide) m (z 6 - 1) (im_z h6 hm) with ⟨e, e1, -⟩ | ⟨-, x2, r2, rfl, e1⟩
  · rw [pIt_0 hx] at e1
    cases e1
  rcases e1 with ⟨e, e1, e2⟩ | ⟨e1, b1, b2, b3, z1, s1, s2, s3⟩
  · rw [pxI_e e1]
    exact e2.pre MLF.rf (fun _ _ hL => go _ ⟨_, _, _, hL, fun q => absurd rfl q, fun _ => rfl⟩)
  obtain ⟨y, r, rfl⟩ := prR_ne s2
  rw [pxI_s e1]
  obtain ⟨a1, a2, a3, a4⟩ := prR_hd2 s2
  have e25 : (z1 15 = 2 ∧ z1 16 = 25) ↔ y.2.1 = 325 := pxR_w a2 a3 25 (by decide)
  have nv : ¬ nI x2.2.2 = -1 := nI_n1 (by omega)
  by_cases c1 : y.2.1 = 325
  · rw [pxI_s (pIt_0 c1)]
    obtain ⟨z2, t1, t2, t3⟩ := prstep s2 (by omega) (d + 2)
    obtain ⟨y2, r, rfl⟩ := prR_ne t2
    rw [show pxI [] (y2 :: r) = .inr ([], y2 :: r) from rfl]
    obtain ⟨v1, v2, v3, v4⟩ := prR_hd2 t2
    have en := pxR_n v2 v3
    have f2 : MLF z f z2 f := (MLF.st s3).tr (MLF.st t3)
    have z26 : z2 6 = nI m := (f2.1 6 (by decide) (by decide) (by decide) (by decide)).trans h6
    have go := fun res H => go res ⟨_, _, _, s1, fun _ => ⟨fun _ => ⟨z2, f, t1, H⟩, fun q => absurd (e25.mpr c1) q⟩, fun q => absurd q nv⟩
    show pMl (d + 6) 264 [vR 0] t n C z f (pJ [x2.2.2] (if y2.2.1 = 1 ∧ y2.2.2 = x2.2.2 then .inl (2, y2.1) else pxI [(1, m), (0, 59)] (y2 :: r))) _
    by_cases c2 : y2.2.1 = 1 ∧ y2.2.2 = x2.2.2
    · rw [if_pos c2]
      have w16 : z2 16 = nI x2.2.2 := by rw [(v2.2.2.1 c2.1).2, c2.2]
      exact ⟨z2, f, go _ ⟨fun q => absurd (en.mpr c2.1) q, fun _ => ⟨fun q => absurd w16 q, fun _ => ⟨_, _, _, er_x (d + 4) 2 v1, rfl⟩⟩⟩, f2⟩
    · rw [if_neg c2]
      have both : ∀ res, (∃ (r3 : Int32) (z3 : Nat → Int32) (f3 : Nat → FA), mcall (d + 5) 258 [vR 0, vI 0, vI (z2 6 - 1)] (LR z2 f) = some (some (vI r3), LR z3 f3) ∧ ((¬ r3 = (-1) → (pin (20 + nI x2.2.2) 40 = true ∧ (pin (20 + nI x2.2.2) 40 = true ∧ (pin (20 + r3) 40 = true ∧ (pin (20 + r3) 40 = true ∧ (∃ (r4 : Int32) (z4 : Nat → Int32) (f4 : Nat → FA), mcall (d + 5) 256 [vR 0, vI 59] (LR z3 (uA (uA f3 20 (upd (f3 20) (ix (20 + nI x2.2.2)) ((f3 20 (ix (20 + nI x2.2.2))) ||| (1 <<< (r3 &&& 31))))) 20 (upd (upd (f3 20) (ix (20 + nI x2.2.2)) ((f3 20 (ix (20 + nI x2.2.2))) ||| (1 <<< (r3 &&& 31)))) (ix (20 + r3)) (((upd (f3 20) (ix (20 + nI x2.2.2)) ((f3 20 (ix (20 + nI x2.2.2))) ||| (1 <<< (r3 &&& 31)))) (ix (20 + r3))) ||| (1 <<< (nI x2.2.2 &&& 31)))))) = some (some (vI r4), LR z4 f4) ∧ res = (some (vI r4), LR z4 f4))))))) ∧ (r3 = (-1) → res = (some (vI ((-1))), LR z3 f3)))) → mcall (d + 6) 264 [vR 0] (LR z f) = some res := fun res H => go res ⟨fun _ => H, fun q3 => ⟨fun _ => H, fun q => by
        exfalso
        have n1 := en.mp q3
        have hv := v4 n1
        rw [(v2.2.2.1 n1).2] at q
        exact c2 ⟨n1, nI_inj (by omega) (by omega) q⟩⟩⟩
      rcases pnumb (d + 1) t2 m (z2 6 - 1) (im_z z26 hm) with ⟨e, e3, e4⟩ | ⟨e3, b4, b5, b6, z3, u1, u2, u3⟩
      · rw [pxI_e e3]
        exact e4.pre f2 (fun _ _ hL => both _ ⟨_, _, _, hL, fun q => absurd rfl q, fun _ => rfl⟩)
      have nab : ¬ y2.2.2 = x2.2.2 := fun q => c2 ⟨b5, q⟩
      have ea : 20 + nI x2.2.2 = nI (20 + x2.2.2) := by rw [show (20 : Int32) = nI 20 from rfl, nI_add]
      have eb : 20 + nI y2.2.2 = nI (20 + y2.2.2) := by rw [show (20 : Int32) = nI 20 from rfl, nI_add]
      have pa : pin (20 + nI x2.2.2) 40 = true := by rw [ea]; exact pin_nI (by omega) (by omega)
      have pb : pin (20 + nI y2.2.2) 40 = true := by rw [eb]; exact pin_nI (by omega) (by omega)
      have xa : ix (20 + nI x2.2.2) = 20 + x2.2.2 := by rw [ea]; exact ix_nI (by omega)
      have xb : ix (20 + nI y2.2.2) = 20 + y2.2.2 := by rw [eb]; exact ix_nI (by omega)
      have both := fun res H => both res ⟨_, _, _, u1, fun _ => ⟨pa, pa, pb, pb, H⟩, fun q => absurd q (nI_n1 (by omega))⟩
      rw [xa, xb, uA_uA, pk_un (by omega)] at both
      obtain ⟨y3, r, rfl⟩ := prR_ne u2
      rw [pxI_s e3]
      have u2' := prR_u (g := upd (upd (f 20) (20 + x2.2.2) (f 20 (20 + x2.2.2) ||| (1 <<< (nI y2.2.2 &&& 31)))) (20 + y2.2.2) (f 20 (20 + y2.2.2) ||| (1 <<< (nI x2.2.2 &&& 31)))) u2 (Or.inr (Or.inr rfl))
      have f3 : MLF z f z3 (uA f 20 (upd (upd (f 20) (20 + x2.2.2) (f 20 (20 + x2.2.2) ||| (1 <<< (nI y2.2.2 &&& 31)))) (20 + y2.2.2) (f 20 (20 + y2.2.2) ||| (1 <<< (nI x2.2.2 &&& 31))))) := by
        have k := ((f2.tr (MLF.st u3)).tr (MLF.u20 (j := 20 + x2.2.2) (v := f 20 (20 + x2.2.2) ||| (1 <<< (nI y2.2.2 &&& 31))) (by omega))).tr (MLF.u20 (j := 20 + y2.2.2) (v := f 20 (20 + y2.2.2) ||| (1 <<< (nI x2.2.2 &&& 31))) (by omega))
        rw [uA_self, uA_uA] at k
        exact k
      rcases pmark (d + 1) u2' with ⟨e, e11, e12⟩ | ⟨e11, z4, w1, w2, w3⟩
      · rw [pxI_e e11]
        exact e12.pre f3 (fun _ _ hL => both _ ⟨_, _, _, hL, rfl⟩)
      rw [pxI_s e11]
      exact ⟨z4, _, both _ ⟨_, _, _, w1, rfl⟩, w2, f3.tr (MLF.st w3), x2.2.2, y2.2.2, rfl, b1, b4, fun q => nab q.symm, uA_self _ _ _⟩
  · rw [pxI_e (pIt_0e c1)]
    exact ⟨z1, f, go _ ⟨_, _, _, s1, fun _ => ⟨fun q => absurd (e25.mp q) c1, fun _ => ⟨_, _, _, er_x (d + 4) 1 a1, rfl⟩⟩, fun q => absurd q nv⟩, MLF.st s3⟩
/-- lines of ways, of the sky, in the draft -/
def pLw (m : Nat) (g : FA) : Nat → List (List Nat) → Prop
  | _, [] => True
  | i, l :: L => (∃ a b c, l = [a, b, c] ∧ a < m ∧ b < 12 ∧ c < 12 ∧ g (48 + 3 * i) = nI a ∧ g (48 + 3 * i + 1) = nI b ∧ g (48 + 3 * i + 2) = nI c) ∧ pLw m g (i + 1) L
def pLs (m : Nat) (g : FA) : Nat → List (List Nat) → Prop
  | _, [] => True
  | i, l :: L => pGm l (80 + 5 * i) m g ∧ pLs m g (i + 1) L
/-- the twins' sets behind so many lines -/
def pLt (m : Nat) : FA → List (List Nat) → FA → Prop
  | g, [], g' => g' = g
  | g, l :: L, g' => ∃ a b, l = [a, b] ∧ a < m ∧ b < m ∧ a ≠ b ∧ pLt m (upd (upd g (20 + a) (g (20 + a) ||| (1 <<< (nI b &&& 31)))) (20 + b) (g (20 + b) ||| (1 <<< (nI a &&& 31)))) L g'
/-- how all lines' reading ends -/
def pMa (K : Option PV × QH FA → Prop) (z : Nat → Int32) (f : Nat → FA) (i : Nat) (p : (Nat × Nat) ⊕ List (List Nat)) (G : List (List Nat) → (Nat → FA) → Prop) : Prop := match p with
  | .inl e => ∃ z' f', K (some (vI (-1)), LR (uZ (uZ z' 30 (nI e.1)) 31 (nI e.2)) f') ∧ MLF z f z' f'
  | .inr L => ∃ z' f', K (some (vI (nI (i + L.length))), LR z' f') ∧ i + L.length ≤ 16 ∧ MLF z f z' f' ∧ G L f'
/-- fuel that suffices: lines that are left -/
theorem prways {t : FA} {n m : Nat} {C : List TK} (d : Nat) (hm : m ≤ 20) : ∀ (u i : Nat) (ts : List TT) (z : Nat → Int32) (f : Nat → FA), i + u = 18 → i ≤ 16 → prR t n ts C z f → z 6 = nI m → pMa (fun res => RC (mcall (d + 6)) (mP 268) 2 [some (vR 0), some (vI (nI i))] [] (LR z f) res) z f i (pXL 1 m u i ts) (fun L f' => pLw m (f' 18) i L ∧ ∀ j, j < 48 + 3 * i → f' 18 j = f 18 j) := by
  intro u
  induction u with
  | zero => intro i ts z f h1 h2; omega
  | succ u ih =>
    intro i ts z f hu hi h h6
    obtain ⟨x, r, rfl⟩ := prR_ne h
    obtain ⟨a1, a2, a3, a4⟩ := prR_hd2 h
    have go : ∀ res, _ → RC (mcall (d + 6)) (mP 268) 2 [some (vR 0), some (vI (nI i))] [] (LR z f) res := fun res H => vcc2_268_2 d (nI i) z f res H
    have e17 : (z 15 = 2 ∧ z 16 = 17) ↔ x.2.1 = 317 := pxR_w a2 a3 17 (by decide)
    have e0 := pxR_e a2 a3
    have i16 : nI i = 16 ↔ i = 16 := ⟨fun q => nI_inj (a := i) (b := 16) (by omega) (by omega) q, fun q => by rw [q]; rfl⟩
    show pMa _ z f i (if x.2.1 = 2 then .inr [] else if ¬ x.2.1 = (if (1 : Nat) = 2 then 320 else 317) then .inl (1, x.1) else if 16 ≤ i then .inl (3, x.1) else match pX4 1 m r with
      | .inl e => .inl e
      | .inr (l, r') => match pXL 1 m u (i + 1) r' with
        | .inl e => .inl e
        | .inr L => .inr (l :: L)) _
    rw [if_neg (show ¬ (1 : Nat) = 2 by decide)]
    by_cases c1 : x.2.1 = 2
    · rw [if_pos c1]
      exact ⟨z, f, go _ ⟨fun q => by have := e17.mp q; omega, fun _ => ⟨fun q => absurd (e0.mpr c1) q, fun _ => rfl⟩⟩, hi, MLF.rf, trivial, fun j hj => rfl⟩
    · rw [if_neg c1]
      by_cases c2 : x.2.1 = 317
      · rw [if_neg (fun q => q c2)]
        have w1 := e17.mpr c2
        by_cases c3 : 16 ≤ i
        · rw [if_pos c3]
          exact ⟨z, f, go _ ⟨fun _ => ⟨fun q => absurd (i16.mpr (by omega)) q, fun _ => ⟨_, _, _, er_x (d + 5) 3 a1, rfl⟩⟩, fun q => absurd w1 q⟩, MLF.rf⟩
        · rw [if_neg c3]
          have ni : ¬ nI i = 16 := fun q => by have := i16.mp q; omega
          have ea : 48 + 3 * nI i = nI (48 + 3 * i) := by rw [show (48 : Int32) = nI 48 from rfl, show (3 : Int32) = nI 3 from rfl, mul_nI, nI_add]
          have k := prway (i := i) d h c2 (by omega) h6 hm
          show pMa _ z f i (match pXw m r with
            | .inl e => .inl e
            | .inr (l, r') => match pXL 1 m u (i + 1) r' with
              | .inl e => .inl e
              | .inr L => .inr (l :: L)) _
          cases hp : pXw m r with
          | inl e =>
            rw [hp] at k
            obtain ⟨z', f', k1, k2⟩ := k
            exact ⟨z', f', go _ ⟨fun _ => ⟨fun _ => ⟨_, _, _, by rw [ea]; exact k1, fun q => absurd rfl q, fun _ => rfl⟩, fun q => absurd q ni⟩, fun q => absurd w1 q⟩, k2⟩
          | inr p =>
            obtain ⟨l, r'⟩ := p
            rw [hp] at k
            obtain ⟨z1, f1, k1, k2, k3, ⟨a, b, c, g1, g2, g3, g4, g5, g6, g7⟩, k5⟩ := k
            have z16 : z1 6 = nI m := (k3.1 6 (by decide) (by decide) (by decide) (by decide)).trans h6
            have go := fun res H => go res ⟨fun _ => ⟨fun _ => ⟨_, _, _, by rw [ea]; exact k1, fun _ => H, fun q => absurd q neg1_0⟩, fun q => absurd q ni⟩, fun q => absurd w1 q⟩
            rw [show nI i + 1 = nI (i + 1) from nI_add i 1] at go
            have k6 := ih (i + 1) r' z1 f1 (by omega) (by omega) k2 z16
            show pMa _ z f i (match pXL 1 m u (i + 1) r' with
              | .inl e => .inl e
              | .inr L => .inr (l :: L)) _
            cases hL : pXL 1 m u (i + 1) r' with
            | inl e =>
              rw [hL] at k6
              obtain ⟨z', f', q1, q2⟩ := k6
              exact ⟨z', f', go _ q1, k3.tr q2⟩
            | inr L =>
              rw [hL] at k6
              obtain ⟨z', f', q1, q2, q3, q4, q5⟩ := k6
              have el : i + (l :: L).length = i + 1 + L.length := by show i + (L.length + 1) = _; omega
              refine ⟨z', f', by rw [el]; exact go _ q1, by rw [el]; exact q2, k3.tr q3, ⟨⟨a, b, c, g1, g2, g3, g4, ?_, ?_, ?_⟩, q4⟩, fun j hj => (q5 j (by omega)).trans (k5 j hj)⟩
              · rw [q5 _ (by omega)]; exact g5
              · rw [q5 _ (by omega)]; exact g6
              · rw [q5 _ (by omega)]; exact g7
      · rw [if_pos c2]
        exact ⟨z, f, go _ ⟨fun q => absurd (e17.mp q) c2, fun _ => ⟨fun _ => ⟨_, _, _, er_x (d + 5) 1 a1, rfl⟩, fun q => absurd (e0.mp q) c1⟩⟩, MLF.rf⟩
theorem pGm_lo {l : List Nat} {p m : Nat} {g g' : FA} (h : pGm l p m g) (hg : ∀ j, j < p + 5 → g' j = g j) : pGm l p m g' := by
  unfold pGm at h ⊢
  rw [hg p (by omega), hg (p + 1) (by omega), hg (p + 2) (by omega), hg (p + 3) (by omega), hg (p + 4) (by omega)]
  exact h
theorem prskys {t : FA} {n m : Nat} {C : List TK} (d : Nat) (hm : m ≤ 20) : ∀ (u i : Nat) (ts : List TT) (z : Nat → Int32) (f : Nat → FA), i + u = 18 → i ≤ 16 → prR t n ts C z f → z 6 = nI m → pMa (fun res => RC (mcall (d + 7)) (mP 261) 2 [some (vR 0), some (vI (nI i))] [] (LR z f) res) z f i (pXL 2 m u i ts) (fun L f' => pLs m (f' 19) i L ∧ ∀ j, j < 80 + 5 * i → f' 19 j = f 19 j) := by
  intro u
  induction u with
  | zero => intro i ts z f h1 h2; omega
  | succ u ih =>
    intro i ts z f hu hi h h6
    obtain ⟨x, r, rfl⟩ := prR_ne h
    obtain ⟨a1, a2, a3, a4⟩ := prR_hd2 h
    have go : ∀ res, _ → RC (mcall (d + 7)) (mP 261) 2 [some (vR 0), some (vI (nI i))] [] (LR z f) res := fun res H => vcc2_261_2 d (nI i) z f res H
    have e20 : (z 15 = 2 ∧ z 16 = 20) ↔ x.2.1 = 320 := pxR_w a2 a3 20 (by decide)
    have e0 := pxR_e a2 a3
    have i16 : nI i = 16 ↔ i = 16 := ⟨fun q => nI_inj (a := i) (b := 16) (by omega) (by omega) q, fun q => by rw [q]; rfl⟩
    show pMa _ z f i (if x.2.1 = 2 then .inr [] else if ¬ x.2.1 = (if (2 : Nat) = 2 then 320 else 317) then .inl (1, x.1) else if 16 ≤ i then .inl (3, x.1) else match pX4 2 m r with
      | .inl e => .inl e
      | .inr (l, r') => match pXL 2 m u (i + 1) r' with
        | .inl e => .inl e
        | .inr L => .inr (l :: L)) _
    rw [if_pos (show (2 : Nat) = 2 from rfl)]
    by_cases c1 : x.2.1 = 2
    · rw [if_pos c1]
      exact ⟨z, f, go _ ⟨fun q => by have := e20.mp q; omega, fun _ => ⟨fun q => absurd (e0.mpr c1) q, fun _ => rfl⟩⟩, hi, MLF.rf, trivial, fun j hj => rfl⟩
    · rw [if_neg c1]
      by_cases c2 : x.2.1 = 320
      · rw [if_neg (fun q => q c2)]
        have w1 := e20.mpr c2
        by_cases c3 : 16 ≤ i
        · rw [if_pos c3]
          exact ⟨z, f, go _ ⟨fun _ => ⟨fun q => absurd (i16.mpr (by omega)) q, fun _ => ⟨_, _, _, er_x (d + 6) 3 a1, rfl⟩⟩, fun q => absurd w1 q⟩, MLF.rf⟩
        · rw [if_neg c3]
          have ni : ¬ nI i = 16 := fun q => by have := i16.mp q; omega
          have ea : 80 + 5 * nI i = nI (80 + 5 * i) := by rw [show (80 : Int32) = nI 80 from rfl, show (5 : Int32) = nI 5 from rfl, mul_nI, nI_add]
          have k := prdeed (i := i) d h c2 (by omega) h6 hm
          show pMa _ z f i (match pXs m r with
            | .inl e => .inl e
            | .inr (l, r') => match pXL 2 m u (i + 1) r' with
              | .inl e => .inl e
              | .inr L => .inr (l :: L)) _
          cases hp : pXs m r with
          | inl e =>
            rw [hp] at k
            obtain ⟨z', f', k1, k2⟩ := k
            exact ⟨z', f', go _ ⟨fun _ => ⟨fun _ => ⟨_, _, _, by rw [ea]; exact k1, fun q => absurd rfl q, fun _ => rfl⟩, fun q => absurd q ni⟩, fun q => absurd w1 q⟩, k2⟩
          | inr p =>
            obtain ⟨l, r'⟩ := p
            rw [hp] at k
            obtain ⟨z1, f1, k1, k2, k3, k4, k5⟩ := k
            have z16 : z1 6 = nI m := (k3.1 6 (by decide) (by decide) (by decide) (by decide)).trans h6
            have go := fun res H => go res ⟨fun _ => ⟨fun _ => ⟨_, _, _, by rw [ea]; exact k1, fun _ => H, fun q => absurd q neg1_0⟩, fun q => absurd q ni⟩, fun q => absurd w1 q⟩
            rw [show nI i + 1 = nI (i + 1) from nI_add i 1] at go
            have k6 := ih (i + 1) r' z1 f1 (by omega) (by omega) k2 z16
            show pMa _ z f i (match pXL 2 m u (i + 1) r' with
              | .inl e => .inl e
              | .inr L => .inr (l :: L)) _
            cases hL : pXL 2 m u (i + 1) r' with
            | inl e =>
              rw [hL] at k6
              obtain ⟨z', f', q1, q2⟩ := k6
              exact ⟨z', f', go _ q1, k3.tr q2⟩
            | inr L =>
              rw [hL] at k6
              obtain ⟨z', f', q1, q2, q3, q4, q5⟩ := k6
              have el : i + (l :: L).length = i + 1 + L.length := by show i + (L.length + 1) = _; omega
              exact ⟨z', f', by rw [el]; exact go _ q1, by rw [el]; exact q2, k3.tr q3, ⟨pGm_lo k4 (fun j hj => q5 j (by omega)), q4⟩, fun j hj => (q5 j (by omega)).trans (k5 j hj)⟩
      · rw [if_pos c2]
        exact ⟨z, f, go _ ⟨fun q => absurd (e20.mp q) c2, fun _ => ⟨fun _ => ⟨_, _, _, er_x (d + 6) 1 a1, rfl⟩, fun q => absurd (e0.mp q) c1⟩⟩, MLF.rf⟩
theorem prtwins {t : FA} {n m : Nat} {C : List TK} (d : Nat) (hm : m ≤ 20) : ∀ (u i : Nat) (ts : List TT) (z : Nat → Int32) (f : Nat → FA), i + u = 18 → i ≤ 16 → prR t n ts C z f → z 6 = nI m → pMa (fun res => RC (mcall (d + 6)) (mP 265) 16 [some (vR 0), some (vI (nI i))] [] (LR z f) res) z f i (pXL 3 m u i ts) (fun L f' => pLt m (f 20) L (f' 20)) := by
  intro u
  induction u with
  | zero => intro i ts z f h1 h2; omega
  | succ u ih =>
    intro i ts z f hu hi h h6
    obtain ⟨x, r, rfl⟩ := prR_ne h
    obtain ⟨a1, a2, a3, a4⟩ := prR_hd2 h
    have go : ∀ res, _ → RC (mcall (d + 6)) (mP 265) 16 [some (vR 0), some (vI (nI i))] [] (LR z f) res := fun res H => vcc16_265_16 d (nI i) z f res H
    have e17 : (z 15 = 2 ∧ z 16 = 17) ↔ x.2.1 = 317 := pxR_w a2 a3 17 (by decide)
    have e0 := pxR_e a2 a3
    have i16 : nI i = 16 ↔ i = 16 := ⟨fun q => nI_inj (a := i) (b := 16) (by omega) (by omega) q, fun q => by rw [q]; rfl⟩
    show pMa _ z f i (if x.2.1 = 2 then .inr [] else if ¬ x.2.1 = (if (3 : Nat) = 2 then 320 else 317) then .inl (1, x.1) else if 16 ≤ i then .inl (3, x.1) else match pX4 3 m r with
      | .inl e => .inl e
      | .inr (l, r') => match pXL 3 m u (i + 1) r' with
        | .inl e => .inl e
        | .inr L => .inr (l :: L)) _
    rw [if_neg (show ¬ (3 : Nat) = 2 by decide)]
    by_cases c1 : x.2.1 = 2
    · rw [if_pos c1]
      exact ⟨z, f, go _ ⟨fun q => by have := e17.mp q; omega, fun _ => ⟨fun q => absurd (e0.mpr c1) q, fun _ => rfl⟩⟩, hi, MLF.rf, rfl⟩
    · rw [if_neg c1]
      by_cases c2 : x.2.1 = 317
      · rw [if_neg (fun q => q c2)]
        have w1 := e17.mpr c2
        by_cases c3 : 16 ≤ i
        · rw [if_pos c3]
          exact ⟨z, f, go _ ⟨fun _ => ⟨fun q => absurd (i16.mpr (by omega)) q, fun _ => ⟨_, _, _, er_x (d + 5) 3 a1, rfl⟩⟩, fun q => absurd w1 q⟩, MLF.rf⟩
        · rw [if_neg c3]
          have ni : ¬ nI i = 16 := fun q => by have := i16.mp q; omega
          have k := prtwin d h c2 h6 hm
          show pMa _ z f i (match pXt m r with
            | .inl e => .inl e
            | .inr (l, r') => match pXL 3 m u (i + 1) r' with
              | .inl e => .inl e
              | .inr L => .inr (l :: L)) _
          cases hp : pXt m r with
          | inl e =>
            rw [hp] at k
            obtain ⟨z', f', k1, k2⟩ := k
            exact ⟨z', f', go _ ⟨fun _ => ⟨fun _ => ⟨_, _, _, k1, fun q => absurd rfl q, fun _ => rfl⟩, fun q => absurd q ni⟩, fun q => absurd w1 q⟩, k2⟩
          | inr p =>
            obtain ⟨l, r'⟩ := p
            rw [hp] at k
            obtain ⟨z1, f1, k1, k2, k3, a, b, g1, g2, g3, g4, g5⟩ := k
            have z16 : z1 6 = nI m := (k3.1 6 (by decide) (by decide) (by decide) (by decide)).trans h6
            have go := fun res H => go res ⟨fun _ => ⟨fun _ => ⟨_, _, _, k1, fun _ => H, fun q => absurd q neg1_0⟩, fun q => absurd q ni⟩, fun q => absurd w1 q⟩
            rw [show nI i + 1 = nI (i + 1) from nI_add i 1] at go
            have k6 := ih (i + 1) r' z1 f1 (by omega) (by omega) k2 z16
            show pMa _ z f i (match pXL 3 m u (i + 1) r' with
              | .inl e => .inl e
              | .inr L => .inr (l :: L)) _
            cases hL : pXL 3 m u (i + 1) r' with
            | inl e =>
              rw [hL] at k6
              obtain ⟨z', f', q1, q2⟩ := k6
              exact ⟨z', f', go _ q1, k3.tr q2⟩
            | inr L =>
              rw [hL] at k6
              obtain ⟨z', f', q1, q2, q3, q4⟩ := k6
              have el : i + (l :: L).length = i + 1 + L.length := by show i + (L.length + 1) = _; omega
              rw [g5] at q4
              exact ⟨z', f', by rw [el]; exact go _ q1, by rw [el]; exact q2, k3.tr q3, a, b, g1, g2, g3, g4, q4⟩
      · rw [if_pos c2]
        exact ⟨z, f, go _ ⟨fun q => absurd (e17.mp q) c2, fun _ => ⟨fun _ => ⟨_, _, _, er_x (d + 5) 1 a1, rfl⟩, fun q => absurd (e0.mp q) c1⟩⟩, MLF.rf⟩
