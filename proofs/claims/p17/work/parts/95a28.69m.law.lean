/-! the reference's reader: the law, and how a text is taken -/
theorem prR_v {t : FA} {n k : Nat} {ts : List TT} {C : List TK} {z : Nat → Int32} {f : Nat → FA} {g : FA} (h : prR t n ts C z f) (hk : k ≠ 8 ∧ k ≠ 9 ∧ k ≠ 15 ∧ k ≠ 16) : prR t n ts C z (uA f k g) := by
  obtain ⟨⟨g1, gY, g2, g3, g4⟩, h6, h10, h11⟩ := h
  refine ⟨⟨by rw [uA_ne (by omega)]; exact g1, by rw [uA_ne (by omega)]; exact gY, g2, g3, g4⟩, h6, h10, by rw [uA_ne (by omega), uA_ne (by omega)]; exact h11⟩
/-- all codes of lines -/
def pfl : List (Nat × List TK × List TK) → List TK
  | [] => []
  | l :: L => l.2.1 ++ l.2.2 ++ pfl L
/-- lines of a law in the draft, the codes from a on -/
def pLl (f : Nat → FA) : Nat → Nat → List (Nat × List TK × List TK) → Prop
  | _, _, [] => True
  | i, a, l :: L => (l.1 < 3 ∧ f 11 (32 + i) = nI l.1 ∧ f 12 (32 + i) = nI a ∧ f 13 (32 + i) = nI (a + prl l.2.1) ∧ f 14 (32 + i) = nI (a + prl l.2.1 + prl l.2.2) ∧ okP l.2.1 ∧ (l.2.2 = [] ∨ okP l.2.2)) ∧ pLl f (i + 1) (a + prl l.2.1 + prl l.2.2) L
/-- what reading a law leaves alone -/
def PRH (z : Nat → Int32) (f : Nat → FA) (z' : Nat → Int32) (f' : Nat → FA) : Prop := (∀ j, j ≠ 13 → j ≠ 14 → j ≠ 15 → j ≠ 16 → j ≠ 26 → j ≠ 27 → j ≠ 29 → z' j = z j) ∧ (∀ k, (k < 11 ∨ 17 < k) → f' k = f k) ∧ (∀ k j, 11 ≤ k → k ≤ 14 → j < 32 → f' k j = f k j) ∧ ∀ j, j < 800 → f' 15 j = f 15 j ∧ f' 16 j = f 16 j
theorem PRH.rf {z : Nat → Int32} {f : Nat → FA} : PRH z f z f := ⟨fun _ _ _ _ _ _ _ _ => rfl, fun _ _ => rfl, fun _ _ _ _ _ => rfl, fun _ _ => ⟨rfl, rfl⟩⟩
theorem PRH.tr {z1 z2 z3 : Nat → Int32} {f1 f2 f3 : Nat → FA} (h1 : PRH z1 f1 z2 f2) (h2 : PRH z2 f2 z3 f3) : PRH z1 f1 z3 f3 := ⟨fun j a b c e g i k => (h2.1 j a b c e g i k).trans (h1.1 j a b c e g i k), fun k a => (h2.2.1 k a).trans (h1.2.1 k a), fun k j a b c => (h2.2.2.1 k j a b c).trans (h1.2.2.1 k j a b c), fun j hj => ⟨(h2.2.2.2 j hj).1.trans (h1.2.2.2 j hj).1, (h2.2.2.2 j hj).2.trans (h1.2.2.2 j hj).2⟩⟩
theorem PRG.h {z z' : Nat → Int32} {f f' : Nat → FA} (h : PRG z f z' f') : PRH z f z' f' := ⟨h.1, fun k a => h.2.1 k (by omega) (by omega) (by omega), fun k j a b _ => by rw [h.2.1 k (by omega) (by omega) (by omega)], h.2.2⟩
theorem PRH.ln {z : Nat → Int32} {f : Nat → FA} {k j : Nat} {v : Int32} (hk : 11 ≤ k) (hk2 : k ≤ 14) (hj : 32 ≤ j) : PRH z f z (uA f k (upd (f k) j v)) := by
  refine ⟨fun _ _ _ _ _ _ _ _ => rfl, fun i a => uA_ne (by omega), fun i j' a b c => ?_, fun j' hj' => by rw [uA_ne (by omega), uA_ne (by omega)]; exact ⟨rfl, rfl⟩⟩
  by_cases e : i = k
  · subst e
    rw [uA_self]
    exact pk_un (by omega)
  · rw [uA_ne e]
/-- lines before keep their numbers -/
def PLK (k : Nat) (f f' : Nat → FA) : Prop := ∀ i j, 11 ≤ i → i ≤ 14 → j < 32 + k → f' i j = f i j
theorem prlaw {t : FA} {n : Nat} (d : Nat) : ∀ (u k : Nat) (ts : List TT) (C : List TK) (z : Nat → Int32) (f : Nat → FA) (o2 : Option PV), k + u = 18 → k ≤ 16 → prR t n ts C z f → z 27 = nI 0 → prl C + ts.length ≤ 401 → match pG u k ts with
    | .inl e => ∃ z' f', RC (mcall (d + 8)) (mP 255) 2 [some (vR 0), some (vI (nI k)), o2] [] (LR z f) (some (vI (-1)), LR (uZ (uZ z' 30 (nI e.1)) 31 (nI e.2)) f') ∧ PRH z f z' f'
    | .inr L => ∃ z' f', RC (mcall (d + 8)) (mP 255) 2 [some (vR 0), some (vI (nI k)), o2] [] (LR z f) (some (vI (nI (k + L.length))), LR z' f') ∧ k + L.length ≤ 16 ∧ (∃ ts', prR t n ts' (C ++ pfl L) z' f' ∧ prl (C ++ pfl L) + ts'.length ≤ 401) ∧ pLl f' k (prl C) L ∧ PLK k f f' ∧ PRH z f z' f' := by
  intro u
  induction u with
  | zero => intro k ts C z f o2 h1 h2; omega
  | succ u ih =>
    intro k ts C z f o2 hu hk h h27 hb
    obtain ⟨x, r, rfl⟩ := prR_ne h
    obtain ⟨a1, a2, a3, a4⟩ := prR_hd2 h
    have hb : prl C + (r.length + 1) ≤ 401 := hb
    have go : ∀ res, _ → RC (mcall (d + 8)) (mP 255) 2 [some (vR 0), some (vI (nI k)), o2] [] (LR z f) res := fun res H => vcc2_255_2 d (nI k) o2 z f res H
    have e0 := pxR_e a2 a3
    have k16 : nI k = 16 ↔ k = 16 := ⟨fun q => nI_inj (a := k) (b := 16) (by omega) (by omega) q, fun q => by rw [q]; rfl⟩
    have eL : (z 15 = 2 ∧ (0 ≤ I (z 16) ∧ I (z 16) ≤ 2)) ↔ (x.2.1 = 300 ∨ x.2.1 = 301 ∨ x.2.1 = 302) := by
      have ht := pxR_t a2 a3
      constructor
      · rintro ⟨q1, q2, q3⟩
        have h3 := ht.mp q1
        have hlt := pxtk_lt a3
        obtain ⟨w1, w2⟩ := a2.2.2.2.2 h3
        obtain ⟨p1, p2, p3, p4⟩ := pxr_ask (x.2.1 - 300) (by omega)
        have hr := pxr_lt (j := x.2.1 - 300) (by omega)
        have i16 : I (z 16) = ((pxr (x.2.1 - 300) : Nat) : Int) := by rw [w2]; exact I_nI (by omega)
        have := p3.mp (by omega)
        omega
      · intro q
        obtain ⟨w1, w2⟩ := a2.2.2.2.2 (by omega)
        obtain ⟨p1, p2, p3, p4⟩ := pxr_ask (x.2.1 - 300) (by omega)
        have i16 : I (z 16) = ((x.2.1 - 300 : Nat) : Int) := by rw [w2, p4 (by omega)]; exact I_nI (by omega)
        exact ⟨w1, by omega, by omega⟩
    show match (if x.2.1 = 2 then .inr [] else if ¬ (x.2.1 = 300 ∨ x.2.1 = 301 ∨ x.2.1 = 302) then .inl (1, x.1) else if 16 ≤ k then .inl (3, x.1) else match pH r with
        | .inl e => .inl e
        | .inr (c, d, r') => match pG u (k + 1) r' with
          | .inl e => .inl e
          | .inr l => .inr ((x.2.1 - 300, c, d) :: l) : (Nat × Nat) ⊕ List (Nat × List TK × List TK)) with
      | .inl e => _
      | .inr L => _
    by_cases c1 : x.2.1 = 2
    · rw [if_pos c1]
      refine ⟨z, f, go _ ⟨fun q => by have := eL.mp q; omega, fun _ => ⟨fun q => absurd (e0.mpr c1) q, fun _ => rfl⟩⟩, hk, ⟨x :: r, ?_, ?_⟩, trivial, fun _ _ _ _ _ => rfl, PRH.rf⟩
      · rw [show pfl [] = [] from rfl, List.append_nil]
        exact h
      · rw [show pfl [] = [] from rfl, List.append_nil]
        exact hb
    · rw [if_neg c1]
      by_cases c2 : x.2.1 = 300 ∨ x.2.1 = 301 ∨ x.2.1 = 302
      · rw [if_neg (fun q => q c2)]
        have w1 := eL.mpr c2
        by_cases c3 : 16 ≤ k
        · rw [if_pos c3]
          exact ⟨z, f, go _ ⟨fun _ => ⟨fun q => absurd (k16.mpr (by omega)) q, fun _ => ⟨_, _, _, er_x (d + 7) 3 a1, rfl⟩⟩, fun q => absurd w1 q⟩, PRH.rf⟩
        · rw [if_neg c3]
          have nk : ¬ nI k = 16 := fun q => by have := k16.mp q; omega
          have ek : 32 + nI k = nI (32 + k) := by rw [show (32 : Int32) = nI 32 from rfl, nI_add]
          have pk : pin (32 + nI k) 48 = true := by rw [ek]; exact pin_nI (by omega) (by omega)
          have xk : ix (32 + nI k) = 32 + k := by rw [ek]; exact ix_nI (by omega)
          have z16 : z 16 = nI (x.2.1 - 300) := by
            obtain ⟨w1, w2⟩ := a2.2.2.2.2 (by omega)
            obtain ⟨p1, p2, p3, p4⟩ := pxr_ask (x.2.1 - 300) (by omega)
            rw [w2, p4 (by omega)]
          -- the line's word
          have h1 := prR_v (k := 11) (g := upd (f 11) (32 + k) (nI (x.2.1 - 300))) h (by omega)
          obtain ⟨z2, s1, s2, s3⟩ := prstep h1 c1 (d + 5)
          have z226 : z2 26 = nI (prl C) := s2.2.2.1
          have h2 := prR_v (k := 12) (g := upd (f 12) (32 + k) (nI (prl C))) s2 (by omega)
          have f2 : PRH z f z2 (uA (uA f 11 (upd (f 11) (32 + k) (nI (x.2.1 - 300)))) 12 (upd (f 12) (32 + k) (nI (prl C)))) := by
            have q := ((PRH.ln (z := z) (f := f) (k := 11) (j := 32 + k) (v := nI (x.2.1 - 300)) (by omega) (by omega) (by omega)).tr (PRF.st s3).g.h).tr (PRH.ln (k := 12) (j := 32 + k) (v := nI (prl C)) (by omega) (by omega) (by omega))
            rw [uA_ne (show 12 ≠ 11 by decide)] at q
            exact q
          have k1 := prsum (d + 2) h2 (by omega)
          have go := fun res H => go res ⟨fun _ => ⟨fun _ => ⟨pk, z2, _, by rw [xk, z16]; exact s1, pk, H⟩, fun q => absurd q nk⟩, fun q => absurd w1 q⟩
          rw [xk, z226, uA_ne (show 12 ≠ 11 by decide)] at go
          have z227 : z2 27 = nI 0 := (s3 27 (by decide) (by decide) (by decide) (by decide)).trans h27
          unfold pH
          cases hs : pxf r 0 0 with
          | inl e =>
            rw [hs] at k1
            obtain ⟨z3, f3, b1, b2⟩ := k1
            exact ⟨z3, f3, go _ ⟨_, _, _, b1, fun q => absurd rfl q, fun _ => rfl⟩, f2.tr b2.g.h⟩
          | inr p =>
            obtain ⟨c, q⟩ := p
            rw [hs] at k1
            obtain ⟨z3, f3, b1, b2, b3⟩ := k1
            obtain ⟨y, q, rfl⟩ := prR_ne b2
            obtain ⟨y1, y2, y3, y4⟩ := prR_hd2 b2
            obtain ⟨l1, l2⟩ := pxf_len _ r (Nat.le_refl _) 0 0 c _ (Or.inl rfl) hs
            have l1 : prl c + (q.length + 1) ≤ r.length + 0 + 0 := l1
            have z326 : z3 26 = nI (prl C + prl c) := by rw [b2.2.2.1, prl_app]
            have z327 : z3 27 = nI 0 := (b3.1 27 (by decide) (by decide) (by decide) (by decide) (by decide)).trans z227
            have h3 := prR_v (k := 13) (g := upd (f3 13) (32 + k) (nI (prl C + prl c))) b2 (by omega)
            have f3' : PRH z f z3 (uA f3 13 (upd (f3 13) (32 + k) (nI (prl C + prl c)))) := (f2.tr b3.g.h).tr (PRH.ln (by omega) (by omega) (by omega))
            have e3 : (z3 15 = 2 ∧ z3 16 = 3) ↔ y.2.1 = 313 := pxR_w y2 y3 13 (by decide)
            have f311 : f3 11 = upd (f 11) (32 + k) (nI (x.2.1 - 300)) := by rw [b3.2.1 11 (by decide) (by decide), uA_ne (by decide), uA_self]
            have f312 : f3 12 = upd (f 12) (32 + k) (nI (prl C)) := by rw [b3.2.1 12 (by decide) (by decide), uA_self]
            have f313 : f3 13 = f 13 := by rw [b3.2.1 13 (by decide) (by decide), uA_ne (by decide), uA_ne (by decide)]
            have f314 : f3 14 = f 14 := by rw [b3.2.1 14 (by decide) (by decide), uA_ne (by decide), uA_ne (by decide)]
            -- from the line's end on
            have fin : ∀ (dd : List TK) (w : TT) (r' : List TT) (z4 : Nat → Int32) (f4 : Nat → FA), prR t n (w :: r') (C ++ c ++ dd) z4 f4 → z4 27 = nI 0 → PRH z f z4 f4 → PRG z3 (uA f3 13 (upd (f3 13) (32 + k) (nI (prl C + prl c)))) z4 f4 → prl dd + (r'.length + 1) ≤ q.length + 1 → okP c → (dd = [] ∨ okP dd) → (∀ res, RC (mcall (d + 8)) (mP 255) 54 [some (vR 0), some (vI (nI k)), some (vI (32 + nI k))] [] (LR z4 f4) res → RC (mcall (d + 8)) (mP 255) 2 [some (vR 0), some (vI (nI k)), o2] [] (LR z f) res) → match (match (if w.2.1 = 59 then .inr (c, dd, r') else .inl (1, w.1) : (Nat × Nat) ⊕ (List TK × List TK × List TT)) with
                | .inl e => .inl e
                | .inr (c, d, r') => match pG u (k + 1) r' with
                  | .inl e => .inl e
                  | .inr l => .inr ((x.2.1 - 300, c, d) :: l) : (Nat × Nat) ⊕ List (Nat × List TK × List TK)) with
              | .inl e => ∃ z' f', RC (mcall (d + 8)) (mP 255) 2 [some (vR 0), some (vI (nI k)), o2] [] (LR z f) (some (vI (-1)), LR (uZ (uZ z' 30 (nI e.1)) 31 (nI e.2)) f') ∧ PRH z f z' f'
              | .inr L => ∃ z' f', RC (mcall (d + 8)) (mP 255) 2 [some (vR 0), some (vI (nI k)), o2] [] (LR z f) (some (vI (nI (k + L.length))), LR z' f') ∧ k + L.length ≤ 16 ∧ (∃ ts', prR t n ts' (C ++ pfl L) z' f' ∧ prl (C ++ pfl L) + ts'.length ≤ 401) ∧ pLl f' k (prl C) L ∧ PLK k f f' ∧ PRH z f z' f' := by
              intro dd w r' z4 f4 q1 q2 q3 q4 q5 q6 q7 back
              obtain ⟨w1', w2', w3', w4'⟩ := prR_hd2 q1
              have e59 := pxR_s w2' w3' 59 (by decide) (by decide)
              have z426 : z4 26 = nI (prl C + prl c + prl dd) := by rw [q1.2.2.1, prl_app, prl_app]
              have q1' := prR_v (k := 14) (g := upd (f4 14) (32 + k) (nI (prl C + prl c + prl dd))) q1 (by omega)
              have q3' : PRH z f z4 (uA f4 14 (upd (f4 14) (32 + k) (nI (prl C + prl c + prl dd)))) := q3.tr (PRH.ln (by omega) (by omega) (by omega))
              have back := fun res H => back res (vcc54_255_54 d (nI k) (32 + nI k) z4 f4 res ⟨pk, H⟩)
              rw [xk, z426] at back
              by_cases c5 : w.2.1 = 59
              · rw [if_pos c5]
                obtain ⟨z5, t1, t2, t3⟩ := prstep q1' (by omega) (d + 5)
                have z527 : z5 27 = nI 0 := (t3 27 (by decide) (by decide) (by decide) (by decide)).trans q2
                have back := fun res H => back res ⟨fun _ => ⟨z5, _, t1, H⟩, fun q => absurd (e59.mpr c5) q⟩
                rw [show nI k + 1 = nI (k + 1) from nI_add k 1] at back
                have k6 := ih (k + 1) r' (C ++ c ++ dd) z5 _ (some (vI (32 + nI k))) (by omega) (by omega) t2 z527 (by rw [prl_app, prl_app]; omega)
                show match (match pG u (k + 1) r' with
                    | .inl e => .inl e
                    | .inr l => .inr ((x.2.1 - 300, c, dd) :: l) : (Nat × Nat) ⊕ List (Nat × List TK × List TK)) with
                  | .inl e => _
                  | .inr L => _
                cases hL : pG u (k + 1) r' with
                | inl e =>
                  rw [hL] at k6
                  obtain ⟨z', f', m1, m2⟩ := k6
                  exact ⟨z', f', back _ m1, (q3'.tr (PRF.st t3).g.h).tr m2⟩
                | inr L =>
                  rw [hL] at k6
                  obtain ⟨z', f', m1, m2, ⟨ts', m3, m3'⟩, m4, m5, m6⟩ := k6
                  have el : k + ((x.2.1 - 300, c, dd) :: L).length = k + 1 + L.length := by show k + (L.length + 1) = _; omega
                  have ef : C ++ pfl ((x.2.1 - 300, c, dd) :: L) = C ++ c ++ dd ++ pfl L := by
                    show C ++ (c ++ dd ++ pfl L) = _
                    rw [List.append_assoc, List.append_assoc, List.append_assoc]
                  refine ⟨z', f', by rw [el]; exact back _ m1, by rw [el]; exact m2, ⟨ts', by rw [ef]; exact m3, by rw [ef]; exact m3'⟩, ⟨⟨?_, ?_, ?_, ?_, ?_, q6, q7⟩, ?_⟩, fun i j i1 i2 hj => ?_, (q3'.tr (PRF.st t3).g.h).tr m6⟩
                  · show x.2.1 - 300 < 3
                    omega
                  · rw [m5 11 (32 + k) (by omega) (by omega) (by omega), uA_ne (by decide), q4.2.1 11 (by decide) (by decide) (by decide), uA_ne (by decide), f311, pk_us]
                  · rw [m5 12 (32 + k) (by omega) (by omega) (by omega), uA_ne (by decide), q4.2.1 12 (by decide) (by decide) (by decide), uA_ne (by decide), f312, pk_us]
                  · rw [m5 13 (32 + k) (by omega) (by omega) (by omega), uA_ne (by decide), q4.2.1 13 (by decide) (by decide) (by decide), uA_self, pk_us]
                  · rw [m5 14 (32 + k) (by omega) (by omega) (by omega), uA_self, pk_us]
                  · rw [prl_app, prl_app] at m4
                    exact m4
                  · rw [m5 i j i1 i2 (by omega)]
                    rcases (show i = 11 ∨ i = 12 ∨ i = 13 ∨ i = 14 by omega) with rfl | rfl | rfl | rfl
                    · rw [uA_ne (by decide), q4.2.1 11 (by decide) (by decide) (by decide), uA_ne (by decide), f311, pk_un (by omega)]
                    · rw [uA_ne (by decide), q4.2.1 12 (by decide) (by decide) (by decide), uA_ne (by decide), f312, pk_un (by omega)]
                    · rw [uA_ne (by decide), q4.2.1 13 (by decide) (by decide) (by decide), uA_self, pk_un (by omega), f313]
                    · rw [uA_self, pk_un (by omega), q4.2.1 14 (by decide) (by decide) (by decide), uA_ne (by decide), f314]
              · rw [if_neg c5]
                exact ⟨z4, _, back _ ⟨fun q => absurd (e59.mp q) c5, fun _ => ⟨_, _, _, er_x (d + 7) 1 w1', rfl⟩⟩, q3'⟩
            have go := fun res H => go res ⟨_, _, _, b1, fun _ => ⟨pk, H⟩, fun q => absurd q neg1_0⟩
            rw [z326] at go
            show match (match (if y.2.1 = 313 then (match pB (2 * q.length + 2) 1 0 false false q with
                | .inl e => .inl e
                | .inr (_, []) => .inl (0, 0)
                | .inr (d, x :: q2) => if x.2.1 = 59 then .inr (c, d, q2) else .inl (1, x.1)) else if y.2.1 = 59 then .inr (c, [], q) else .inl (1, y.1) : (Nat × Nat) ⊕ (List TK × List TK × List TT)) with
                | .inl e => .inl e
                | .inr (c, d, r') => match pG u (k + 1) r' with
                  | .inl e => .inl e
                  | .inr l => .inr ((x.2.1 - 300, c, d) :: l) : (Nat × Nat) ⊕ List (Nat × List TK × List TK)) with
              | .inl e => _
              | .inr L => _
            by_cases c4 : y.2.1 = 313
            · rw [if_pos c4]
              have w3 := e3.mpr c4
              obtain ⟨z4, t1, t2, t3⟩ := prstep h3 (by omega) (d + 5)
              have z427 : z4 27 = nI 0 := (t3 27 (by decide) (by decide) (by decide) (by decide)).trans z327
              have k2 := prany d t2 z427 (by rw [prl_app]; omega)
              have go := fun res H => go res ⟨fun _ => ⟨z4, _, t1, H⟩, fun q => absurd w3 q⟩
              cases hB : pB (2 * q.length + 2) 1 0 false false q with
              | inl e =>
                rw [hB] at k2
                obtain ⟨z5, f5, g1, g2⟩ := k2
                exact ⟨z5, f5, go _ ⟨_, _, _, g1, fun q => absurd rfl q, fun _ => rfl⟩, (f3'.tr (PRF.st t3).g.h).tr g2.h⟩
              | inr p2 =>
                obtain ⟨dd, q2⟩ := p2
                rw [hB] at k2
                obtain ⟨z5, f5, g1, g2, g3, g4⟩ := k2
                obtain ⟨w, q2, rfl⟩ := prR_ne g2
                obtain ⟨l3, l4⟩ := (pB_len _).2 _ _ _ _ _ _ hB
                have l3 : prl dd + (q2.length + 1) ≤ q.length + 0 + 0 := l3
                exact fin dd w q2 z5 f5 g2 g3 ((f3'.tr (PRF.st t3).g.h).tr g4.h) ((PRF.st t3).g.tr g4) (by omega) (pxf_okP hs) (Or.inr (pB_okP hB)) (fun res hr => go res ⟨_, _, _, g1, fun _ => hr, fun q => absurd q neg1_0⟩)
            · rw [if_neg c4]
              have n3 : ¬ (z3 15 = 2 ∧ z3 16 = 3) := fun q => c4 (e3.mp q)
              have h3' : prR t n (y :: q) (C ++ c ++ []) z3 (uA f3 13 (upd (f3 13) (32 + k) (nI (prl C + prl c)))) := by
                rw [List.append_nil]
                exact h3
              exact fin [] y q z3 _ h3' z327 f3' PRG.rf (by show 0 + (q.length + 1) ≤ _; omega) (pxf_okP hs) (Or.inl rfl) (fun res hr => go res ⟨fun q => absurd q n3, fun _ => hr⟩)
      · rw [if_pos c2]
        exact ⟨z, f, go _ ⟨fun q => absurd (eL.mp q) c2, fun _ => ⟨fun _ => ⟨_, _, _, er_x (d + 7) 1 a1, rfl⟩, fun q => absurd (e0.mp q) c1⟩⟩, PRH.rf⟩
/-- codes that lie elsewhere -/
theorem tkR_sh {o a o' a' : FA} {s : Nat} : ∀ (P : List TK) (i j : Nat), (∀ k, i ≤ k → k < j → o' k = o (s + k) ∧ a' k = a (s + k)) → tkR P o a (s + i) (s + j) → tkR P o' a' i j := by
  intro P
  induction P with
  | nil =>
    intro i j _ h
    have h : s + i = s + j := h
    show i = j
    omega
  | cons e P ih =>
    intro i j hk h
    have hl2 := tkR_len _ h
    have hl2 : s + j = s + i + ((if e.1 = 2 then 2 else 1) + prl P) := hl2
    obtain ⟨h1, h2, h3⟩ := h
    refine ⟨h1, h2, ?_⟩
    by_cases c : e.1 = 2
    · rw [if_pos c] at h3 hl2 ⊢
      obtain ⟨a1, a2, a3, a4⟩ := h3
      refine ⟨by rw [(hk i (by omega) (by omega)).1]; exact a1, by rw [(hk i (by omega) (by omega)).2]; exact a2, ?_, ih (i + 2) j (fun k q1 q2 => hk k (by omega) q2) ?_⟩
      · rw [(hk (i + 1) (by omega) (by omega)).1, show s + (i + 1) = s + i + 1 by omega]
        exact a3
      · rw [show s + (i + 2) = s + i + 2 by omega]
        exact a4
    · rw [if_neg c] at h3 hl2 ⊢
      obtain ⟨a1, a2, a3⟩ := h3
      refine ⟨by rw [(hk i (by omega) (by omega)).1]; exact a1, fun q => by rw [(hk i (by omega) (by omega)).2]; exact a2 q, ih (i + 1) j (fun k q1 q2 => hk k (by omega) q2) ?_⟩
      rw [show s + (i + 1) = s + i + 1 by omega]
      exact a3
theorem pLl_at {f : Nat → FA} {o a : FA} {d0 : Nat × List TK × List TK} : ∀ (L : List (Nat × List TK × List TK)) (k b : Nat), pLl f k b L → tkR (pfl L) o a (800 + b) (800 + b + prl (pfl L)) → ∀ i, i < L.length → ∃ b', (L.getD i d0).1 < 3 ∧ f 11 (32 + (k + i)) = nI (L.getD i d0).1 ∧ f 12 (32 + (k + i)) = nI b' ∧ f 13 (32 + (k + i)) = nI (b' + prl (L.getD i d0).2.1) ∧ f 14 (32 + (k + i)) = nI (b' + prl (L.getD i d0).2.1 + prl (L.getD i d0).2.2) ∧ okP (L.getD i d0).2.1 ∧ ((L.getD i d0).2.2 = [] ∨ okP (L.getD i d0).2.2) ∧ b' + prl (L.getD i d0).2.1 + prl (L.getD i d0).2.2 ≤ b + prl (pfl L) ∧ tkR (L.getD i d0).2.1 o a (800 + b') (800 + (b' + prl (L.getD i d0).2.1)) ∧ tkR (L.getD i d0).2.2 o a (800 + (b' + prl (L.getD i d0).2.1)) (800 + (b' + prl (L.getD i d0).2.1 + prl (L.getD i d0).2.2)) := by
  intro L
  induction L with
  | nil => intro k b _ _ i hi; exact absurd hi (Nat.not_lt_zero _)
  | cons l L ih =>
    intro k b hp ht i hi
    obtain ⟨⟨p1, p2, p3, p4, p5, p6, p7⟩, p8⟩ := hp
    have ef : pfl (l :: L) = l.2.1 ++ l.2.2 ++ pfl L := rfl
    have el : prl (pfl (l :: L)) = prl l.2.1 + prl l.2.2 + prl (pfl L) := by rw [ef, prl_app, prl_app]
    rw [ef] at ht
    obtain ⟨t1, t2⟩ := tkR_spl _ _ _ ht
    obtain ⟨t3, t4⟩ := tkR_spl _ _ _ t1
    cases i with
    | zero =>
      refine ⟨b, p1, p2, p3, p4, p5, p6, p7, by rw [el]; show b + prl l.2.1 + prl l.2.2 ≤ _; omega, ?_, ?_⟩
      · show tkR l.2.1 o a (800 + b) (800 + (b + prl l.2.1))
        rw [show 800 + (b + prl l.2.1) = 800 + b + prl l.2.1 by omega]
        exact t3
      · rw [prl_app] at t4
        show tkR l.2.2 o a (800 + (b + prl l.2.1)) (800 + (b + prl l.2.1 + prl l.2.2))
        rw [show 800 + (b + prl l.2.1) = 800 + b + prl l.2.1 by omega, show 800 + (b + prl l.2.1 + prl l.2.2) = 800 + b + (prl l.2.1 + prl l.2.2) by omega]
        exact t4
    | succ i =>
      have hi : i + 1 < L.length + 1 := hi
      rw [prl_app, prl_app, prl_app] at t2
      rw [show 800 + b + (prl l.2.1 + prl l.2.2) = 800 + (b + prl l.2.1 + prl l.2.2) by omega, show 800 + b + (prl l.2.1 + prl l.2.2 + prl (pfl L)) = 800 + (b + prl l.2.1 + prl l.2.2) + prl (pfl L) by omega] at t2
      obtain ⟨b', q1, q2, q3, q4, q5, q6, q7, q8, q9, q10⟩ := ih (k + 1) (b + prl l.2.1 + prl l.2.2) p8 t2 i (by omega)
      rw [show k + 1 + i = k + (i + 1) by omega] at q2 q3 q4 q5
      exact ⟨b', q1, q2, q3, q4, q5, q6, q7, by rw [el]; show b' + prl (L.getD i d0).2.1 + prl (L.getD i d0).2.2 ≤ _; omega, q9, q10⟩
def pLAW (L : List (Nat × List TK × List TK)) : LAW := fun i => L.getD i (0, [], [])
/-- the law is in force -/
theorem ptakes {f : Nat → FA} {L : List (Nat × List TK × List TK)} (hp : pLl f 0 0 L) (ht : tkR (pfl L) (f 15) (f 16) 800 (800 + prl (pfl L))) (hl : L.length ≤ 16) (hc : prl (pfl L) ≤ 400) : LRM (uA (F2 (prl (pfl L)) (F1 L.length f)) 10 (upd (f 10) 0 (nI L.length))) (pLAW L) L.length ∧ LOK (pLAW L) L.length := by
  have key := pLl_at (o := f 15) (a := f 16) (d0 := (0, [], [])) L 0 0 hp (by rw [Nat.add_zero]; exact ht)
  refine ⟨⟨hl, by rw [uA_self, pk_us], fun i hi => ?_⟩, fun i hi => ?_⟩
  · obtain ⟨b, q1, q2, q3, q4, q5, q6, q7, q8, q9, q10⟩ := key i hi
    rw [Nat.zero_add] at q2 q3 q4 q5 q8
    have g : ∀ k, 11 ≤ k → k ≤ 14 → uA (F2 (prl (pfl L)) (F1 L.length f)) 10 (upd (f 10) 0 (nI L.length)) k i = f k (32 + i) := fun k h1 h2 => by
      rw [uA_ne (by omega), F2_o ⟨by omega, by omega⟩, F1_i ⟨h1, h2⟩]
      exact if_pos hi
    have g2 : ∀ k, k = 15 ∨ k = 16 → ∀ j, j < prl (pfl L) → uA (F2 (prl (pfl L)) (F1 L.length f)) 10 (upd (f 10) 0 (nI L.length)) k j = f k (800 + j) := fun k h1 j hj => by
      rw [uA_ne (by omega), F2_i h1, F1_o (Or.inr (by omega))]
      exact if_pos hj
    refine ⟨b, b + prl ((pLAW L) i).2.1, b + prl ((pLAW L) i).2.1 + prl ((pLAW L) i).2.2, q1, by rw [g 11 (by decide) (by decide)]; exact q2, by rw [g 12 (by decide) (by decide)]; exact q3, by rw [g 13 (by decide) (by decide)]; exact q4, by rw [g 14 (by decide) (by decide)]; exact q5, Nat.le_trans q8 hc, ?_, ?_⟩
    · have q8 : b + prl ((pLAW L) i).2.1 + prl ((pLAW L) i).2.2 ≤ prl (pfl L) := q8
      exact tkR_sh (s := 800) _ _ _ (fun k h1 h2 => ⟨g2 15 (Or.inl rfl) k (by omega), g2 16 (Or.inr rfl) k (by omega)⟩) q9
    · have q8 : b + prl ((pLAW L) i).2.1 + prl ((pLAW L) i).2.2 ≤ prl (pfl L) := q8
      exact tkR_sh (s := 800) _ _ _ (fun k h1 h2 => ⟨g2 15 (Or.inl rfl) k (by omega), g2 16 (Or.inr rfl) k (by omega)⟩) q10
  · obtain ⟨b, q1, q2, q3, q4, q5, q6, q7, -⟩ := key i hi
    exact ⟨q6, q7⟩
