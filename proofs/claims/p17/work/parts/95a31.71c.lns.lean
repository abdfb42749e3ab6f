/-! the class's readTape: the lines -/
/-- what reading a text leaves alone -/
def PL1 (z : Nat → Int32) (f : Nat → FA) (z' : Nat → Int32) (f' : Nat → FA) : Prop := (∀ j, j ≠ 3 → j ≠ 4 → j ≠ 5 → j ≠ 6 → j ≠ 7 → j ≠ 8 → j ≠ 11 → j ≠ 13 → z' j = z j) ∧ ∀ k, k ≠ 3 → k ≠ 2 → f' k = f k
theorem PL1.rf {z : Nat → Int32} {f : Nat → FA} : PL1 z f z f := ⟨fun _ _ _ _ _ _ _ _ _ => rfl, fun _ _ _ => rfl⟩
theorem PL1.tr {z1 z2 z3 : Nat → Int32} {f1 f2 f3 : Nat → FA} (h1 : PL1 z1 f1 z2 f2) (h2 : PL1 z2 f2 z3 f3) : PL1 z1 f1 z3 f3 := ⟨fun j a b c e g i k n => (h2.1 j a b c e g i k n).trans (h1.1 j a b c e g i k n), fun k a b => (h2.2 k a b).trans (h1.2 k a b)⟩
theorem PLZ.o {z z' : Nat → Int32} {f f' : Nat → FA} (h : PLZ z f z' f') : PL1 z f z' f' := ⟨fun j a b c e _ _ _ n => h.1 j a b c e n, h.2⟩
theorem PL1.u {z z' : Nat → Int32} {f f' : Nat → FA} {j : Nat} {x : Int32} (h : PL1 z f z' f') (hj : j = 7 ∨ j = 8 ∨ j = 11) : PL1 z f (uZ z' j x) f' := ⟨fun i a b c e g k n o => by rw [uZ_n (by omega)]; exact h.1 i a b c e g k n o, h.2⟩
theorem pcR_u {t : FA} {n : Nat} {ts : List TT} {C : List TK} {z : Nat → Int32} {f : Nat → FA} {x : Int32} (h : pcR t n ts C z f) : pcR t n ts C (uZ z 11 x) f := by
  obtain ⟨⟨g1, g2, g3⟩, ⟨pl, nx, tk, v, a1, a2, a3, a4, a5⟩, g5, g6⟩ := h
  exact ⟨⟨g1, by rw [uZ_n (by decide)]; exact g2, g3⟩, ⟨pl, nx, tk, v, a1, by rw [uZ_n (by decide)]; exact a2, by rw [uZ_n (by decide)]; exact a3, by rw [uZ_n (by decide)]; exact a4, fun q => by rw [uZ_n (by decide)]; exact a5 q⟩, by rw [uZ_n (by decide)]; exact g5, g6⟩
/-- lines of the law as the class keeps them -/
def pKl (g : FA) : Nat → Nat → List (Nat × List TK × List TK) → Prop
  | _, _, [] => True
  | i, a, l :: L => (g (5 * i) = nI (300 + l.1) ∧ g (5 * i + 1) = nI a ∧ g (5 * i + 2) = nI (a + l.2.1.length) ∧ g (5 * i + 3) = nI (a + l.2.1.length + l.2.2.length)) ∧ pKl g (i + 1) (a + l.2.1.length + l.2.2.length) L
/-- lines of another text -/
def pKo (Gp : List Nat → (Nat → Int32) → Prop) (g : FA) : Nat → List (List Nat) → Prop
  | _, [] => True
  | i, l :: L => Gp l (fun w => g (5 * i + w)) ∧ pKo Gp g (i + 1) L
section TapeL
variable {p : Program} {l : Launch} {e : Env} {s : State} {m : MethodId} {args : Array Value} {below : List Frame} {meth : Method} {c : Code} {G : PG} {H : PH} {lb : Nat → Nat} {Φ : Option PV → PH → Prop} {t : FA} {n : Nat}
theorem rtx_law (X : pX p s m args c G 5 cX5_readTape RX5) (hr : meth.sig.returnType = some (.object "ThumbBallot$Text")) (hlk : meth.locks = false) (hi : LbI lb 4) {y2 : Int32} : ∀ (u i : Nat) (ts : List TT) (C : List TK) (z : Nat → Int32) (f : Nat → FA) (h : PH), i + u = 18 → i ≤ 16 → Rep rdF H lb 4 (LPr z f) h → pcR t n ts C z f → z 11 = nI i → C.length + ts.length ≤ 401 → (∀ e' z' f' h', pG u i ts = .inl e' → Rep rdF H lb 4 (LPr z' f') h' → z' 7 = nI e'.1 → z' 8 = nI e'.2 → PL1 z f z' f' → Φ (some vN) h') → (∀ L z' f' h', pG u i ts = .inr L → Rep rdF H lb 4 (LPr z' f') h' → i + L.length ≤ 16 → z' 11 = nI (i + L.length) → (C ++ pfl L).length ≤ 400 → pKl (f' 2) i C.length L → (∀ j, j < 5 * i → f' 2 j = f 2 j) → tkC (C ++ pfl L) (f' 3) 0 → z' 7 = z 7 → z' 8 = z 8 → PL1 z f z' f' → Φ (some (vR h'.length)) (h' ++ [eO 8 [vR (h'.length + 1), vI (z' 11), vR (h'.length + 2)], eI (5 * (i + L.length)) (cpO 80 (5 * (i + L.length)) (f' 2)), eI (C ++ pfl L).length (cpO 400 (C ++ pfl L).length (f' 3))])) → PW p l e (rmD 30 3 488) s m args below meth c G 5 (MQ below (pQ G Φ) args s 3 488 (pF G)) 0 0 h 63 [some (vR (lb 0)), some (vI (nI 0)), some (vI y2), some (vI 1), some (vI (nI i))] [] := by
  intro u
  induction u with
  | zero => intro i ts C z f h h1 h2; omega
  | succ u ih =>
    intro i ts C z f h hu hi16 hR hC h11 hb hbad hok
    obtain ⟨x, r, rfl⟩ := pcR_ne hC
    obtain ⟨a1, a2, a3, a4⟩ := pcR_hd2 hC
    have e2 := pcT_eq a2 a4 2 (by decide) (by decide)
    have hb' : C.length + (r.length + 1) ≤ 401 := hb
    have E : pG (u + 1) i (x :: r) = (if x.2.1 = 2 then .inr [] else if ¬ (x.2.1 = 300 ∨ x.2.1 = 301 ∨ x.2.1 = 302) then .inl (1, x.1) else if 16 ≤ i then .inl (3, x.1) else match pH r with
        | .inl e => .inl e
        | .inr (c, d, r') => match pG u (i + 1) r' with
          | .inl e => .inl e
          | .inr l => .inr ((x.2.1 - 300, c, d) :: l)) := rfl
    by_cases c1 : x.2.1 = 2
    · rw [if_pos c1] at E
      have z5 := e2.mpr c1
      refine rtx_63e X hR hi16 z5 ?_
      have k := hok [] z f h E hR hi16 h11 (by show (C ++ []).length ≤ 400; rw [List.append_nil]; omega) trivial (fun _ _ => rfl) (by show tkC (C ++ []) (f 3) 0; rw [List.append_nil]; exact hC.2.2.2) rfl rfl PL1.rf
      rw [show C ++ pfl [] = C from List.append_nil C, h11] at k
      exact rtx_good X hr hlk hR h11 (pcR_C hC) (by omega) (by omega) k
    · rw [if_neg c1] at E
      have n5 : ¬ z 5 = 2 := fun q => c1 (e2.mp q)
      obtain ⟨o1, o2, o3⟩ := popens 20 hC (k := 0) (by decide) h11 (by omega)
      have null : ∀ (e' : Nat × Nat) (z' : Nat → Int32) (f' : Nat → FA), pG (u + 1) i (x :: r) = .inl e' → pCf 0 z f (uZ (uZ z' 7 (nI e'.1)) 8 (nI e'.2)) f' → z' 11 = nI i → PL1 z f z' f' → PW p l e (rmD 30 3 488) s m args below meth c G 5 (MQ below (pQ G Φ) args s 3 488 (pF G)) 0 0 h 63 [some (vR (lb 0)), some (vI (nI 0)), some (vI y2), some (vI 1), some (vI (nI i))] [] := by
        intro e' z' f' hE hc q11 hz
        refine rtx_lineF X hi (by decide) hR hi16 n5 hc (by rw [uZ_n (by decide), uZ_n (by decide)]; exact q11) (fun h'' hR'' => rtx_63n X hr hlk (by omega) ?_)
        exact hbad e' _ f' h'' hE hR'' (by rw [uZ_n (by decide), uZ_n (by decide), uZ_s]) (by rw [uZ_n (by decide), uZ_s]) (((hz.u (Or.inl rfl)).u (Or.inr (Or.inl rfl))).u (Or.inr (Or.inr rfl)))
      by_cases c2 : x.2.1 = 300 ∨ x.2.1 = 301 ∨ x.2.1 = 302
      · rw [if_neg (fun q => q c2)] at E
        have hop : pOp 0 x.2.1 := Or.inl ⟨rfl, c2⟩
        by_cases c3 : 16 ≤ i
        · rw [if_pos c3] at E
          exact null (3, x.1) z f E (Or.inl (o2 hop (by omega))) h11 PL1.rf
        · rw [if_neg c3] at E
          obtain ⟨z1, k1, k2, k3⟩ := o3 hop (by omega)
          have z111 : z1 11 = nI i := (k3.k 11 (by decide)).trans h11
          have f1 : PLZ z f z1 (uA f 2 (ptW (f 2) i 0 (nI x.2.1))) := PLZ.tr PLZ.pt k3.l
          have kl := plawline 0 k2 z111 (by omega) (by omega)
          cases hH : pH r with
          | inl e' =>
            rw [hH] at E kl
            obtain ⟨z', f', q1, q2⟩ := kl
            have z'11 : z' 11 = nI i := (q1.1 11 (by decide) (by decide) (by decide) (by decide) (by decide)).trans z111
            rcases q2 with q2 | ⟨z2, f2, q2, q3⟩
            · exact null e' z' f' E (Or.inr (Or.inl ⟨_, _, k1, fun _ => q2, fun q => absurd rfl q⟩)) z'11 (f1.tr q1).o
            · exact null e' z' f' E (Or.inr (Or.inr ⟨_, _, _, _, k1, ⟨fun _ => q2, fun q => absurd rfl q⟩, q3⟩)) z'11 (f1.tr q1).o
          | inr pp =>
            obtain ⟨a, b, r'⟩ := pp
            rw [hH] at E kl
            obtain ⟨z2, f2, z', f', q1, q2, q3, q4, q5⟩ := kl
            obtain ⟨g1, g2, g3, g4⟩ := pH_ok hH
            have la := prl_le a
            have lb' := prl_le b
            have z'11 : z' 11 = nI i := (q4.1 11 (by decide) (by decide) (by decide) (by decide) (by decide)).trans z111
            have fz := (f1.tr q4).o
            have E' : pG (u + 1) i (x :: r) = match pG u (i + 1) r' with
                | .inl e => .inl e
                | .inr l => .inr ((x.2.1 - 300, a, b) :: l) := E
            have lcab : (C ++ a ++ b).length = C.length + a.length + b.length := by rw [List.length_append, List.length_append]
            refine rtx_lineG X hi (by decide) hR hi16 n5 ⟨_, _, _, _, k1, ⟨fun _ => q1, fun q => absurd rfl q⟩, q2⟩ z'11 (fun h'' hR'' => ?_)
            refine ih (i + 1) r' (C ++ a ++ b) (uZ z' 11 (nI (i + 1))) f' h'' (by omega) (by omega) hR'' (pcR_u q3) uZ_s (by rw [lcab]; omega) (fun e' z3 f3 h3 hE hR3 w1 w2 w3 => ?_) (fun L z3 f3 h3 hE hR3 w1 w2 w3 w4 w5 w6 w7 w8 w9 => ?_)
            · rw [hE] at E'
              exact hbad e' z3 f3 h3 E' hR3 w1 w2 ((fz.u (Or.inr (Or.inr rfl))).tr w3)
            · rw [hE] at E'
              have el : i + ((x.2.1 - 300, a, b) :: L).length = i + 1 + L.length := by show i + (L.length + 1) = _; omega
              have ef : C ++ pfl ((x.2.1 - 300, a, b) :: L) = C ++ a ++ b ++ pfl L := by
                show C ++ (a ++ b ++ pfl L) = _
                rw [List.append_assoc, List.append_assoc, List.append_assoc]
              have row : ∀ w, w < 5 → f3 2 (5 * i + w) = f' 2 (5 * i + w) := fun w hw => w5 _ (by omega)
              have q5' : f' 2 = ptW (ptW (ptW (ptW (f 2) i 0 (nI x.2.1)) i 1 (nI C.length)) i 2 (nI (C.length + a.length))) i 3 (nI (C.length + a.length + b.length)) := by rw [q5, uA_self]
              have k := hok ((x.2.1 - 300, a, b) :: L) z3 f3 h3 E' hR3 (by rw [el]; exact w1) (by rw [el]; exact w2) (by rw [ef]; exact w3) ⟨⟨?_, ?_, ?_, ?_⟩, ?_⟩ (fun j hj => ?_) (by rw [ef]; exact w6) ?_ ?_ ((fz.u (Or.inr (Or.inr rfl))).tr w9)
              · rw [ef, el] at k
                exact k
              · show f3 2 (5 * i + 0) = nI (300 + (x.2.1 - 300))
                rw [row 0 (by decide), q5', ptW_n (by decide), ptW_n (by decide), ptW_n (by decide), ptW_s, show 300 + (x.2.1 - 300) = x.2.1 by omega]
              · rw [row 1 (by decide), q5', ptW_n (by decide), ptW_n (by decide), ptW_s]
              · rw [row 2 (by decide), q5', ptW_n (by decide), ptW_s]
              · rw [row 3 (by decide), q5', ptW_s]
              · rw [lcab] at w4
                exact w4
              · rw [w5 j (by omega), q5', ptW_lo hj, ptW_lo hj, ptW_lo hj, ptW_lo hj]
              · rw [w7, uZ_n (by decide), q4.1 7 (by decide) (by decide) (by decide) (by decide) (by decide)]
                exact k3.k 7 (by decide)
              · rw [w8, uZ_n (by decide), q4.1 8 (by decide) (by decide) (by decide) (by decide) (by decide)]
                exact k3.k 8 (by decide)
      · rw [if_pos c2] at E
        refine null (1, x.1) z f E (Or.inl (o1 (fun q => ?_))) h11 PL1.rf
        rcases q with ⟨-, q⟩ | ⟨q, -⟩ | ⟨q, -⟩
        · exact c2 q
        · exact absurd q (by decide)
        · exact absurd q (by decide)
theorem rtx_oth (X : pX p s m args c G 5 cX5_readTape RX5) (hr : meth.sig.returnType = some (.object "ThumbBallot$Text")) (hlk : meth.locks = false) (hi : LbI lb 4) {y2 : Int32} {k mv : Nat} (hk : k = 1 ∨ k = 2 ∨ k = 3) (hm : mv ≤ 20) {Gp : List Nat → (Nat → Int32) → Prop} (hG : ∀ l g g', (∀ w, w < 5 → g' w = g w) → Gp l g → Gp l g') (hline : ∀ (i : Nat) (ts : List TT) (z : Nat → Int32) (f : Nat → FA), pcR t n ts [] z f → z 11 = nI i → i < 16 → z 9 = nI mv → pLn 17 k t n i [] z f (pX4 k mv ts) Gp) : ∀ (u i : Nat) (ts : List TT) (z : Nat → Int32) (f : Nat → FA) (h : PH), i + u = 18 → i ≤ 16 → Rep rdF H lb 4 (LPr z f) h → pcR t n ts [] z f → z 11 = nI i → z 9 = nI mv → (∀ e' z' f' h', pXL k mv u i ts = .inl e' → Rep rdF H lb 4 (LPr z' f') h' → z' 7 = nI e'.1 → z' 8 = nI e'.2 → PL1 z f z' f' → Φ (some vN) h') → (∀ L z' f' h', pXL k mv u i ts = .inr L → Rep rdF H lb 4 (LPr z' f') h' → i + L.length ≤ 16 → z' 11 = nI (i + L.length) → z' 13 = nI 0 → pKo Gp (f' 2) i L → (∀ j, j < 5 * i → f' 2 j = f 2 j) → z' 7 = z 7 → z' 8 = z 8 → PL1 z f z' f' → Φ (some (vR h'.length)) (h' ++ [eO 8 [vR (h'.length + 1), vI (z' 11), vR (h'.length + 2)], eI (5 * (i + L.length)) (cpO 80 (5 * (i + L.length)) (f' 2)), eI 0 (cpO 400 0 (f' 3))])) → PW p l e (rmD 30 3 488) s m args below meth c G 5 (MQ below (pQ G Φ) args s 3 488 (pF G)) 0 0 h 63 [some (vR (lb 0)), some (vI (nI k)), some (vI y2), some (vI 1), some (vI (nI i))] [] := by
  intro u
  induction u with
  | zero => intro i ts z f h h1 h2; omega
  | succ u ih =>
    intro i ts z f h hu hi16 hR hC h11 h9 hbad hok
    obtain ⟨x, r, rfl⟩ := pcR_ne hC
    obtain ⟨a1, a2, a3, a4⟩ := pcR_hd2 hC
    have e2 := pcT_eq a2 a4 2 (by decide) (by decide)
    have k4 : k < 4 := by omega
    have E : pXL k mv (u + 1) i (x :: r) = (if x.2.1 = 2 then .inr [] else if ¬ x.2.1 = (if k = 2 then 320 else 317) then .inl (1, x.1) else if 16 ≤ i then .inl (3, x.1) else match pX4 k mv r with
        | .inl e => .inl e
        | .inr (l, r') => match pXL k mv u (i + 1) r' with
          | .inl e => .inl e
          | .inr L => .inr (l :: L)) := rfl
    have op_iff : pOp k x.2.1 ↔ x.2.1 = (if k = 2 then 320 else 317) := by
      rcases hk with rfl | rfl | rfl
      · exact ⟨fun q => by rcases q with ⟨q, -⟩ | ⟨q, -⟩ | ⟨-, q⟩; exact absurd q (by decide); exact absurd q (by decide); exact q, fun q => Or.inr (Or.inr ⟨Or.inl rfl, q⟩)⟩
      · exact ⟨fun q => by rcases q with ⟨q, -⟩ | ⟨-, q⟩ | ⟨q, -⟩; exact absurd q (by decide); exact q; exact absurd q (by decide), fun q => Or.inr (Or.inl ⟨rfl, q⟩)⟩
      · exact ⟨fun q => by rcases q with ⟨q, -⟩ | ⟨q, -⟩ | ⟨-, q⟩; exact absurd q (by decide); exact absurd q (by decide); exact q, fun q => Or.inr (Or.inr ⟨Or.inr rfl, q⟩)⟩
    by_cases c1 : x.2.1 = 2
    · rw [if_pos c1] at E
      have z5 := e2.mpr c1
      have z13 : z 13 = nI 0 := pcR_C hC
      refine rtx_63e X hR hi16 z5 ?_
      have kk := hok [] z f h E hR hi16 h11 z13 trivial (fun _ _ => rfl) rfl rfl PL1.rf
      rw [h11] at kk
      exact rtx_good X hr hlk hR h11 z13 (by omega) (by omega) kk
    · rw [if_neg c1] at E
      have n5 : ¬ z 5 = 2 := fun q => c1 (e2.mp q)
      obtain ⟨o1, o2, o3⟩ := popens 20 hC k4 h11 (by omega)
      have null : ∀ (e' : Nat × Nat) (z' : Nat → Int32) (f' : Nat → FA), pXL k mv (u + 1) i (x :: r) = .inl e' → pCf k z f (uZ (uZ z' 7 (nI e'.1)) 8 (nI e'.2)) f' → z' 11 = nI i → PL1 z f z' f' → PW p l e (rmD 30 3 488) s m args below meth c G 5 (MQ below (pQ G Φ) args s 3 488 (pF G)) 0 0 h 63 [some (vR (lb 0)), some (vI (nI k)), some (vI y2), some (vI 1), some (vI (nI i))] [] := by
        intro e' z' f' hE hc q11 hz
        refine rtx_lineF X hi k4 hR hi16 n5 hc (by rw [uZ_n (by decide), uZ_n (by decide)]; exact q11) (fun h'' hR'' => rtx_63n X hr hlk (by omega) ?_)
        exact hbad e' _ f' h'' hE hR'' (by rw [uZ_n (by decide), uZ_n (by decide), uZ_s]) (by rw [uZ_n (by decide), uZ_s]) (((hz.u (Or.inl rfl)).u (Or.inr (Or.inl rfl))).u (Or.inr (Or.inr rfl)))
      by_cases c2 : x.2.1 = (if k = 2 then 320 else 317)
      · rw [if_neg (fun q => q c2)] at E
        have hop := op_iff.mpr c2
        by_cases c3 : 16 ≤ i
        · rw [if_pos c3] at E
          exact null (3, x.1) z f E (Or.inl (o2 hop (by omega))) h11 PL1.rf
        · rw [if_neg c3] at E
          obtain ⟨z1, k1, k2, k3⟩ := o3 hop (by omega)
          have z111 : z1 11 = nI i := (k3.k 11 (by decide)).trans h11
          have z19 : z1 9 = nI mv := (k3.k 9 (by decide)).trans h9
          have f1 : PLZ z f z1 (uA f 2 (ptW (f 2) i 0 (nI x.2.1))) := PLZ.tr PLZ.pt k3.l
          have kl := hline i r z1 _ k2 z111 (by omega) z19
          have k0 : k ≠ 0 := by omega
          cases hH : pX4 k mv r with
          | inl e' =>
            rw [hH] at E kl
            rcases kl with ⟨z', f', q2, q1⟩ | ⟨z2, f2, q2, q0, z', f', q3, q1⟩
            · have z'11 : z' 11 = nI i := (q1.1 11 (by decide) (by decide) (by decide) (by decide) (by decide)).trans z111
              exact null e' z' f' E (Or.inr (Or.inl ⟨_, _, k1, fun q => absurd q k0, fun _ => q2⟩)) z'11 (f1.tr q1).o
            · have z'11 : z' 11 = nI i := ((q0.tr q1).1 11 (by decide) (by decide) (by decide) (by decide) (by decide)).trans z111
              exact null e' z' f' E (Or.inr (Or.inr ⟨_, _, _, _, k1, ⟨fun q => absurd q k0, fun _ => q2⟩, q3⟩)) z'11 ((f1.tr q0).tr q1).o
          | inr pp =>
            obtain ⟨l', r'⟩ := pp
            rw [hH] at E kl
            obtain ⟨z2, f2, z', f', q1, q2, q3, q4, q5, q6⟩ := kl
            have z'11 : z' 11 = nI i := (q4.1 11 (by decide) (by decide) (by decide) (by decide) (by decide)).trans z111
            have z'9 : z' 9 = nI mv := (q4.1 9 (by decide) (by decide) (by decide) (by decide) (by decide)).trans z19
            have fz := (f1.tr q4).o
            have E' : pXL k mv (u + 1) i (x :: r) = match pXL k mv u (i + 1) r' with
                | .inl e => .inl e
                | .inr L => .inr (l' :: L) := E
            refine rtx_lineG X hi k4 hR hi16 n5 ⟨_, _, _, _, k1, ⟨fun q => absurd q k0, fun _ => q1⟩, q2⟩ z'11 (fun h'' hR'' => ?_)
            refine ih (i + 1) r' (uZ z' 11 (nI (i + 1))) f' h'' (by omega) (by omega) hR'' (pcR_u q3) uZ_s (by rw [uZ_n (by decide)]; exact z'9) (fun e' z3 f3 h3 hE hR3 w1 w2 w3 => ?_) (fun L z3 f3 h3 hE hR3 w1 w2 w3 w4 w5 w6 w7 w8 => ?_)
            · rw [hE] at E'
              exact hbad e' z3 f3 h3 E' hR3 w1 w2 ((fz.u (Or.inr (Or.inr rfl))).tr w3)
            · rw [hE] at E'
              have el : i + (l' :: L).length = i + 1 + L.length := by show i + (L.length + 1) = _; omega
              have kk := hok (l' :: L) z3 f3 h3 E' hR3 (by rw [el]; exact w1) (by rw [el]; exact w2) w3 ⟨hG l' _ _ (fun w hw => w5 _ (by omega)) q6, w4⟩ (fun j hj => ?_) ?_ ?_ ((fz.u (Or.inr (Or.inr rfl))).tr w8)
              · rw [el] at kk
                exact kk
              · rw [w5 j (by omega), q5 j hj, uA_self, ptW_lo hj]
              · rw [w6, uZ_n (by decide), q4.1 7 (by decide) (by decide) (by decide) (by decide) (by decide)]
                exact k3.k 7 (by decide)
              · rw [w7, uZ_n (by decide), q4.1 8 (by decide) (by decide) (by decide) (by decide) (by decide)]
                exact k3.k 8 (by decide)
      · rw [if_pos c2] at E
        exact null (1, x.1) z f E (Or.inl (o1 (fun q => c2 (op_iff.mp q)))) h11 PL1.rf
end TapeL
