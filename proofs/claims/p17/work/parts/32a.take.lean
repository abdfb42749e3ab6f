/-! takeAll: what becomes of the told lists -/
def CPD (N S S1 D D1 : Nat) (h h' : PH) : Prop := ∃ n g f, n ≤ N ∧ FLD h S 1 (nI n) ∧ h[S1]? = some (eI N g) ∧ (∃ fs, h'[D]? = some (eO 9 fs) ∧ fs[1]? = some (vI (nI n))) ∧ h'[D1]? = some (eI N f) ∧ ∀ j, j < n → f j = g j
def RLt (N S S1 : Nat) (h : PH) : Prop := ∃ n f, n ≤ N ∧ h[S]? = some (eO 9 [vR S1, vI (nI n)]) ∧ h[S1]? = some (eI N f)
theorem rmT_le : ∀ i, i < 9 → rmT i ≤ 400 := by decide
theorem RL_now {lam : Nat → Nat} {h : PH} (hH : HOK lam [] TCl h) : ∀ i, i < 9 → RLt (rmT i) (lam (12 + 2 * i)) (lam (13 + 2 * i)) h := by
  intro i hi
  match i, hi with
  | 0, _ =>
    obtain ⟨n, f, h1, h2, h3⟩ := tl_cells (D := 12) (N := 6) hH rfl rfl (by decide)
    exact ⟨n, f, h1, h2, h3⟩
  | 1, _ =>
    obtain ⟨n, f, h1, h2, h3⟩ := tl_cells (D := 14) (N := 16) hH rfl rfl (by decide)
    exact ⟨n, f, h1, h2, h3⟩
  | 2, _ =>
    obtain ⟨n, f, h1, h2, h3⟩ := tl_cells (D := 16) (N := 15) hH rfl rfl (by decide)
    exact ⟨n, f, h1, h2, h3⟩
  | 3, _ =>
    obtain ⟨n, f, h1, h2, h3⟩ := tl_cells (D := 18) (N := 15) hH rfl rfl (by decide)
    exact ⟨n, f, h1, h2, h3⟩
  | 4, _ =>
    obtain ⟨n, f, h1, h2, h3⟩ := tl_cells (D := 20) (N := 8) hH rfl rfl (by decide)
    exact ⟨n, f, h1, h2, h3⟩
  | 5, _ =>
    obtain ⟨n, f, h1, h2, h3⟩ := tl_cells (D := 22) (N := 8) hH rfl rfl (by decide)
    exact ⟨n, f, h1, h2, h3⟩
  | 6, _ =>
    obtain ⟨n, f, h1, h2, h3⟩ := tl_cells (D := 24) (N := 12) hH rfl rfl (by decide)
    exact ⟨n, f, h1, h2, h3⟩
  | 7, _ =>
    obtain ⟨n, f, h1, h2, h3⟩ := tl_cells (D := 26) (N := 12) hH rfl rfl (by decide)
    exact ⟨n, f, h1, h2, h3⟩
  | 8, _ =>
    obtain ⟨n, f, h1, h2, h3⟩ := tl_cells (D := 28) (N := 12) hH rfl rfl (by decide)
    exact ⟨n, f, h1, h2, h3⟩
  | n + 9, hi => exact absurd hi (by omega)
theorem RL_img {lam : Nat → Nat} {h : PH} (hH : HOK lam [] TCl h) : ∀ i, i < 9 → RLt (rmT i) (lam (41 + 2 * i)) (lam (42 + 2 * i)) h := by
  intro i hi
  match i, hi with
  | 0, _ =>
    obtain ⟨n, f, h1, h2, h3⟩ := tl_cells (D := 41) (N := 6) hH rfl rfl (by decide)
    exact ⟨n, f, h1, h2, h3⟩
  | 1, _ =>
    obtain ⟨n, f, h1, h2, h3⟩ := tl_cells (D := 43) (N := 16) hH rfl rfl (by decide)
    exact ⟨n, f, h1, h2, h3⟩
  | 2, _ =>
    obtain ⟨n, f, h1, h2, h3⟩ := tl_cells (D := 45) (N := 15) hH rfl rfl (by decide)
    exact ⟨n, f, h1, h2, h3⟩
  | 3, _ =>
    obtain ⟨n, f, h1, h2, h3⟩ := tl_cells (D := 47) (N := 15) hH rfl rfl (by decide)
    exact ⟨n, f, h1, h2, h3⟩
  | 4, _ =>
    obtain ⟨n, f, h1, h2, h3⟩ := tl_cells (D := 49) (N := 8) hH rfl rfl (by decide)
    exact ⟨n, f, h1, h2, h3⟩
  | 5, _ =>
    obtain ⟨n, f, h1, h2, h3⟩ := tl_cells (D := 51) (N := 8) hH rfl rfl (by decide)
    exact ⟨n, f, h1, h2, h3⟩
  | 6, _ =>
    obtain ⟨n, f, h1, h2, h3⟩ := tl_cells (D := 53) (N := 12) hH rfl rfl (by decide)
    exact ⟨n, f, h1, h2, h3⟩
  | 7, _ =>
    obtain ⟨n, f, h1, h2, h3⟩ := tl_cells (D := 55) (N := 12) hH rfl rfl (by decide)
    exact ⟨n, f, h1, h2, h3⟩
  | 8, _ =>
    obtain ⟨n, f, h1, h2, h3⟩ := tl_cells (D := 57) (N := 12) hH rfl rfl (by decide)
    exact ⟨n, f, h1, h2, h3⟩
  | n + 9, hi => exact absurd hi (by omega)
theorem kpt_all {W : Nat → Prop} {x y : PE} (h : kpt W x y) (hW : ∀ j, ¬ W j) : y = x := by
  match x, y, h with
  | .inl (.inl (a1, a2, a3)), .inl (.inl (b1, b2, b3)), h =>
    obtain ⟨h1, h2, h3⟩ := h
    have e1 : a1 = b1 := h1
    have e2 : a2 = b2 := h2
    have e3 : a3 = b3 := h3 (hW 999)
    clear h1 h2 h3
    subst e1 e2 e3
    rfl
  | .inl (.inr (a1, a2, a3)), .inl (.inr (b1, b2, b3)), h =>
    obtain ⟨h1, h2, h3⟩ := h
    have e1 : a1 = b1 := h1
    have e2 : a2 = b2 := h2
    have e3 : a3 = b3 := h3 (hW 999)
    clear h1 h2 h3
    subst e1 e2 e3
    rfl
  | .inr (a1, a2), .inr (b1, b2), h =>
    obtain ⟨h1, h2, h3⟩ := h
    have e1 : a1 = b1 := h1
    have e3 : a2 = b2 := List.ext_getElem? (fun j => h3 j (hW j))
    clear h1 h2 h3
    subst e1 e3
    rfl
  | .inl (.inl a), .inl (.inr b), h => cases h
  | .inl (.inr a), .inl (.inl b), h => cases h
  | .inl (.inl a), .inr b, h => cases h
  | .inl (.inr a), .inr b, h => cases h
  | .inr a, .inl (.inl b), h => cases h
  | .inr a, .inl (.inr b), h => cases h
theorem row_eq {h : PH} {a N N' : Nat} {f g : FA} (h1 : h[a]? = some (eI N f)) (h2 : h[a]? = some (eI N' g)) : N = N' ∧ f = g := by
  have e := Option.some.inj (h1.symm.trans h2)
  injection e with e
  injection e with e
  exact ⟨(Prod.mk.inj (Prod.mk.inj e).2).1, (Prod.mk.inj (Prod.mk.inj e).2).2⟩
/- the loop over the told lists, behind the texts -/
set_option maxRecDepth 100000 in
set_option maxHeartbeats 4000000 in
theorem tk_l1 (l : Launch) (G : PG) {lam : Nat → Nat} (hl : LAMC lam) {p : Program} {e : Env} {s : State} {m : MethodId} {args : Array Value} {below : List Frame} {meth : Method} {c : Code} (X : pX p s m args c G 3 cX10_takeAll RX10) (hr : meth.sig.returnType = none) (hlk : meth.locks = false) {Φ : PH → Prop} {h3 : PH}
    {fA fB : List PV} (hA : h3[lam 30]? = some (eO 10 fA)) (gA : fA[3]? = some (vR (lam 37))) (hB : h3[lam 1]? = some (eO 10 fB)) (gB : fB[3]? = some (vR (lam 8)))
    {wD wS : Nat → Option Nat} (hD : h3[lam 37]? = some (eR 3 9 wD)) (hS : h3[lam 8]? = some (eR 3 9 wS)) (eD : ∀ i, i < 9 → wD i = some (lam (41 + 2 * i))) (eS : ∀ i, i < 9 → wS i = some (lam (12 + 2 * i)))
    (rS : ∀ i, i < 9 → RLt (rmT i) (lam (12 + 2 * i)) (lam (13 + 2 * i)) h3) (hΦ : ∀ hh, (∀ a, (∀ i, i < 9 → a ≠ lam (41 + 2 * i) ∧ a ≠ lam (42 + 2 * i)) → hh[a]? = h3[a]?) → (∀ i, i < 9 → ∃ n g f, n ≤ rmT i ∧ h3[lam (12 + 2 * i)]? = some (eO 9 [vR (lam (13 + 2 * i)), vI (nI n)]) ∧ h3[lam (13 + 2 * i)]? = some (eI (rmT i) g) ∧ hh[lam (41 + 2 * i)]? = some (eO 9 [vR (lam (42 + 2 * i)), vI (nI n)]) ∧ hh[lam (42 + 2 * i)]? = some (eI (rmT i) f) ∧ ∀ j, j < n → f j = g j) → Φ hh) :
    ∀ r t : Nat, t + r = 9 → ∀ hh : PH, (∀ a, (∀ i, i < 9 → a ≠ lam (41 + 2 * i) ∧ a ≠ lam (42 + 2 * i)) → hh[a]? = h3[a]?) → (∀ i, i < 9 → t ≤ i → RLt (rmT i) (lam (41 + 2 * i)) (lam (42 + 2 * i)) hh) → (∀ i, i < t → ∃ n g f, n ≤ rmT i ∧ h3[lam (12 + 2 * i)]? = some (eO 9 [vR (lam (13 + 2 * i)), vI (nI n)]) ∧ h3[lam (13 + 2 * i)]? = some (eI (rmT i) g) ∧ hh[lam (41 + 2 * i)]? = some (eO 9 [vR (lam (42 + 2 * i)), vI (nI n)]) ∧ hh[lam (42 + 2 * i)]? = some (eI (rmT i) f) ∧ ∀ j, j < n → f j = g j) →
      PW p l e (rmD 3 0 0) s m args below meth c G 3 (MQ below (pQ G (qV Φ)) args s 0 0 (pF G)) 0 0 hh 49 [some (vR (lam 30)), some (vR (lam 1)), some (vI (nI t))] [] := by
  have wD0 : ∀ i, i < 9 → wrC (41 + 2 * i) = true := by decide
  have wD1 : ∀ i, i < 9 → wrC (42 + 2 * i) = true := by decide
  have nD : ∀ k, (∀ i, i < 9 → k ≠ 41 + 2 * i ∧ k ≠ 42 + 2 * i) → ∀ i, i < 9 → lam k ≠ lam (41 + 2 * i) ∧ lam k ≠ lam (42 + 2 * i) := fun k hk i hi => ⟨fun q => (hk i hi).1 (hl _ (wD0 i hi) _ q.symm).symm, fun q => (hk i hi).2 (hl _ (wD1 i hi) _ q.symm).symm⟩
  intro r
  induction r with
  | zero =>
    intro t ht hh h1 h2 h5
    obtain rfl : t = 9 := by omega
    refine r_iload_n X dX10_takeAll_49 rfl ?_
    refine r_bipush (v := nI 9) X dX10_takeAll_50 rfl ?_
    refine r_icmp_ge_t (tgt := 76) X dX10_takeAll_52 rfl (Int32.le_refl _) ?_
    exact r_ret_v X hr hlk dX10_takeAll_76 (Nat.le_refl _) (Nat.le_refl _) ⟨rfl, hΦ hh h1 h5⟩
  | succ r ih =>
    intro t ht hh h1 h2 h5
    have t9 : t < 9 := by omega
    have hA' : hh[lam 30]? = some (eO 10 fA) := (h1 _ (nD 30 (by decide))).trans hA
    have hB' : hh[lam 1]? = some (eO 10 fB) := (h1 _ (nD 1 (by decide))).trans hB
    have hD' : hh[lam 37]? = some (eR 3 9 wD) := (h1 _ (nD 37 (by decide))).trans hD
    have hS' : hh[lam 8]? = some (eR 3 9 wS) := (h1 _ (nD 8 (by decide))).trans hS
    obtain ⟨n, g, hn, b1, b2⟩ := rS t t9
    obtain ⟨n0, f0, hn0, a1, a2⟩ := h2 t t9 (Nat.le_refl _)
    have b1' : hh[lam (12 + 2 * t)]? = some (eO 9 [vR (lam (13 + 2 * t)), vI (nI n)]) := (h1 _ (nD _ (fun i hi => ⟨by omega, by omega⟩))).trans b1
    have b2' : hh[lam (13 + 2 * t)]? = some (eI (rmT t) g) := (h1 _ (nD _ (fun i hi => ⟨by omega, by omega⟩))).trans b2
    have m1 : lam (41 + 2 * t) ≠ lam (42 + 2 * t) := fun q => absurd (hl _ (wD0 t t9) _ q) (by omega)
    have m2 : lam (41 + 2 * t) ≠ lam (12 + 2 * t) := fun q => absurd (hl _ (wD0 t t9) _ q) (by omega)
    have m3 : lam (41 + 2 * t) ≠ lam (13 + 2 * t) := fun q => absurd (hl _ (wD0 t t9) _ q) (by omega)
    have m4 : lam (42 + 2 * t) ≠ lam (12 + 2 * t) := fun q => absurd (hl _ (wD1 t t9) _ q) (by omega)
    have m5 : lam (42 + 2 * t) ≠ lam (13 + 2 * t) := fun q => absurd (hl _ (wD1 t t9) _ q) (by omega)
    have lD : lam (41 + 2 * t) < hh.length := (List.getElem?_eq_some_iff.mp a1).1
    have lE : lam (42 + 2 * t) < hh.length := (List.getElem?_eq_some_iff.mp a2).1
    have hin : vp_in (nI t) 9 := vp_in_nI (by omega) (by omega)
    have cl : (nI t).toNatClampNeg = t := clamp_nI (by omega)
    refine r_iload_n X dX10_takeAll_49 rfl ?_
    refine r_bipush (v := nI 9) X dX10_takeAll_50 rfl ?_
    refine r_icmp_ge_f (tgt := 76) X dX10_takeAll_52 rfl (fun q => by have := (leI (by omega) (by omega)).mp q; omega) ?_
    refine r_aload_n X dX10_takeAll_55 rfl ?_
    refine r_get X fg_X10_33 dX10_takeAll_56 hA' gA ?_
    refine r_iload_n X dX10_takeAll_59 rfl ?_
    refine r_aald X (t := 3) (C := RX9) rfl dX10_takeAll_60 hD' hin ?_
    rw [cl, eD t t9]
    refine r_aload_n X dX10_takeAll_61 rfl ?_
    refine r_get X fg_X10_33 dX10_takeAll_62 hB' gB ?_
    refine r_iload_n X dX10_takeAll_65 rfl ?_
    refine r_aald X (t := 3) (C := RX9) rfl dX10_takeAll_66 hS' hin ?_
    rw [cl, eS t t9]
    refine r_callV X kv_X10_55 dX10_takeAll_67 (As := [vR (lam (12 + 2 * t))]) (rest := []) rfl rfl a1 rfl (t_take l G a1 a2 b1' b2' m1 m2 m3 m4 m5 (rmT_le t t9) hn) ⟨by decide, by decide⟩ (Nat.zero_le 8) ⟨Nat.le_refl 0, Nat.le_refl 0⟩ (fun r1 h' hq => ?_)
    obtain ⟨rfl, rfl⟩ := hq
    refine r_iinc (v := nI (t + 1)) X dX10_takeAll_70 rfl (nI_add t 1) (by decide) ?_
    refine r_goto (tgt := 49) X dX10_takeAll_73 rfl ?_
    have ot : ∀ a, a ≠ lam (41 + 2 * t) → a ≠ lam (42 + 2 * t) → ((hh.set (lam (41 + 2 * t)) (eO 9 [vR (lam (42 + 2 * t)), vI (nI n)])).set (lam (42 + 2 * t)) (eI (rmT t) (cpf g f0 n)))[a]? = hh[a]? := fun a q1 q2 => by rw [List.getElem?_set_ne (fun z => q2 z.symm), List.getElem?_set_ne (fun z => q1 z.symm)]
    have di : ∀ i, i < 9 → i ≠ t → lam (41 + 2 * i) ≠ lam (41 + 2 * t) ∧ lam (41 + 2 * i) ≠ lam (42 + 2 * t) ∧ lam (42 + 2 * i) ≠ lam (41 + 2 * t) ∧ lam (42 + 2 * i) ≠ lam (42 + 2 * t) := fun i hi hit => ⟨fun q => absurd (hl _ (wD0 i hi) _ q) (by omega), fun q => absurd (hl _ (wD0 i hi) _ q) (by omega), fun q => absurd (hl _ (wD1 i hi) _ q) (by omega), fun q => absurd (hl _ (wD1 i hi) _ q) (by omega)⟩
    refine ih (t + 1) (by omega) _ (fun a ha => ?_) (fun i hi hti => ?_) (fun i hi => ?_)
    · rw [ot a (ha t t9).1 (ha t t9).2]
      exact h1 a ha
    · obtain ⟨d1, d2, d3, d4⟩ := di i hi (by omega)
      obtain ⟨n1, f1, hn1, c1, c2⟩ := h2 i hi (by omega)
      exact ⟨n1, f1, hn1, (ot _ d1 d2).trans c1, (ot _ d3 d4).trans c2⟩
    · by_cases q : i = t
      · subst q
        refine ⟨n, g, _, hn, b1, b2, ?_, List.getElem?_set_self (by rw [List.length_set]; exact lE), fun j hj => ?_⟩
        · rw [List.getElem?_set_ne (fun z => m1 z.symm)]
          exact List.getElem?_set_self lD
        · exact if_pos hj
      · obtain ⟨d1, d2, d3, d4⟩ := di i (by omega) q
        obtain ⟨n1, g1, f1, hn1, c1, c2, c3, c4, c5⟩ := h5 i (by omega)
        exact ⟨n1, g1, f1, hn1, c1, c2, (ot _ d1 d2).trans c3, (ot _ d3 d4).trans c4, c5⟩
/- the loop over the told lists, behind the texts -/
set_option maxRecDepth 100000 in
set_option maxHeartbeats 4000000 in
theorem tk_l0 (l : Launch) (G : PG) {lam : Nat → Nat} (hl : LAMC lam) {p : Program} {e : Env} {s : State} {m : MethodId} {args : Array Value} {below : List Frame} {meth : Method} {c : Code} (X : pX p s m args c G 3 cX10_takeAll RX10) (hr : meth.sig.returnType = none) (hlk : meth.locks = false) {Φ : PH → Prop} {h3 : PH}
    {fA fB : List PV} (hA : h3[lam 1]? = some (eO 10 fA)) (gA : fA[3]? = some (vR (lam 8))) (hB : h3[lam 30]? = some (eO 10 fB)) (gB : fB[3]? = some (vR (lam 37)))
    {wD wS : Nat → Option Nat} (hD : h3[lam 8]? = some (eR 3 9 wD)) (hS : h3[lam 37]? = some (eR 3 9 wS)) (eD : ∀ i, i < 9 → wD i = some (lam (12 + 2 * i))) (eS : ∀ i, i < 9 → wS i = some (lam (41 + 2 * i)))
    (rS : ∀ i, i < 9 → RLt (rmT i) (lam (41 + 2 * i)) (lam (42 + 2 * i)) h3) (hΦ : ∀ hh, (∀ a, (∀ i, i < 9 → a ≠ lam (12 + 2 * i) ∧ a ≠ lam (13 + 2 * i)) → hh[a]? = h3[a]?) → (∀ i, i < 9 → ∃ n g f, n ≤ rmT i ∧ h3[lam (41 + 2 * i)]? = some (eO 9 [vR (lam (42 + 2 * i)), vI (nI n)]) ∧ h3[lam (42 + 2 * i)]? = some (eI (rmT i) g) ∧ hh[lam (12 + 2 * i)]? = some (eO 9 [vR (lam (13 + 2 * i)), vI (nI n)]) ∧ hh[lam (13 + 2 * i)]? = some (eI (rmT i) f) ∧ ∀ j, j < n → f j = g j) → Φ hh) :
    ∀ r t : Nat, t + r = 9 → ∀ hh : PH, (∀ a, (∀ i, i < 9 → a ≠ lam (12 + 2 * i) ∧ a ≠ lam (13 + 2 * i)) → hh[a]? = h3[a]?) → (∀ i, i < 9 → t ≤ i → RLt (rmT i) (lam (12 + 2 * i)) (lam (13 + 2 * i)) hh) → (∀ i, i < t → ∃ n g f, n ≤ rmT i ∧ h3[lam (41 + 2 * i)]? = some (eO 9 [vR (lam (42 + 2 * i)), vI (nI n)]) ∧ h3[lam (42 + 2 * i)]? = some (eI (rmT i) g) ∧ hh[lam (12 + 2 * i)]? = some (eO 9 [vR (lam (13 + 2 * i)), vI (nI n)]) ∧ hh[lam (13 + 2 * i)]? = some (eI (rmT i) f) ∧ ∀ j, j < n → f j = g j) →
      PW p l e (rmD 3 0 0) s m args below meth c G 3 (MQ below (pQ G (qV Φ)) args s 0 0 (pF G)) 0 0 hh 49 [some (vR (lam 1)), some (vR (lam 30)), some (vI (nI t))] [] := by
  have wD0 : ∀ i, i < 9 → wrC (12 + 2 * i) = true := by decide
  have wD1 : ∀ i, i < 9 → wrC (13 + 2 * i) = true := by decide
  have nD : ∀ k, (∀ i, i < 9 → k ≠ 12 + 2 * i ∧ k ≠ 13 + 2 * i) → ∀ i, i < 9 → lam k ≠ lam (12 + 2 * i) ∧ lam k ≠ lam (13 + 2 * i) := fun k hk i hi => ⟨fun q => (hk i hi).1 (hl _ (wD0 i hi) _ q.symm).symm, fun q => (hk i hi).2 (hl _ (wD1 i hi) _ q.symm).symm⟩
  intro r
  induction r with
  | zero =>
    intro t ht hh h1 h2 h5
    obtain rfl : t = 9 := by omega
    refine r_iload_n X dX10_takeAll_49 rfl ?_
    refine r_bipush (v := nI 9) X dX10_takeAll_50 rfl ?_
    refine r_icmp_ge_t (tgt := 76) X dX10_takeAll_52 rfl (Int32.le_refl _) ?_
    exact r_ret_v X hr hlk dX10_takeAll_76 (Nat.le_refl _) (Nat.le_refl _) ⟨rfl, hΦ hh h1 h5⟩
  | succ r ih =>
    intro t ht hh h1 h2 h5
    have t9 : t < 9 := by omega
    have hA' : hh[lam 1]? = some (eO 10 fA) := (h1 _ (nD 1 (by decide))).trans hA
    have hB' : hh[lam 30]? = some (eO 10 fB) := (h1 _ (nD 30 (by decide))).trans hB
    have hD' : hh[lam 8]? = some (eR 3 9 wD) := (h1 _ (nD 8 (by decide))).trans hD
    have hS' : hh[lam 37]? = some (eR 3 9 wS) := (h1 _ (nD 37 (by decide))).trans hS
    obtain ⟨n, g, hn, b1, b2⟩ := rS t t9
    obtain ⟨n0, f0, hn0, a1, a2⟩ := h2 t t9 (Nat.le_refl _)
    have b1' : hh[lam (41 + 2 * t)]? = some (eO 9 [vR (lam (42 + 2 * t)), vI (nI n)]) := (h1 _ (nD _ (fun i hi => ⟨by omega, by omega⟩))).trans b1
    have b2' : hh[lam (42 + 2 * t)]? = some (eI (rmT t) g) := (h1 _ (nD _ (fun i hi => ⟨by omega, by omega⟩))).trans b2
    have m1 : lam (12 + 2 * t) ≠ lam (13 + 2 * t) := fun q => absurd (hl _ (wD0 t t9) _ q) (by omega)
    have m2 : lam (12 + 2 * t) ≠ lam (41 + 2 * t) := fun q => absurd (hl _ (wD0 t t9) _ q) (by omega)
    have m3 : lam (12 + 2 * t) ≠ lam (42 + 2 * t) := fun q => absurd (hl _ (wD0 t t9) _ q) (by omega)
    have m4 : lam (13 + 2 * t) ≠ lam (41 + 2 * t) := fun q => absurd (hl _ (wD1 t t9) _ q) (by omega)
    have m5 : lam (13 + 2 * t) ≠ lam (42 + 2 * t) := fun q => absurd (hl _ (wD1 t t9) _ q) (by omega)
    have lD : lam (12 + 2 * t) < hh.length := (List.getElem?_eq_some_iff.mp a1).1
    have lE : lam (13 + 2 * t) < hh.length := (List.getElem?_eq_some_iff.mp a2).1
    have hin : vp_in (nI t) 9 := vp_in_nI (by omega) (by omega)
    have cl : (nI t).toNatClampNeg = t := clamp_nI (by omega)
    refine r_iload_n X dX10_takeAll_49 rfl ?_
    refine r_bipush (v := nI 9) X dX10_takeAll_50 rfl ?_
    refine r_icmp_ge_f (tgt := 76) X dX10_takeAll_52 rfl (fun q => by have := (leI (by omega) (by omega)).mp q; omega) ?_
    refine r_aload_n X dX10_takeAll_55 rfl ?_
    refine r_get X fg_X10_33 dX10_takeAll_56 hA' gA ?_
    refine r_iload_n X dX10_takeAll_59 rfl ?_
    refine r_aald X (t := 3) (C := RX9) rfl dX10_takeAll_60 hD' hin ?_
    rw [cl, eD t t9]
    refine r_aload_n X dX10_takeAll_61 rfl ?_
    refine r_get X fg_X10_33 dX10_takeAll_62 hB' gB ?_
    refine r_iload_n X dX10_takeAll_65 rfl ?_
    refine r_aald X (t := 3) (C := RX9) rfl dX10_takeAll_66 hS' hin ?_
    rw [cl, eS t t9]
    refine r_callV X kv_X10_55 dX10_takeAll_67 (As := [vR (lam (41 + 2 * t))]) (rest := []) rfl rfl a1 rfl (t_take l G a1 a2 b1' b2' m1 m2 m3 m4 m5 (rmT_le t t9) hn) ⟨by decide, by decide⟩ (Nat.zero_le 8) ⟨Nat.le_refl 0, Nat.le_refl 0⟩ (fun r1 h' hq => ?_)
    obtain ⟨rfl, rfl⟩ := hq
    refine r_iinc (v := nI (t + 1)) X dX10_takeAll_70 rfl (nI_add t 1) (by decide) ?_
    refine r_goto (tgt := 49) X dX10_takeAll_73 rfl ?_
    have ot : ∀ a, a ≠ lam (12 + 2 * t) → a ≠ lam (13 + 2 * t) → ((hh.set (lam (12 + 2 * t)) (eO 9 [vR (lam (13 + 2 * t)), vI (nI n)])).set (lam (13 + 2 * t)) (eI (rmT t) (cpf g f0 n)))[a]? = hh[a]? := fun a q1 q2 => by rw [List.getElem?_set_ne (fun z => q2 z.symm), List.getElem?_set_ne (fun z => q1 z.symm)]
    have di : ∀ i, i < 9 → i ≠ t → lam (12 + 2 * i) ≠ lam (12 + 2 * t) ∧ lam (12 + 2 * i) ≠ lam (13 + 2 * t) ∧ lam (13 + 2 * i) ≠ lam (12 + 2 * t) ∧ lam (13 + 2 * i) ≠ lam (13 + 2 * t) := fun i hi hit => ⟨fun q => absurd (hl _ (wD0 i hi) _ q) (by omega), fun q => absurd (hl _ (wD0 i hi) _ q) (by omega), fun q => absurd (hl _ (wD1 i hi) _ q) (by omega), fun q => absurd (hl _ (wD1 i hi) _ q) (by omega)⟩
    refine ih (t + 1) (by omega) _ (fun a ha => ?_) (fun i hi hti => ?_) (fun i hi => ?_)
    · rw [ot a (ha t t9).1 (ha t t9).2]
      exact h1 a ha
    · obtain ⟨d1, d2, d3, d4⟩ := di i hi (by omega)
      obtain ⟨n1, f1, hn1, c1, c2⟩ := h2 i hi (by omega)
      exact ⟨n1, f1, hn1, (ot _ d1 d2).trans c1, (ot _ d3 d4).trans c2⟩
    · by_cases q : i = t
      · subst q
        refine ⟨n, g, _, hn, b1, b2, ?_, List.getElem?_set_self (by rw [List.length_set]; exact lE), fun j hj => ?_⟩
        · rw [List.getElem?_set_ne (fun z => m1 z.symm)]
          exact List.getElem?_set_self lD
        · exact if_pos hj
      · obtain ⟨d1, d2, d3, d4⟩ := di i (by omega) q
        obtain ⟨n1, g1, f1, hn1, c1, c2, c3, c4, c5⟩ := h5 i (by omega)
        exact ⟨n1, g1, f1, hn1, c1, c2, (ot _ d1 d2).trans c3, (ot _ d3 d4).trans c4, c5⟩
