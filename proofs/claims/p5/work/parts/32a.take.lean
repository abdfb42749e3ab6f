/-! takeAll: what becomes of the told lists -/
def CPD (N S S1 D D1 : Nat) (h h' : PH) : Prop := ∃ n g f, n ≤ N ∧ FLD h S 1 (nI n) ∧ h[S1]? = some (eI N g) ∧ (∃ fs, h'[D]? = some (eO 9 fs) ∧ fs[1]? = some (vI (nI n))) ∧ h'[D1]? = some (eI N f) ∧ ∀ j, j < n → f j = g j
def RLt (N S S1 : Nat) (h : PH) : Prop := ∃ n f, n ≤ N ∧ h[S]? = some (eO 9 [vR S1, vI (nI n)]) ∧ h[S1]? = some (eI N f)
theorem rmT_le : ∀ i, i < 9 → rmT i ≤ 400 := by decide
theorem RL_now {lam : Nat → Nat} {h : PH} (hH : HOK lam [] TCl h) : ∀ i, i < 9 → RLt (rmT i) (lam (12 + 2 * i)) (lam (13 + 2 * i)) h := by
  intro i hi
  match i, hi with
  | 0, _ =>
    obtain ⟨n, f, h1, h2, h3⟩ := tl_cells (D := 12) (N := 6) hH rfl rfl (by decide)
    exact ⟨n, f, h1, h2, h3⟩
  | 1, _ =>
    obtain ⟨n, f, h1, h2, h3⟩ := tl_cells (D := 14) (N := 16) hH rfl rfl (by decide)
    exact ⟨n, f, h1, h2, h3⟩
  | 2, _ =>
    obtain ⟨n, f, h1, h2, h3⟩ := tl_cells (D := 16) (N := 15) hH rfl rfl (by decide)
    exact ⟨n, f, h1, h2, h3⟩
  | 3, _ =>
    obtain ⟨n, f, h1, h2, h3⟩ := tl_cells (D := 18) (N := 15) hH rfl rfl (by decide)
    exact ⟨n, f, h1, h2, h3⟩
  | 4, _ =>
    obtain ⟨n, f, h1, h2, h3⟩ := tl_cells (D := 20) (N := 8) hH rfl rfl (by decide)
    exact ⟨n, f, h1, h2, h3⟩
  | 5, _ =>
    obtain ⟨n, f, h1, h2, h3⟩ := tl_cells (D := 22) (N := 8) hH rfl rfl (by decide)
    exact ⟨n, f, h1, h2, h3⟩
  | 6, _ =>
    obtain ⟨n, f, h1, h2, h3⟩ := tl_cells (D := 24) (N := 12) hH rfl rfl (by decide)
    exact ⟨n, f, h1, h2, h3⟩
  | 7, _ =>
    obtain ⟨n, f, h1, h2, h3⟩ := tl_cells (D := 26) (N := 12) hH rfl rfl (by decide)
    exact ⟨n, f, h1, h2, h3⟩
  | 8, _ =>
    obtain ⟨n, f, h1, h2, h3⟩ := tl_cells (D := 28) (N := 12) hH rfl rfl (by decide)
    exact ⟨n, f, h1, h2, h3⟩
  | n + 9, hi => exact absurd hi (by omega)
theorem RL_img {lam : Nat → Nat} {h : PH} (hH : HOK lam [] TCl h) : ∀ i, i < 9 → RLt (rmT i) (lam (41 + 2 * i)) (lam (42 + 2 * i)) h := by
  intro i hi
  match i, hi with
  | 0, _ =>
    obtain ⟨n, f, h1, h2, h3⟩ := tl_cells (D := 41) (N := 6) hH rfl rfl (by decide)
    exact ⟨n, f, h1, h2, h3⟩
  | 1, _ =>
    obtain ⟨n, f, h1, h2, h3⟩ := tl_cells (D := 43) (N := 16) hH rfl rfl (by decide)
    exact ⟨n, f, h1, h2, h3⟩
  | 2, _ =>
    obtain ⟨n, f, h1, h2, h3⟩ := tl_cells (D := 45) (N := 15) hH rfl rfl (by decide)
    exact ⟨n, f, h1, h2, h3⟩
  | 3, _ =>
    obtain ⟨n, f, h1, h2, h3⟩ := tl_cells (D := 47) (N := 15) hH rfl rfl (by decide)
    exact ⟨n, f, h1, h2, h3⟩
  | 4, _ =>
    obtain ⟨n, f, h1, h2, h3⟩ := tl_cells (D := 49) (N := 8) hH rfl rfl (by decide)
    exact ⟨n, f, h1, h2, h3⟩
  | 5, _ =>
    obtain ⟨n, f, h1, h2, h3⟩ := tl_cells (D := 51) (N := 8) hH rfl rfl (by decide)
    exact ⟨n, f, h1, h2, h3⟩
  | 6, _ =>
    obtain ⟨n, f, h1, h2, h3⟩ := tl_cells (D := 53) (N := 12) hH rfl rfl (by decide)
    exact ⟨n, f, h1, h2, h3⟩
  | 7, _ =>
    obtain ⟨n, f, h1, h2, h3⟩ := tl_cells (D := 55) (N := 12) hH rfl rfl (by decide)
    exact ⟨n, f, h1, h2, h3⟩
  | 8, _ =>
    obtain ⟨n, f, h1, h2, h3⟩ := tl_cells (D := 57) (N := 12) hH rfl rfl (by decide)
    exact ⟨n, f, h1, h2, h3⟩
  | n + 9, hi => exact absurd hi (by omega)
theorem kpt_all {W : Nat → Prop} {x y : PE} (h : kpt W x y) (hW : ∀ j, ¬ W j) : y = x := by
  match x, y, h with
  | .inl (.inl (a1, a2, a3)), .inl (.inl (b1, b2, b3)), h =>
    obtain ⟨h1, h2, h3⟩ := h
    have e1 : a1 = b1 := h1
    have e2 : a2 = b2 := h2
    have e3 : a3 = b3 := h3 (hW 999)
    clear h1 h2 h3
    subst e1 e2 e3
    rfl
  | .inl (.inr (a1, a2, a3)), .inl (.inr (b1, b2, b3)), h =>
    obtain ⟨h1, h2, h3⟩ := h
    have e1 : a1 = b1 := h1
    have e2 : a2 = b2 := h2
    have e3 : a3 = b3 := h3 (hW 999)
    clear h1 h2 h3
    subst e1 e2 e3
    rfl
  | .inr (a1, a2), .inr (b1, b2), h =>
    obtain ⟨h1, h2, h3⟩ := h
    have e1 : a1 = b1 := h1
    have e3 : a2 = b2 := List.ext_getElem? (fun j => h3 j (hW j))
    clear h1 h2 h3
    subst e1 e3
    rfl
  | .inl (.inl a), .inl (.inr b), h => cases h
  | .inl (.inr a), .inl (.inl b), h => cases h
  | .inl (.inl a), .inr b, h => cases h
  | .inl (.inr a), .inr b, h => cases h
  | .inr a, .inl (.inl b), h => cases h
  | .inr a, .inl (.inr b), h => cases h
theorem frm_same {lam : Nat → Nat} {W : List (Nat × Nat)} {h h' : PH} {k : Nat} (hl : LAMC lam) (hF : FRM lam W h h') (hW : ∀ q, q ∈ W → wrC q.1 = true ∧ q.1 ≠ k) {x : PE} (hx : h[lam k]? = some x) : h'[lam k]? = some x := by
  obtain ⟨y, hy, hk⟩ := hF.2 _ _ hx
  rw [kpt_all hk (fun j ⟨k', hm, e⟩ => (hW _ hm).2 (hl k' (hW _ hm).1 _ e))] at hy
  exact hy
def kp_1 : SU := (104, 1, [.inr (.inl (some 34)), .inr (.inl (some 5))], none, [(35, 999)])
theorem kp_1_ok (l : Launch) (G : PG) (lam : Nat → Nat) (hl : LAMC lam) : SUOK lam TCl EXT l G kp_1 := chk_ok (sums := []) (F := 20000) MT_ok (fun _ _ _ _ => trivial) (hiL hl (by decide +kernel)) sun (by decide +kernel)
def kp_0 : SU := (104, 1, [.inr (.inl (some 5)), .inr (.inl (some 34))], none, [(6, 999)])
theorem kp_0_ok (l : Launch) (G : PG) (lam : Nat → Nat) (hl : LAMC lam) : SUOK lam TCl EXT l G kp_0 := chk_ok (sums := []) (F := 20000) MT_ok (fun _ _ _ _ => trivial) (hiL hl (by decide +kernel)) sun (by decide +kernel)
theorem FLD_o {h : PH} {a c j : Nat} {fs : List PV} {x : Int32} (h1 : h[a]? = some (eO c fs)) (h2 : fs[j]? = some (vI x)) : FLD h a j x := ⟨c, fs, h1, h2⟩
theorem row_eq {h : PH} {a N N' : Nat} {f g : FA} (h1 : h[a]? = some (eI N f)) (h2 : h[a]? = some (eI N' g)) : N = N' ∧ f = g := by
  have e := Option.some.inj (h1.symm.trans h2)
  injection e with e
  injection e with e
  exact ⟨(Prod.mk.inj (Prod.mk.inj e).2).1, (Prod.mk.inj (Prod.mk.inj e).2).2⟩
/- the loop over the told lists, behind the texts -/
set_option maxRecDepth 100000 in
set_option maxHeartbeats 4000000 in
theorem tk_l1 (l : Launch) (G : PG) {lam : Nat → Nat} (hl : LAMC lam) {p : Program} {e : Env} {s : State} {m : MethodId} {args : Array Value} {below : List Frame} {meth : Method} {c : Code} (X : pX p s m args c G 3 cX10_takeAll RX10) (hr : meth.sig.returnType = none) (hlk : meth.locks = false) {Φ : PH → Prop} {h3 : PH}
    {fA fB : List PV} (hA : h3[lam 30]? = some (eO 10 fA)) (gA : fA[3]? = some (vR (lam 37))) (hB : h3[lam 1]? = some (eO 10 fB)) (gB : fB[3]? = some (vR (lam 8)))
    {wD wS : Nat → Option Nat} (hD : h3[lam 37]? = some (eR 3 9 wD)) (hS : h3[lam 8]? = some (eR 3 9 wS)) (eD : ∀ i, i < 9 → wD i = some (lam (41 + 2 * i))) (eS : ∀ i, i < 9 → wS i = some (lam (12 + 2 * i)))
    (rS : ∀ i, i < 9 → RLt (rmT i) (lam (12 + 2 * i)) (lam (13 + 2 * i)) h3) (hΦ : ∀ hh, (∀ a, (∀ i, i < 9 → a ≠ lam (41 + 2 * i) ∧ a ≠ lam (42 + 2 * i)) → hh[a]? = h3[a]?) → (∀ i, i < 9 → ∃ n g f, n ≤ rmT i ∧ h3[lam (12 + 2 * i)]? = some (eO 9 [vR (lam (13 + 2 * i)), vI (nI n)]) ∧ h3[lam (13 + 2 * i)]? = some (eI (rmT i) g) ∧ hh[lam (41 + 2 * i)]? = some (eO 9 [vR (lam (42 + 2 * i)), vI (nI n)]) ∧ hh[lam (42 + 2 * i)]? = some (eI (rmT i) f) ∧ ∀ j, j < n → f j = g j) → Φ hh) :
    ∀ r t : Nat, t + r = 9 → ∀ hh : PH, (∀ a, (∀ i, i < 9 → a ≠ lam (41 + 2 * i) ∧ a ≠ lam (42 + 2 * i)) → hh[a]? = h3[a]?) → (∀ i, i < 9 → t ≤ i → RLt (rmT i) (lam (41 + 2 * i)) (lam (42 + 2 * i)) hh) → (∀ i, i < t → ∃ n g f, n ≤ rmT i ∧ h3[lam (12 + 2 * i)]? = some (eO 9 [vR (lam (13 + 2 * i)), vI (nI n)]) ∧ h3[lam (13 + 2 * i)]? = some (eI (rmT i) g) ∧ hh[lam (41 + 2 * i)]? = some (eO 9 [vR (lam (42 + 2 * i)), vI (nI n)]) ∧ hh[lam (42 + 2 * i)]? = some (eI (rmT i) f) ∧ ∀ j, j < n → f j = g j) →
      PW p l e (rmD 3 0 0) s m args below meth c G 3 (MQ below (pQ G (qV Φ)) args s 0 0 (pF G)) 0 0 hh 49 [some (vR (lam 30)), some (vR (lam 1)), some (vI (nI t))] [] := by
  have wD0 : ∀ i, i < 9 → wrC (41 + 2 * i) = true := by decide
  have wD1 : ∀ i, i < 9 → wrC (42 + 2 * i) = true := by decide
  have nD : ∀ k, (∀ i, i < 9 → k ≠ 41 + 2 * i ∧ k ≠ 42 + 2 * i) → ∀ i, i < 9 → lam k ≠ lam (41 + 2 * i) ∧ lam k ≠ lam (42 + 2 * i) := fun k hk i hi => ⟨fun q => (hk i hi).1 (hl _ (wD0 i hi) _ q.symm).symm, fun q => (hk i hi).2 (hl _ (wD1 i hi) _ q.symm).symm⟩
  intro r
  induction r with
  | zero =>
    intro t ht hh h1 h2 h5
    obtain rfl : t = 9 := by omega
    refine r_iload_n X dX10_takeAll_49 rfl ?_
    refine r_bipush (v := nI 9) X dX10_takeAll_50 rfl ?_
    refine r_icmp_ge_t (tgt := 76) X dX10_takeAll_52 rfl (Int32.le_refl _) ?_
    exact r_ret_v X hr hlk dX10_takeAll_76 (Nat.le_refl _) (Nat.le_refl _) ⟨rfl, hΦ hh h1 h5⟩
  | succ r ih =>
    intro t ht hh h1 h2 h5
    have t9 : t < 9 := by omega
    have hA' : hh[lam 30]? = some (eO 10 fA) := (h1 _ (nD 30 (by decide))).trans hA
    have hB' : hh[lam 1]? = some (eO 10 fB) := (h1 _ (nD 1 (by decide))).trans hB
    have hD' : hh[lam 37]? = some (eR 3 9 wD) := (h1 _ (nD 37 (by decide))).trans hD
    have hS' : hh[lam 8]? = some (eR 3 9 wS) := (h1 _ (nD 8 (by decide))).trans hS
    obtain ⟨n, g, hn, b1, b2⟩ := rS t t9
    obtain ⟨n0, f0, hn0, a1, a2⟩ := h2 t t9 (Nat.le_refl _)
    have b1' : hh[lam (12 + 2 * t)]? = some (eO 9 [vR (lam (13 + 2 * t)), vI (nI n)]) := (h1 _ (nD _ (fun i hi => ⟨by omega, by omega⟩))).trans b1
    have b2' : hh[lam (13 + 2 * t)]? = some (eI (rmT t) g) := (h1 _ (nD _ (fun i hi => ⟨by omega, by omega⟩))).trans b2
    have m1 : lam (41 + 2 * t) ≠ lam (42 + 2 * t) := fun q => absurd (hl _ (wD0 t t9) _ q) (by omega)
    have m2 : lam (41 + 2 * t) ≠ lam (12 + 2 * t) := fun q => absurd (hl _ (wD0 t t9) _ q) (by omega)
    have m3 : lam (41 + 2 * t) ≠ lam (13 + 2 * t) := fun q => absurd (hl _ (wD0 t t9) _ q) (by omega)
    have m4 : lam (42 + 2 * t) ≠ lam (12 + 2 * t) := fun q => absurd (hl _ (wD1 t t9) _ q) (by omega)
    have m5 : lam (42 + 2 * t) ≠ lam (13 + 2 * t) := fun q => absurd (hl _ (wD1 t t9) _ q) (by omega)
    have lD : lam (41 + 2 * t) < hh.length := (List.getElem?_eq_some_iff.mp a1).1
    have lE : lam (42 + 2 * t) < hh.length := (List.getElem?_eq_some_iff.mp a2).1
    have hin : vp_in (nI t) 9 := vp_in_nI (by omega) (by omega)
    have cl : (nI t).toNatClampNeg = t := clamp_nI (by omega)
    refine r_iload_n X dX10_takeAll_49 rfl ?_
    refine r_bipush (v := nI 9) X dX10_takeAll_50 rfl ?_
    refine r_icmp_ge_f (tgt := 76) X dX10_takeAll_52 rfl (fun q => by have := (leI (by omega) (by omega)).mp q; omega) ?_
    refine r_aload_n X dX10_takeAll_55 rfl ?_
    refine r_get X fg_X10_33 dX10_takeAll_56 hA' gA ?_
    refine r_iload_n X dX10_takeAll_59 rfl ?_
    refine r_aald X (t := 3) (C := RX9) rfl dX10_takeAll_60 hD' hin ?_
    rw [cl, eD t t9]
    refine r_aload_n X dX10_takeAll_61 rfl ?_
    refine r_get X fg_X10_33 dX10_takeAll_62 hB' gB ?_
    refine r_iload_n X dX10_takeAll_65 rfl ?_
    refine r_aald X (t := 3) (C := RX9) rfl dX10_takeAll_66 hS' hin ?_
    rw [cl, eS t t9]
    refine r_callV X kv_X10_55 dX10_takeAll_67 (As := [vR (lam (12 + 2 * t))]) (rest := []) rfl rfl a1 rfl (t_take l G a1 a2 b1' b2' m1 m2 m3 m4 m5 (rmT_le t t9) hn) ⟨by decide, by decide⟩ (Nat.zero_le 8) ⟨Nat.le_refl 0, Nat.le_refl 0⟩ (fun r1 h' hq => ?_)
    obtain ⟨rfl, rfl⟩ := hq
    refine r_iinc (v := nI (t + 1)) X dX10_takeAll_70 rfl (nI_add t 1) (by decide) ?_
    refine r_goto (tgt := 49) X dX10_takeAll_73 rfl ?_
    have ot : ∀ a, a ≠ lam (41 + 2 * t) → a ≠ lam (42 + 2 * t) → ((hh.set (lam (41 + 2 * t)) (eO 9 [vR (lam (42 + 2 * t)), vI (nI n)])).set (lam (42 + 2 * t)) (eI (rmT t) (cpf g f0 n)))[a]? = hh[a]? := fun a q1 q2 => by rw [List.getElem?_set_ne (fun z => q2 z.symm), List.getElem?_set_ne (fun z => q1 z.symm)]
    have di : ∀ i, i < 9 → i ≠ t → lam (41 + 2 * i) ≠ lam (41 + 2 * t) ∧ lam (41 + 2 * i) ≠ lam (42 + 2 * t) ∧ lam (42 + 2 * i) ≠ lam (41 + 2 * t) ∧ lam (42 + 2 * i) ≠ lam (42 + 2 * t) := fun i hi hit => ⟨fun q => absurd (hl _ (wD0 i hi) _ q) (by omega), fun q => absurd (hl _ (wD0 i hi) _ q) (by omega), fun q => absurd (hl _ (wD1 i hi) _ q) (by omega), fun q => absurd (hl _ (wD1 i hi) _ q) (by omega)⟩
    refine ih (t + 1) (by omega) _ (fun a ha => ?_) (fun i hi hti => ?_) (fun i hi => ?_)
    · rw [ot a (ha t t9).1 (ha t t9).2]
      exact h1 a ha
    · obtain ⟨d1, d2, d3, d4⟩ := di i hi (by omega)
      obtain ⟨n1, f1, hn1, c1, c2⟩ := h2 i hi (by omega)
      exact ⟨n1, f1, hn1, (ot _ d1 d2).trans c1, (ot _ d3 d4).trans c2⟩
    · by_cases q : i = t
      · subst q
        refine ⟨n, g, _, hn, b1, b2, ?_, List.getElem?_set_self (by rw [List.length_set]; exact lE), fun j hj => ?_⟩
        · rw [List.getElem?_set_ne (fun z => m1 z.symm)]
          exact List.getElem?_set_self lD
        · exact if_pos hj
      · obtain ⟨d1, d2, d3, d4⟩ := di i (by omega) q
        obtain ⟨n1, g1, f1, hn1, c1, c2, c3, c4, c5⟩ := h5 i (by omega)
        exact ⟨n1, g1, f1, hn1, c1, c2, (ot _ d1 d2).trans c3, (ot _ d3 d4).trans c4, c5⟩
set_option maxRecDepth 100000 in
set_option maxHeartbeats 4000000 in
theorem takeAll_1 (l : Launch) (G : PG) {lam : Nat → Nat} (hl : LAMC lam) {h : PH} (hH : HOK lam [] TCl h) : PMet l G yX10_takeAll cX10_takeAll 3 none 3 0 0 [vR (lam 30), vR (lam 1)] h (qV (fun h' => (∀ i, i < 9 → CPD (rmT i) (lam (12 + 2 * i)) (lam (13 + 2 * i)) (lam (41 + 2 * i)) (lam (42 + 2 * i)) h h') ∧ ∀ k, k = 0 ∨ k = 59 → h'[lam k]? = h[lam k]?)) := by
  refine PMet.intro (by decide) (show 2 ≤ 3 by decide) ?_
  intro p e s m args below meth c X hr hlk hnm
  obtain ⟨xA, hxA, fA, rfl, rA⟩ := hH 30 _ rfl
  obtain ⟨xB, hxB, fB, rfl, rB⟩ := hH 1 _ rfl
  obtain ⟨v1, gA0, q1⟩ := R2.get (j := 0) rA rfl
  obtain ⟨v2, gB0, q2⟩ := R2.get (j := 0) rB rfl
  have q1 : v1 = vR (lam 31) := q1
  have q2 : v2 = vR (lam 2) := q2
  subst q1 q2
  obtain ⟨xC, hxC, fC, rfl, -⟩ := hH 31 _ rfl
  refine r_aload_n X dX10_takeAll_0 rfl ?_
  refine r_get X fg_X10_12 dX10_takeAll_1 hxA gA0 ?_
  refine r_aload_n X dX10_takeAll_4 rfl ?_
  refine r_get X fg_X10_12 dX10_takeAll_5 hxB gB0 ?_
  obtain ⟨Φ0, hM, hP⟩ := kc_q154_ok l G lam hl [vR (lam 31), vR (lam 2)] h ⟨rfl, rfl, trivial⟩ hH trivial
  refine r_callV X kv_X10_47 dX10_takeAll_8 (As := [vR (lam 2)]) (rest := []) rfl rfl hxC rfl hM ⟨by decide, by decide⟩ (Nat.zero_le 8) ⟨Nat.le_refl 0, Nat.le_refl 0⟩ (fun r h1 hΦ => ?_)
  obtain ⟨rfl, hF1, hH1⟩ := hP r h1 hΦ
  clear hM hP hΦ
  obtain ⟨xA1, hxA1, fA1, rfl, rA1⟩ := hH1 30 _ rfl
  obtain ⟨xB1, hxB1, fB1, rfl, rB1⟩ := hH1 1 _ rfl
  obtain ⟨v3, gA1, q3⟩ := R2.get (j := 1) rA1 rfl
  obtain ⟨v4, gB1, q4⟩ := R2.get (j := 1) rB1 rfl
  have q3 : v3 = vR (lam 34) := q3
  have q4 : v4 = vR (lam 5) := q4
  subst q3 q4
  obtain ⟨xP, hxP, fP, rfl, -⟩ := hH1 34 _ rfl
  refine r_aload_n X dX10_takeAll_11 rfl ?_
  refine r_get X fg_X10_21 dX10_takeAll_12 hxA1 gA1 ?_
  refine r_aload_n X dX10_takeAll_15 rfl ?_
  refine r_get X fg_X10_21 dX10_takeAll_16 hxB1 gB1 ?_
  obtain ⟨Φ1, hM1, hP1⟩ := kp_1_ok l G lam hl [vR (lam 34), vR (lam 5)] h1 ⟨rfl, rfl, trivial⟩ hH1 trivial
  refine r_callV X kv_X10_51 dX10_takeAll_19 (As := [vR (lam 5)]) (rest := []) rfl rfl hxP rfl hM1 ⟨by decide, by decide⟩ (Nat.zero_le 8) ⟨Nat.le_refl 0, Nat.le_refl 0⟩ (fun r h2 hΦ => ?_)
  obtain ⟨rfl, hF2, hH2⟩ := hP1 r h2 hΦ
  clear hM1 hP1 hΦ
  have w36 : wrC 36 = true := rfl
  obtain ⟨xT, hT36, wD, rfl, -⟩ := hH2 36 _ rfl
  obtain ⟨xS, hT7, wS, rfl, sS⟩ := hH2 7 _ rfl
  have hT36 : h2[lam 36]? = some (eR 2 4 wD) := hT36
  have hT7 : h2[lam 7]? = some (eR 2 4 wS) := hT7
  have eT : ∀ i, i < 4 → wS i = some (lam (103 + 3 * i)) := by
    intro i hi
    match i, hi with
    | 0, _ => exact sS 0 _ rfl
    | 1, _ => exact sS 1 _ rfl
    | 2, _ => exact sS 2 _ rfl
    | 3, _ => exact sS 3 _ rfl
    | n + 4, hi => exact absurd hi (by omega)
  have tx : ∀ i, i < 4 → ∃ vs, h2[lam (103 + 3 * i)]? = some (eO 8 vs) := by
    intro i hi
    match i, hi with
    | 0, _ =>
      obtain ⟨y, hy, vs, rfl, -⟩ := hH2 103 _ rfl
      exact ⟨vs, hy⟩
    | 1, _ =>
      obtain ⟨y, hy, vs, rfl, -⟩ := hH2 (103 + 3) _ rfl
      exact ⟨vs, hy⟩
    | 2, _ =>
      obtain ⟨y, hy, vs, rfl, -⟩ := hH2 (103 + 6) _ rfl
      exact ⟨vs, hy⟩
    | 3, _ =>
      obtain ⟨y, hy, vs, rfl, -⟩ := hH2 (103 + 9) _ rfl
      exact ⟨vs, hy⟩
    | n + 4, hi => exact absurd hi (by omega)
  have lT : lam 36 < h2.length := (List.getElem?_eq_some_iff.mp hT36).1
  have up : ∀ {k : Nat} {x : PE} (w : Nat → Option Nat), k ≠ 36 → h2[lam k]? = some x → (h2.set (lam 36) (eR 2 4 w))[lam k]? = some x := fun w hk hx => by rw [List.getElem?_set_ne (fun z => hk (hl _ w36 _ z).symm)]; exact hx
  obtain ⟨xA2, hxA2, fA2, rfl, rA2⟩ := hH2 30 _ rfl
  obtain ⟨xB2, hxB2, fB2, rfl, rB2⟩ := hH2 1 _ rfl
  obtain ⟨v5, gA2, q5⟩ := R2.get (j := 2) rA2 rfl
  obtain ⟨v6, gB2, q6⟩ := R2.get (j := 2) rB2 rfl
  obtain ⟨v7, gA3, q7⟩ := R2.get (j := 3) rA2 rfl
  obtain ⟨v8, gB3, q8⟩ := R2.get (j := 3) rB2 rfl
  have q5 : v5 = vR (lam 36) := q5
  have q6 : v6 = vR (lam 7) := q6
  have q7 : v7 = vR (lam 37) := q7
  have q8 : v8 = vR (lam 8) := q8
  subst q5 q6 q7 q8
  obtain ⟨xD, hLD, uD, rfl, sD⟩ := hH2 37 _ rfl
  obtain ⟨xE, hLS, uS, rfl, sE⟩ := hH2 8 _ rfl
  have eD : ∀ i, i < 9 → uD i = some (lam (41 + 2 * i)) := by
    intro i hi
    match i, hi with
    | 0, _ => exact sD 0 _ rfl
    | 1, _ => exact sD 1 _ rfl
    | 2, _ => exact sD 2 _ rfl
    | 3, _ => exact sD 3 _ rfl
    | 4, _ => exact sD 4 _ rfl
    | 5, _ => exact sD 5 _ rfl
    | 6, _ => exact sD 6 _ rfl
    | 7, _ => exact sD 7 _ rfl
    | 8, _ => exact sD 8 _ rfl
    | n + 9, hi => exact absurd hi (by omega)
  have eS : ∀ i, i < 9 → uS i = some (lam (12 + 2 * i)) := by
    intro i hi
    match i, hi with
    | 0, _ => exact sE 0 _ rfl
    | 1, _ => exact sE 1 _ rfl
    | 2, _ => exact sE 2 _ rfl
    | 3, _ => exact sE 3 _ rfl
    | 4, _ => exact sE 4 _ rfl
    | 5, _ => exact sE 5 _ rfl
    | 6, _ => exact sE 6 _ rfl
    | 7, _ => exact sE 7 _ rfl
    | 8, _ => exact sE 8 _ rfl
    | n + 9, hi => exact absurd hi (by omega)
  have after : ∀ w, PW p l e (rmD 3 0 0) s m args below meth c G 3 (MQ below (pQ G (qV (fun h' => (∀ i, i < 9 → CPD (rmT i) (lam (12 + 2 * i)) (lam (13 + 2 * i)) (lam (41 + 2 * i)) (lam (42 + 2 * i)) h h') ∧ ∀ k, k = 0 ∨ k = 59 → h'[lam k]? = h[lam k]?))) args s 0 0 (pF G)) 0 0 (h2.set (lam 36) (eR 2 4 w)) 47 [some (vR (lam 30)), some (vR (lam 1)), some (vI (nI 4))] [] := by
    intro w
    refine r_iconst (v := nI 0) X dX10_takeAll_47 rfl ?_
    refine r_istore_n X dX10_takeAll_48 (by decide) ?_
    have rS : ∀ i, i < 9 → RLt (rmT i) (lam (12 + 2 * i)) (lam (13 + 2 * i)) (h2.set (lam 36) (eR 2 4 w)) := fun i hi => by
      obtain ⟨n, f, h1, h2, h3⟩ := RL_now hH2 i hi
      exact ⟨n, f, h1, up w (by omega) h2, up w (by omega) h3⟩
    refine tk_l1 l G hl X hr hlk (up w (by decide) hxA2) gA3 (up w (by decide) hxB2) gB3 (up w (by decide) hLD) (up w (by decide) hLS) eD eS rS (fun hh hs hq => ⟨fun i hi => ?_, fun k hk => ?_⟩) 9 0 rfl _ (fun a _ => rfl) (fun i hi _ => ?_) (fun i hi => absurd hi (Nat.not_lt_zero i))
    · obtain ⟨n, f, h1, h2, h3⟩ := RL_img hH2 i hi
      exact ⟨n, f, h1, up w (by omega) h2, up w (by omega) h3⟩
    · obtain ⟨n, g, f, k1, k2, k3, k4, k5, k6⟩ := hq i hi
      obtain ⟨n0, g0, z1, z2, z3⟩ := RL_now hH i hi
      have kp : ∀ j, KPT h h2 (lam (12 + 2 * i)) j := fun j => by
        have f1 : KPT h h1 (lam (12 + 2 * i)) j := by
          refine KPT_frg (FRG.of (fun q hq => hq) hF1) (fun k hm e1 => ?_)
          have hd : ∀ q, q ∈ kc_q154.2.2.2.2 → wrC q.1 = true ∧ ∀ i, i < 9 → q.1 ≠ 12 + 2 * i := by decide
          exact (hd _ hm).2 i hi (hl k (hd _ hm).1 _ e1)
        have f2 : KPT h1 h2 (lam (12 + 2 * i)) j := by
          refine KPT_frg (FRG.of (fun q hq => hq) hF2) (fun k hm e1 => ?_)
          have hd : ∀ q, q ∈ kp_1.2.2.2.2 → wrC q.1 = true ∧ ∀ i, i < 9 → q.1 ≠ 12 + 2 * i := by decide
          exact (hd _ hm).2 i hi (hl k (hd _ hm).1 _ e1)
        exact ⟨fun x hx => f2.1 x (f1.1 x hx), fun ej N f hx => f2.2 ej N f (f1.2 ej N f hx)⟩
      have kp1 : KPT h h2 (lam (13 + 2 * i)) 999 := by
        have f1 : KPT h h1 (lam (13 + 2 * i)) 999 := by
          refine KPT_frg (FRG.of (fun q hq => hq) hF1) (fun k hm e1 => ?_)
          have hd : ∀ q, q ∈ kc_q154.2.2.2.2 → wrC q.1 = true ∧ ∀ i, i < 9 → q.1 ≠ 13 + 2 * i := by decide
          exact (hd _ hm).2 i hi (hl k (hd _ hm).1 _ e1)
        have f2 : KPT h1 h2 (lam (13 + 2 * i)) 999 := by
          refine KPT_frg (FRG.of (fun q hq => hq) hF2) (fun k hm e1 => ?_)
          have hd : ∀ q, q ∈ kp_1.2.2.2.2 → wrC q.1 = true ∧ ∀ i, i < 9 → q.1 ≠ 13 + 2 * i := by decide
          exact (hd _ hm).2 i hi (hl k (hd _ hm).1 _ e1)
        exact ⟨fun x hx => f2.1 x (f1.1 x hx), fun ej N f hx => f2.2 ej N f (f1.2 ej N f hx)⟩
      have dn : ∀ {k : Nat} {x : PE}, k ≠ 36 → (h2.set (lam 36) (eR 2 4 w))[lam k]? = some x → h2[lam k]? = some x := fun hk hx => by
        rw [List.getElem?_set_ne (fun z => hk (hl _ w36 _ z).symm)] at hx
        exact hx
      have en : nI n0 = nI n := FLD.inj ((kp 1).1 _ (FLD_o z2 rfl)) (FLD_o (dn (by omega) k2) rfl)
      have hr9 := rmT_le i hi
      have en : n0 = n := nI_inj (by omega) (by omega) en
      subst en
      have eg := (row_eq (kp1.2 rfl _ _ z3) (dn (by omega) k3)).2
      subst eg
      exact ⟨n0, g0, f, z1, FLD_o z2 rfl, z3, ⟨_, k4, rfl⟩, k5, k6⟩
    · have wD0 : ∀ i, i < 9 → wrC (41 + 2 * i) = true := by decide
      have wD1 : ∀ i, i < 9 → wrC (42 + 2 * i) = true := by decide
      have e1 : hh[lam k]? = (h2.set (lam 36) (eR 2 4 w))[lam k]? := hs _ (fun i hi => ⟨fun q => by have := hl _ (wD0 i hi) _ q.symm; omega, fun q => by have := hl _ (wD1 i hi) _ q.symm; omega⟩)
      rw [e1, List.getElem?_set_ne (fun z => by have := hl _ w36 _ z; omega)]
      have s1 : ∀ q, q ∈ kp_1.2.2.2.2 → wrC q.1 = true ∧ q.1 ≠ 0 ∧ q.1 ≠ 59 := by decide
      have s2 : ∀ q, q ∈ kc_q154.2.2.2.2 → wrC q.1 = true ∧ q.1 ≠ 0 ∧ q.1 ≠ 59 := by decide
      have in0 : ∃ x, h[lam k]? = some x := by
        rcases hk with rfl | rfl
        · obtain ⟨x, hx, -⟩ := hH 0 _ rfl
          exact ⟨x, hx⟩
        · obtain ⟨x, hx, -⟩ := hH 59 _ rfl
          exact ⟨x, hx⟩
      obtain ⟨x, hx⟩ := in0
      rw [hx]
      exact frm_same hl hF2 (fun q hq => ⟨(s1 q hq).1, by have := (s1 q hq).2; omega⟩) (frm_same hl hF1 (fun q hq => ⟨(s2 q hq).1, by have := (s2 q hq).2; omega⟩) hx)
  have loop : ∀ r t : Nat, t + r = 4 → ∀ w, PW p l e (rmD 3 0 0) s m args below meth c G 3 (MQ below (pQ G (qV (fun h' => (∀ i, i < 9 → CPD (rmT i) (lam (12 + 2 * i)) (lam (13 + 2 * i)) (lam (41 + 2 * i)) (lam (42 + 2 * i)) h h') ∧ ∀ k, k = 0 ∨ k = 59 → h'[lam k]? = h[lam k]?))) args s 0 0 (pF G)) 0 0 (h2.set (lam 36) (eR 2 4 w)) 24 [some (vR (lam 30)), some (vR (lam 1)), some (vI (nI t))] [] := by
    intro r
    induction r with
    | zero =>
      intro t ht w
      obtain rfl : t = 4 := by omega
      refine r_iload_n X dX10_takeAll_24 rfl ?_
      refine r_iconst (v := nI 4) X dX10_takeAll_25 rfl ?_
      refine r_icmp_ge_t (tgt := 47) X dX10_takeAll_26 rfl (Int32.le_refl _) ?_
      exact after w
    | succ r ih =>
      intro t ht w
      have t4 : t < 4 := by omega
      have hin : vp_in (nI t) 4 := vp_in_nI (by omega) (by omega)
      have cl : (nI t).toNatClampNeg = t := clamp_nI (by omega)
      obtain ⟨vs, htx⟩ := tx t t4
      refine r_iload_n X dX10_takeAll_24 rfl ?_
      refine r_iconst (v := nI 4) X dX10_takeAll_25 rfl ?_
      refine r_icmp_ge_f (tgt := 47) X dX10_takeAll_26 rfl (fun q => by have := (leI (by omega) (by omega)).mp q; omega) ?_
      refine r_aload_n X dX10_takeAll_29 rfl ?_
      refine r_get X fg_X10_27 dX10_takeAll_30 (up w (by decide) hxA2) gA2 ?_
      refine r_iload_n X dX10_takeAll_33 rfl ?_
      refine r_aload_n X dX10_takeAll_34 rfl ?_
      refine r_get X fg_X10_27 dX10_takeAll_35 (up w (by decide) hxB2) gB2 ?_
      refine r_iload_n X dX10_takeAll_38 rfl ?_
      refine r_aald X (t := 2) (C := RX8) rfl dX10_takeAll_39 (up w (by decide) hT7) hin ?_
      rw [cl, eT t t4]
      refine r_aast X (t := 2) (C := RX8) rfl ck_X8.1 dX10_takeAll_40 (List.getElem?_set_self lT) (up w (by omega) htx) hin ?_
      rw [List.set_set]
      refine r_iinc (v := nI (t + 1)) X dX10_takeAll_41 rfl (nI_add t 1) (by decide) ?_
      refine r_goto (tgt := 24) X dX10_takeAll_44 rfl ?_
      exact ih (t + 1) (by omega) _
  refine r_iconst (v := nI 0) X dX10_takeAll_22 rfl ?_
  refine r_istore_n X dX10_takeAll_23 (by decide) ?_
  have := loop 4 0 rfl wD
  rw [set_id hT36] at this
  exact this
/- the loop over the told lists, behind the texts -/
set_option maxRecDepth 100000 in
set_option maxHeartbeats 4000000 in
theorem tk_l0 (l : Launch) (G : PG) {lam : Nat → Nat} (hl : LAMC lam) {p : Program} {e : Env} {s : State} {m : MethodId} {args : Array Value} {below : List Frame} {meth : Method} {c : Code} (X : pX p s m args c G 3 cX10_takeAll RX10) (hr : meth.sig.returnType = none) (hlk : meth.locks = false) {Φ : PH → Prop} {h3 : PH}
    {fA fB : List PV} (hA : h3[lam 1]? = some (eO 10 fA)) (gA : fA[3]? = some (vR (lam 8))) (hB : h3[lam 30]? = some (eO 10 fB)) (gB : fB[3]? = some (vR (lam 37)))
    {wD wS : Nat → Option Nat} (hD : h3[lam 8]? = some (eR 3 9 wD)) (hS : h3[lam 37]? = some (eR 3 9 wS)) (eD : ∀ i, i < 9 → wD i = some (lam (12 + 2 * i))) (eS : ∀ i, i < 9 → wS i = some (lam (41 + 2 * i)))
    (rS : ∀ i, i < 9 → RLt (rmT i) (lam (41 + 2 * i)) (lam (42 + 2 * i)) h3) (hΦ : ∀ hh, (∀ a, (∀ i, i < 9 → a ≠ lam (12 + 2 * i) ∧ a ≠ lam (13 + 2 * i)) → hh[a]? = h3[a]?) → (∀ i, i < 9 → ∃ n g f, n ≤ rmT i ∧ h3[lam (41 + 2 * i)]? = some (eO 9 [vR (lam (42 + 2 * i)), vI (nI n)]) ∧ h3[lam (42 + 2 * i)]? = some (eI (rmT i) g) ∧ hh[lam (12 + 2 * i)]? = some (eO 9 [vR (lam (13 + 2 * i)), vI (nI n)]) ∧ hh[lam (13 + 2 * i)]? = some (eI (rmT i) f) ∧ ∀ j, j < n → f j = g j) → Φ hh) :
    ∀ r t : Nat, t + r = 9 → ∀ hh : PH, (∀ a, (∀ i, i < 9 → a ≠ lam (12 + 2 * i) ∧ a ≠ lam (13 + 2 * i)) → hh[a]? = h3[a]?) → (∀ i, i < 9 → t ≤ i → RLt (rmT i) (lam (12 + 2 * i)) (lam (13 + 2 * i)) hh) → (∀ i, i < t → ∃ n g f, n ≤ rmT i ∧ h3[lam (41 + 2 * i)]? = some (eO 9 [vR (lam (42 + 2 * i)), vI (nI n)]) ∧ h3[lam (42 + 2 * i)]? = some (eI (rmT i) g) ∧ hh[lam (12 + 2 * i)]? = some (eO 9 [vR (lam (13 + 2 * i)), vI (nI n)]) ∧ hh[lam (13 + 2 * i)]? = some (eI (rmT i) f) ∧ ∀ j, j < n → f j = g j) →
      PW p l e (rmD 3 0 0) s m args below meth c G 3 (MQ below (pQ G (qV Φ)) args s 0 0 (pF G)) 0 0 hh 49 [some (vR (lam 1)), some (vR (lam 30)), some (vI (nI t))] [] := by
  have wD0 : ∀ i, i < 9 → wrC (12 + 2 * i) = true := by decide
  have wD1 : ∀ i, i < 9 → wrC (13 + 2 * i) = true := by decide
  have nD : ∀ k, (∀ i, i < 9 → k ≠ 12 + 2 * i ∧ k ≠ 13 + 2 * i) → ∀ i, i < 9 → lam k ≠ lam (12 + 2 * i) ∧ lam k ≠ lam (13 + 2 * i) := fun k hk i hi => ⟨fun q => (hk i hi).1 (hl _ (wD0 i hi) _ q.symm).symm, fun q => (hk i hi).2 (hl _ (wD1 i hi) _ q.symm).symm⟩
  intro r
  induction r with
  | zero =>
    intro t ht hh h1 h2 h5
    obtain rfl : t = 9 := by omega
    refine r_iload_n X dX10_takeAll_49 rfl ?_
    refine r_bipush (v := nI 9) X dX10_takeAll_50 rfl ?_
    refine r_icmp_ge_t (tgt := 76) X dX10_takeAll_52 rfl (Int32.le_refl _) ?_
    exact r_ret_v X hr hlk dX10_takeAll_76 (Nat.le_refl _) (Nat.le_refl _) ⟨rfl, hΦ hh h1 h5⟩
  | succ r ih =>
    intro t ht hh h1 h2 h5
    have t9 : t < 9 := by omega
    have hA' : hh[lam 1]? = some (eO 10 fA) := (h1 _ (nD 1 (by decide))).trans hA
    have hB' : hh[lam 30]? = some (eO 10 fB) := (h1 _ (nD 30 (by decide))).trans hB
    have hD' : hh[lam 8]? = some (eR 3 9 wD) := (h1 _ (nD 8 (by decide))).trans hD
    have hS' : hh[lam 37]? = some (eR 3 9 wS) := (h1 _ (nD 37 (by decide))).trans hS
    obtain ⟨n, g, hn, b1, b2⟩ := rS t t9
    obtain ⟨n0, f0, hn0, a1, a2⟩ := h2 t t9 (Nat.le_refl _)
    have b1' : hh[lam (41 + 2 * t)]? = some (eO 9 [vR (lam (42 + 2 * t)), vI (nI n)]) := (h1 _ (nD _ (fun i hi => ⟨by omega, by omega⟩))).trans b1
    have b2' : hh[lam (42 + 2 * t)]? = some (eI (rmT t) g) := (h1 _ (nD _ (fun i hi => ⟨by omega, by omega⟩))).trans b2
    have m1 : lam (12 + 2 * t) ≠ lam (13 + 2 * t) := fun q => absurd (hl _ (wD0 t t9) _ q) (by omega)
    have m2 : lam (12 + 2 * t) ≠ lam (41 + 2 * t) := fun q => absurd (hl _ (wD0 t t9) _ q) (by omega)
    have m3 : lam (12 + 2 * t) ≠ lam (42 + 2 * t) := fun q => absurd (hl _ (wD0 t t9) _ q) (by omega)
    have m4 : lam (13 + 2 * t) ≠ lam (41 + 2 * t) := fun q => absurd (hl _ (wD1 t t9) _ q) (by omega)
    have m5 : lam (13 + 2 * t) ≠ lam (42 + 2 * t) := fun q => absurd (hl _ (wD1 t t9) _ q) (by omega)
    have lD : lam (12 + 2 * t) < hh.length := (List.getElem?_eq_some_iff.mp a1).1
    have lE : lam (13 + 2 * t) < hh.length := (List.getElem?_eq_some_iff.mp a2).1
    have hin : vp_in (nI t) 9 := vp_in_nI (by omega) (by omega)
    have cl : (nI t).toNatClampNeg = t := clamp_nI (by omega)
    refine r_iload_n X dX10_takeAll_49 rfl ?_
    refine r_bipush (v := nI 9) X dX10_takeAll_50 rfl ?_
    refine r_icmp_ge_f (tgt := 76) X dX10_takeAll_52 rfl (fun q => by have := (leI (by omega) (by omega)).mp q; omega) ?_
    refine r_aload_n X dX10_takeAll_55 rfl ?_
    refine r_get X fg_X10_33 dX10_takeAll_56 hA' gA ?_
    refine r_iload_n X dX10_takeAll_59 rfl ?_
    refine r_aald X (t := 3) (C := RX9) rfl dX10_takeAll_60 hD' hin ?_
    rw [cl, eD t t9]
    refine r_aload_n X dX10_takeAll_61 rfl ?_
    refine r_get X fg_X10_33 dX10_takeAll_62 hB' gB ?_
    refine r_iload_n X dX10_takeAll_65 rfl ?_
    refine r_aald X (t := 3) (C := RX9) rfl dX10_takeAll_66 hS' hin ?_
    rw [cl, eS t t9]
    refine r_callV X kv_X10_55 dX10_takeAll_67 (As := [vR (lam (41 + 2 * t))]) (rest := []) rfl rfl a1 rfl (t_take l G a1 a2 b1' b2' m1 m2 m3 m4 m5 (rmT_le t t9) hn) ⟨by decide, by decide⟩ (Nat.zero_le 8) ⟨Nat.le_refl 0, Nat.le_refl 0⟩ (fun r1 h' hq => ?_)
    obtain ⟨rfl, rfl⟩ := hq
    refine r_iinc (v := nI (t + 1)) X dX10_takeAll_70 rfl (nI_add t 1) (by decide) ?_
    refine r_goto (tgt := 49) X dX10_takeAll_73 rfl ?_
    have ot : ∀ a, a ≠ lam (12 + 2 * t) → a ≠ lam (13 + 2 * t) → ((hh.set (lam (12 + 2 * t)) (eO 9 [vR (lam (13 + 2 * t)), vI (nI n)])).set (lam (13 + 2 * t)) (eI (rmT t) (cpf g f0 n)))[a]? = hh[a]? := fun a q1 q2 => by rw [List.getElem?_set_ne (fun z => q2 z.symm), List.getElem?_set_ne (fun z => q1 z.symm)]
    have di : ∀ i, i < 9 → i ≠ t → lam (12 + 2 * i) ≠ lam (12 + 2 * t) ∧ lam (12 + 2 * i) ≠ lam (13 + 2 * t) ∧ lam (13 + 2 * i) ≠ lam (12 + 2 * t) ∧ lam (13 + 2 * i) ≠ lam (13 + 2 * t) := fun i hi hit => ⟨fun q => absurd (hl _ (wD0 i hi) _ q) (by omega), fun q => absurd (hl _ (wD0 i hi) _ q) (by omega), fun q => absurd (hl _ (wD1 i hi) _ q) (by omega), fun q => absurd (hl _ (wD1 i hi) _ q) (by omega)⟩
    refine ih (t + 1) (by omega) _ (fun a ha => ?_) (fun i hi hti => ?_) (fun i hi => ?_)
    · rw [ot a (ha t t9).1 (ha t t9).2]
      exact h1 a ha
    · obtain ⟨d1, d2, d3, d4⟩ := di i hi (by omega)
      obtain ⟨n1, f1, hn1, c1, c2⟩ := h2 i hi (by omega)
      exact ⟨n1, f1, hn1, (ot _ d1 d2).trans c1, (ot _ d3 d4).trans c2⟩
    · by_cases q : i = t
      · subst q
        refine ⟨n, g, _, hn, b1, b2, ?_, List.getElem?_set_self (by rw [List.length_set]; exact lE), fun j hj => ?_⟩
        · rw [List.getElem?_set_ne (fun z => m1 z.symm)]
          exact List.getElem?_set_self lD
        · exact if_pos hj
      · obtain ⟨d1, d2, d3, d4⟩ := di i (by omega) q
        obtain ⟨n1, g1, f1, hn1, c1, c2, c3, c4, c5⟩ := h5 i (by omega)
        exact ⟨n1, g1, f1, hn1, c1, c2, (ot _ d1 d2).trans c3, (ot _ d3 d4).trans c4, c5⟩
set_option maxRecDepth 100000 in
set_option maxHeartbeats 4000000 in
theorem takeAll_0 (l : Launch) (G : PG) {lam : Nat → Nat} (hl : LAMC lam) {h : PH} (hH : HOK lam [] TCl h) : PMet l G yX10_takeAll cX10_takeAll 3 none 3 0 0 [vR (lam 1), vR (lam 30)] h (qV (fun h' => (∀ i, i < 9 → CPD (rmT i) (lam (41 + 2 * i)) (lam (42 + 2 * i)) (lam (12 + 2 * i)) (lam (13 + 2 * i)) h h') ∧ ∀ k, k = 0 ∨ k = 59 → h'[lam k]? = h[lam k]?)) := by
  refine PMet.intro (by decide) (show 2 ≤ 3 by decide) ?_
  intro p e s m args below meth c X hr hlk hnm
  obtain ⟨xA, hxA, fA, rfl, rA⟩ := hH 1 _ rfl
  obtain ⟨xB, hxB, fB, rfl, rB⟩ := hH 30 _ rfl
  obtain ⟨v1, gA0, q1⟩ := R2.get (j := 0) rA rfl
  obtain ⟨v2, gB0, q2⟩ := R2.get (j := 0) rB rfl
  have q1 : v1 = vR (lam 2) := q1
  have q2 : v2 = vR (lam 31) := q2
  subst q1 q2
  obtain ⟨xC, hxC, fC, rfl, -⟩ := hH 2 _ rfl
  refine r_aload_n X dX10_takeAll_0 rfl ?_
  refine r_get X fg_X10_12 dX10_takeAll_1 hxA gA0 ?_
  refine r_aload_n X dX10_takeAll_4 rfl ?_
  refine r_get X fg_X10_12 dX10_takeAll_5 hxB gB0 ?_
  obtain ⟨Φ0, hM, hP⟩ := kc_q153_ok l G lam hl [vR (lam 2), vR (lam 31)] h ⟨rfl, rfl, trivial⟩ hH trivial
  refine r_callV X kv_X10_47 dX10_takeAll_8 (As := [vR (lam 31)]) (rest := []) rfl rfl hxC rfl hM ⟨by decide, by decide⟩ (Nat.zero_le 8) ⟨Nat.le_refl 0, Nat.le_refl 0⟩ (fun r h1 hΦ => ?_)
  obtain ⟨rfl, hF1, hH1⟩ := hP r h1 hΦ
  clear hM hP hΦ
  obtain ⟨xA1, hxA1, fA1, rfl, rA1⟩ := hH1 1 _ rfl
  obtain ⟨xB1, hxB1, fB1, rfl, rB1⟩ := hH1 30 _ rfl
  obtain ⟨v3, gA1, q3⟩ := R2.get (j := 1) rA1 rfl
  obtain ⟨v4, gB1, q4⟩ := R2.get (j := 1) rB1 rfl
  have q3 : v3 = vR (lam 5) := q3
  have q4 : v4 = vR (lam 34) := q4
  subst q3 q4
  obtain ⟨xP, hxP, fP, rfl, -⟩ := hH1 5 _ rfl
  refine r_aload_n X dX10_takeAll_11 rfl ?_
  refine r_get X fg_X10_21 dX10_takeAll_12 hxA1 gA1 ?_
  refine r_aload_n X dX10_takeAll_15 rfl ?_
  refine r_get X fg_X10_21 dX10_takeAll_16 hxB1 gB1 ?_
  obtain ⟨Φ1, hM1, hP1⟩ := kp_0_ok l G lam hl [vR (lam 5), vR (lam 34)] h1 ⟨rfl, rfl, trivial⟩ hH1 trivial
  refine r_callV X kv_X10_51 dX10_takeAll_19 (As := [vR (lam 34)]) (rest := []) rfl rfl hxP rfl hM1 ⟨by decide, by decide⟩ (Nat.zero_le 8) ⟨Nat.le_refl 0, Nat.le_refl 0⟩ (fun r h2 hΦ => ?_)
  obtain ⟨rfl, hF2, hH2⟩ := hP1 r h2 hΦ
  clear hM1 hP1 hΦ
  have w36 : wrC 7 = true := rfl
  obtain ⟨xT, hT36, wD, rfl, -⟩ := hH2 7 _ rfl
  obtain ⟨xS, hT7, wS, rfl, sS⟩ := hH2 36 _ rfl
  have hT36 : h2[lam 7]? = some (eR 2 4 wD) := hT36
  have hT7 : h2[lam 36]? = some (eR 2 4 wS) := hT7
  have eT : ∀ i, i < 4 → wS i = some (lam (115 + 3 * i)) := by
    intro i hi
    match i, hi with
    | 0, _ => exact sS 0 _ rfl
    | 1, _ => exact sS 1 _ rfl
    | 2, _ => exact sS 2 _ rfl
    | 3, _ => exact sS 3 _ rfl
    | n + 4, hi => exact absurd hi (by omega)
  have tx : ∀ i, i < 4 → ∃ vs, h2[lam (115 + 3 * i)]? = some (eO 8 vs) := by
    intro i hi
    match i, hi with
    | 0, _ =>
      obtain ⟨y, hy, vs, rfl, -⟩ := hH2 115 _ rfl
      exact ⟨vs, hy⟩
    | 1, _ =>
      obtain ⟨y, hy, vs, rfl, -⟩ := hH2 (115 + 3) _ rfl
      exact ⟨vs, hy⟩
    | 2, _ =>
      obtain ⟨y, hy, vs, rfl, -⟩ := hH2 (115 + 6) _ rfl
      exact ⟨vs, hy⟩
    | 3, _ =>
      obtain ⟨y, hy, vs, rfl, -⟩ := hH2 (115 + 9) _ rfl
      exact ⟨vs, hy⟩
    | n + 4, hi => exact absurd hi (by omega)
  have lT : lam 7 < h2.length := (List.getElem?_eq_some_iff.mp hT36).1
  have up : ∀ {k : Nat} {x : PE} (w : Nat → Option Nat), k ≠ 7 → h2[lam k]? = some x → (h2.set (lam 7) (eR 2 4 w))[lam k]? = some x := fun w hk hx => by rw [List.getElem?_set_ne (fun z => hk (hl _ w36 _ z).symm)]; exact hx
  obtain ⟨xA2, hxA2, fA2, rfl, rA2⟩ := hH2 1 _ rfl
  obtain ⟨xB2, hxB2, fB2, rfl, rB2⟩ := hH2 30 _ rfl
  obtain ⟨v5, gA2, q5⟩ := R2.get (j := 2) rA2 rfl
  obtain ⟨v6, gB2, q6⟩ := R2.get (j := 2) rB2 rfl
  obtain ⟨v7, gA3, q7⟩ := R2.get (j := 3) rA2 rfl
  obtain ⟨v8, gB3, q8⟩ := R2.get (j := 3) rB2 rfl
  have q5 : v5 = vR (lam 7) := q5
  have q6 : v6 = vR (lam 36) := q6
  have q7 : v7 = vR (lam 8) := q7
  have q8 : v8 = vR (lam 37) := q8
  subst q5 q6 q7 q8
  obtain ⟨xD, hLD, uD, rfl, sD⟩ := hH2 8 _ rfl
  obtain ⟨xE, hLS, uS, rfl, sE⟩ := hH2 37 _ rfl
  have eD : ∀ i, i < 9 → uD i = some (lam (12 + 2 * i)) := by
    intro i hi
    match i, hi with
    | 0, _ => exact sD 0 _ rfl
    | 1, _ => exact sD 1 _ rfl
    | 2, _ => exact sD 2 _ rfl
    | 3, _ => exact sD 3 _ rfl
    | 4, _ => exact sD 4 _ rfl
    | 5, _ => exact sD 5 _ rfl
    | 6, _ => exact sD 6 _ rfl
    | 7, _ => exact sD 7 _ rfl
    | 8, _ => exact sD 8 _ rfl
    | n + 9, hi => exact absurd hi (by omega)
  have eS : ∀ i, i < 9 → uS i = some (lam (41 + 2 * i)) := by
    intro i hi
    match i, hi with
    | 0, _ => exact sE 0 _ rfl
    | 1, _ => exact sE 1 _ rfl
    | 2, _ => exact sE 2 _ rfl
    | 3, _ => exact sE 3 _ rfl
    | 4, _ => exact sE 4 _ rfl
    | 5, _ => exact sE 5 _ rfl
    | 6, _ => exact sE 6 _ rfl
    | 7, _ => exact sE 7 _ rfl
    | 8, _ => exact sE 8 _ rfl
    | n + 9, hi => exact absurd hi (by omega)
  have after : ∀ w, PW p l e (rmD 3 0 0) s m args below meth c G 3 (MQ below (pQ G (qV (fun h' => (∀ i, i < 9 → CPD (rmT i) (lam (41 + 2 * i)) (lam (42 + 2 * i)) (lam (12 + 2 * i)) (lam (13 + 2 * i)) h h') ∧ ∀ k, k = 0 ∨ k = 59 → h'[lam k]? = h[lam k]?))) args s 0 0 (pF G)) 0 0 (h2.set (lam 7) (eR 2 4 w)) 47 [some (vR (lam 1)), some (vR (lam 30)), some (vI (nI 4))] [] := by
    intro w
    refine r_iconst (v := nI 0) X dX10_takeAll_47 rfl ?_
    refine r_istore_n X dX10_takeAll_48 (by decide) ?_
    have rS : ∀ i, i < 9 → RLt (rmT i) (lam (41 + 2 * i)) (lam (42 + 2 * i)) (h2.set (lam 7) (eR 2 4 w)) := fun i hi => by
      obtain ⟨n, f, h1, h2, h3⟩ := RL_img hH2 i hi
      exact ⟨n, f, h1, up w (by omega) h2, up w (by omega) h3⟩
    refine tk_l0 l G hl X hr hlk (up w (by decide) hxA2) gA3 (up w (by decide) hxB2) gB3 (up w (by decide) hLD) (up w (by decide) hLS) eD eS rS (fun hh hs hq => ⟨fun i hi => ?_, fun k hk => ?_⟩) 9 0 rfl _ (fun a _ => rfl) (fun i hi _ => ?_) (fun i hi => absurd hi (Nat.not_lt_zero i))
    · obtain ⟨n, f, h1, h2, h3⟩ := RL_now hH2 i hi
      exact ⟨n, f, h1, up w (by omega) h2, up w (by omega) h3⟩
    · obtain ⟨n, g, f, k1, k2, k3, k4, k5, k6⟩ := hq i hi
      obtain ⟨n0, g0, z1, z2, z3⟩ := RL_img hH i hi
      have kp : ∀ j, KPT h h2 (lam (41 + 2 * i)) j := fun j => by
        have f1 : KPT h h1 (lam (41 + 2 * i)) j := by
          refine KPT_frg (FRG.of (fun q hq => hq) hF1) (fun k hm e1 => ?_)
          have hd : ∀ q, q ∈ kc_q153.2.2.2.2 → wrC q.1 = true ∧ ∀ i, i < 9 → q.1 ≠ 41 + 2 * i := by decide
          exact (hd _ hm).2 i hi (hl k (hd _ hm).1 _ e1)
        have f2 : KPT h1 h2 (lam (41 + 2 * i)) j := by
          refine KPT_frg (FRG.of (fun q hq => hq) hF2) (fun k hm e1 => ?_)
          have hd : ∀ q, q ∈ kp_0.2.2.2.2 → wrC q.1 = true ∧ ∀ i, i < 9 → q.1 ≠ 41 + 2 * i := by decide
          exact (hd _ hm).2 i hi (hl k (hd _ hm).1 _ e1)
        exact ⟨fun x hx => f2.1 x (f1.1 x hx), fun ej N f hx => f2.2 ej N f (f1.2 ej N f hx)⟩
      have kp1 : KPT h h2 (lam (42 + 2 * i)) 999 := by
        have f1 : KPT h h1 (lam (42 + 2 * i)) 999 := by
          refine KPT_frg (FRG.of (fun q hq => hq) hF1) (fun k hm e1 => ?_)
          have hd : ∀ q, q ∈ kc_q153.2.2.2.2 → wrC q.1 = true ∧ ∀ i, i < 9 → q.1 ≠ 42 + 2 * i := by decide
          exact (hd _ hm).2 i hi (hl k (hd _ hm).1 _ e1)
        have f2 : KPT h1 h2 (lam (42 + 2 * i)) 999 := by
          refine KPT_frg (FRG.of (fun q hq => hq) hF2) (fun k hm e1 => ?_)
          have hd : ∀ q, q ∈ kp_0.2.2.2.2 → wrC q.1 = true ∧ ∀ i, i < 9 → q.1 ≠ 42 + 2 * i := by decide
          exact (hd _ hm).2 i hi (hl k (hd _ hm).1 _ e1)
        exact ⟨fun x hx => f2.1 x (f1.1 x hx), fun ej N f hx => f2.2 ej N f (f1.2 ej N f hx)⟩
      have dn : ∀ {k : Nat} {x : PE}, k ≠ 7 → (h2.set (lam 7) (eR 2 4 w))[lam k]? = some x → h2[lam k]? = some x := fun hk hx => by
        rw [List.getElem?_set_ne (fun z => hk (hl _ w36 _ z).symm)] at hx
        exact hx
      have en : nI n0 = nI n := FLD.inj ((kp 1).1 _ (FLD_o z2 rfl)) (FLD_o (dn (by omega) k2) rfl)
      have hr9 := rmT_le i hi
      have en : n0 = n := nI_inj (by omega) (by omega) en
      subst en
      have eg := (row_eq (kp1.2 rfl _ _ z3) (dn (by omega) k3)).2
      subst eg
      exact ⟨n0, g0, f, z1, FLD_o z2 rfl, z3, ⟨_, k4, rfl⟩, k5, k6⟩
    · have wD0 : ∀ i, i < 9 → wrC (12 + 2 * i) = true := by decide
      have wD1 : ∀ i, i < 9 → wrC (13 + 2 * i) = true := by decide
      have e1 : hh[lam k]? = (h2.set (lam 7) (eR 2 4 w))[lam k]? := hs _ (fun i hi => ⟨fun q => by have := hl _ (wD0 i hi) _ q.symm; omega, fun q => by have := hl _ (wD1 i hi) _ q.symm; omega⟩)
      rw [e1, List.getElem?_set_ne (fun z => by have := hl _ w36 _ z; omega)]
      have s1 : ∀ q, q ∈ kp_0.2.2.2.2 → wrC q.1 = true ∧ q.1 ≠ 0 ∧ q.1 ≠ 59 := by decide
      have s2 : ∀ q, q ∈ kc_q153.2.2.2.2 → wrC q.1 = true ∧ q.1 ≠ 0 ∧ q.1 ≠ 59 := by decide
      have in0 : ∃ x, h[lam k]? = some x := by
        rcases hk with rfl | rfl
        · obtain ⟨x, hx, -⟩ := hH 0 _ rfl
          exact ⟨x, hx⟩
        · obtain ⟨x, hx, -⟩ := hH 59 _ rfl
          exact ⟨x, hx⟩
      obtain ⟨x, hx⟩ := in0
      rw [hx]
      exact frm_same hl hF2 (fun q hq => ⟨(s1 q hq).1, by have := (s1 q hq).2; omega⟩) (frm_same hl hF1 (fun q hq => ⟨(s2 q hq).1, by have := (s2 q hq).2; omega⟩) hx)
  have loop : ∀ r t : Nat, t + r = 4 → ∀ w, PW p l e (rmD 3 0 0) s m args below meth c G 3 (MQ below (pQ G (qV (fun h' => (∀ i, i < 9 → CPD (rmT i) (lam (41 + 2 * i)) (lam (42 + 2 * i)) (lam (12 + 2 * i)) (lam (13 + 2 * i)) h h') ∧ ∀ k, k = 0 ∨ k = 59 → h'[lam k]? = h[lam k]?))) args s 0 0 (pF G)) 0 0 (h2.set (lam 7) (eR 2 4 w)) 24 [some (vR (lam 1)), some (vR (lam 30)), some (vI (nI t))] [] := by
    intro r
    induction r with
    | zero =>
      intro t ht w
      obtain rfl : t = 4 := by omega
      refine r_iload_n X dX10_takeAll_24 rfl ?_
      refine r_iconst (v := nI 4) X dX10_takeAll_25 rfl ?_
      refine r_icmp_ge_t (tgt := 47) X dX10_takeAll_26 rfl (Int32.le_refl _) ?_
      exact after w
    | succ r ih =>
      intro t ht w
      have t4 : t < 4 := by omega
      have hin : vp_in (nI t) 4 := vp_in_nI (by omega) (by omega)
      have cl : (nI t).toNatClampNeg = t := clamp_nI (by omega)
      obtain ⟨vs, htx⟩ := tx t t4
      refine r_iload_n X dX10_takeAll_24 rfl ?_
      refine r_iconst (v := nI 4) X dX10_takeAll_25 rfl ?_
      refine r_icmp_ge_f (tgt := 47) X dX10_takeAll_26 rfl (fun q => by have := (leI (by omega) (by omega)).mp q; omega) ?_
      refine r_aload_n X dX10_takeAll_29 rfl ?_
      refine r_get X fg_X10_27 dX10_takeAll_30 (up w (by decide) hxA2) gA2 ?_
      refine r_iload_n X dX10_takeAll_33 rfl ?_
      refine r_aload_n X dX10_takeAll_34 rfl ?_
      refine r_get X fg_X10_27 dX10_takeAll_35 (up w (by decide) hxB2) gB2 ?_
      refine r_iload_n X dX10_takeAll_38 rfl ?_
      refine r_aald X (t := 2) (C := RX8) rfl dX10_takeAll_39 (up w (by decide) hT7) hin ?_
      rw [cl, eT t t4]
      refine r_aast X (t := 2) (C := RX8) rfl ck_X8.1 dX10_takeAll_40 (List.getElem?_set_self lT) (up w (by omega) htx) hin ?_
      rw [List.set_set]
      refine r_iinc (v := nI (t + 1)) X dX10_takeAll_41 rfl (nI_add t 1) (by decide) ?_
      refine r_goto (tgt := 24) X dX10_takeAll_44 rfl ?_
      exact ih (t + 1) (by omega) _
  refine r_iconst (v := nI 0) X dX10_takeAll_22 rfl ?_
  refine r_istore_n X dX10_takeAll_23 (by decide) ?_
  have := loop 4 0 rfl wD
  rw [set_id hT36] at this
  exact this
