/-! another place for a text: labels that a cell doesn't name may change -/
def refsV (v : AV) : List Nat := match v with
  | .inr (.inl (some r)) => [r]
  | _ => []
def refsC (c : AC) : List Nat := match c with
  | .inl (.inl (ln, _, _)) => refsV ln
  | .inl (.inr (_, rs)) => rs.filterMap id
  | .inr (_, fs) => fs.flatMap refsV
theorem vRel_lam {lam lam' : Nat → Nat} {ρ : List Int32} {v : AV} {x : PV} (h : ∀ r ∈ refsV v, lam' r = lam r) (hv : vRel lam ρ v x) : vRel lam' ρ v x := by
  rcases v with c | (o | (j | b))
  · exact hv
  · cases o with
    | none => exact hv
    | some r =>
      have e : x = vR (lam r) := hv
      show x = vR (lam' r)
      rw [h r (by simp [refsV])]
      exact e
  · exact hv
  · exact hv
theorem R2_lam {lam lam' : Nat → Nat} {ρ : List Int32} : ∀ {fs : List AV} {xs : List PV}, (∀ r ∈ fs.flatMap refsV, lam' r = lam r) → R2 (vRel lam ρ) fs xs → R2 (vRel lam' ρ) fs xs := by
  intro fs
  induction fs with
  | nil => intro xs _ h; cases xs <;> exact h
  | cons v t ih =>
    intro xs hm h
    cases xs with
    | nil => exact h
    | cons x u =>
      simp only [List.flatMap_cons, List.mem_append] at hm
      exact ⟨vRel_lam (fun r hr => hm r (Or.inl hr)) h.1, ih (fun r hr => hm r (Or.inr hr)) h.2⟩
theorem cellOK_lam {lam lam' : Nat → Nat} {ρ : List Int32} {c : AC} {x : PE} (h : ∀ r ∈ refsC c, lam' r = lam r) (hc : cellOK lam ρ c x) : cellOK lam' ρ c x := by
  rcases c with (⟨ln, p, sg⟩ | ⟨q, rs⟩) | ⟨q, fs⟩
  · obtain ⟨N, f, e, hN, hv, r⟩ := hc
    exact ⟨N, f, e, hN, vRel_lam h hv, r⟩
  · obtain ⟨f, e, hf⟩ := hc
    refine ⟨f, e, fun j o hj => ?_⟩
    rw [hf j o hj]
    cases o with
    | none => rfl
    | some r =>
      rw [nth_eq] at hj
      have hm : r ∈ refsC (.inl (.inr (q, rs))) := List.mem_filterMap.mpr ⟨some r, List.mem_of_getElem? hj, rfl⟩
      show some (lam r) = some (lam' r)
      rw [h r hm]
  · obtain ⟨xs, e, hr⟩ := hc
    exact ⟨xs, e, R2_lam h hr⟩
def inT (a r : Nat) : Bool := Nat.ble a r && Nat.blt r (a + 3)
def okT (a : Nat) : Bool := (List.range 127).all fun k => k == 7 || inT a k || (match TCl[k]? with
  | some c => (refsC c).all (fun r => !inT a r)
  | none => true)
set_option maxRecDepth 100000 in
theorem okT_all : ∀ kd : Nat, kd < 4 → okT (103 + 3 * kd) = true := by decide +kernel
/-- the places after a text of kind kd was put -/
def lamT (lam : Nat → Nat) (kd n : Nat) : Nat → Nat := fun k => bif inT (103 + 3 * kd) k then n + (k - (103 + 3 * kd)) else lam k
theorem lamT_o {lam : Nat → Nat} {kd n k : Nat} (h : inT (103 + 3 * kd) k = false) : lamT lam kd n k = lam k := by simp [lamT, h]
theorem inT_lt {a k : Nat} (h : k < a) : inT a k = false := by
  simp only [inT, Bool.and_eq_false_iff]
  left
  exact Bool.eq_false_iff.mpr (fun z => by have := Nat.le_of_ble_eq_true z; omega)
theorem rt_seg {f : Nat → Int32} : SegOK [(2147483648, 0, 4294967295)] f := ⟨fun j _ => inb_top (f j), trivial⟩
set_option maxRecDepth 100000 in
set_option maxHeartbeats 4000000 in
theorem text_lam {lam : Nat → Nat} {h1 : PH} {kd k u : Nat} {f g : Nat → Int32} {w : Nat → Option Nat} (hl : LAMC lam) (hH : HOK lam [] TCl h1) (hkd : kd < 4) (hk : k ≤ 17) (hu : u ≤ 400) (hw : h1[lam 7]? = some (eR 2 4 w)) :
    LAMC (lamT lam kd h1.length) ∧ HOK (lamT lam kd h1.length) [] TCl ((h1 ++ [eO 8 [vR (h1.length + 1), vI (nI k), vR (h1.length + 2)], eI (5 * k) f, eI u g]).set (lam 7) (eR 2 4 (va_up w kd (some h1.length)))) := by
  have hlt : ∀ k' c, nth TCl k' = some c → lam k' < h1.length := fun k' c hc => by
    obtain ⟨x, hx, -⟩ := hH k' c hc
    exact (List.getElem?_eq_some_iff.mp hx).1
  have l7 : lam 7 < h1.length := (List.getElem?_eq_some_iff.mp hw).1
  have tl : TCl.length = 127 := by decide +kernel
  have ok := List.all_eq_true.mp (okT_all kd hkd)
  refine ⟨?_, ?_⟩
  · intro q hq q' he
    have hq3 : q < 103 := by
      have := (Bool.and_eq_true _ _ ▸ hq : Nat.blt q 103 = true ∧ _).1
      exact Nat.lt_of_succ_le (Nat.le_of_ble_eq_true this)
    rw [lamT_o (inT_lt (by omega))] at he
    cases hi : inT (103 + 3 * kd) q' with
    | false =>
      rw [lamT_o hi] at he
      exact hl q hq q' he
    | true =>
      exfalso
      have hc : ∃ c, nth TCl q = some c := by
        rw [nth_eq]
        exact ⟨_, List.getElem?_eq_getElem (by omega)⟩
      obtain ⟨c, hc⟩ := hc
      have := hlt q c hc
      simp only [lamT, hi, cond_true] at he
      omega
  · intro q c hc
    have hq : q < 127 := by
      rw [nth_eq] at hc
      rw [← tl]
      exact (List.getElem?_eq_some_iff.mp hc).1
    by_cases h7 : q = 7
    · subst h7
      have ec : c = .inl (.inr (2, [some 103, some 106, some 109, some 112])) := (Option.some.inj hc).symm
      subst ec
      obtain ⟨x, hx, w', e, hf⟩ := hH 7 _ hc
      cases hw.symm.trans hx
      cases e
      refine ⟨_, by rw [lamT_o (inT_lt (by omega))]; exact List.getElem?_set_self (by simp; omega), _, rfl, ?_⟩
      intro j o hj
      have hj4 : j < 4 := by
        rw [nth_eq] at hj
        exact (List.getElem?_eq_some_iff.mp hj).1
      have ej := hf j o hj
      have eo : o = some (103 + 3 * j) := by
        rcases (show j = 0 ∨ j = 1 ∨ j = 2 ∨ j = 3 by omega) with rfl | rfl | rfl | rfl <;> exact (Option.some.inj hj).symm
      subst eo
      by_cases hjk : j = kd
      · subst hjk
        have : inT (103 + 3 * j) (103 + 3 * j) = true := by simp [inT]
        simp [va_up, lamT, this]
      · have hi : inT (103 + 3 * kd) (103 + 3 * j) = false := by
          cases hi : inT (103 + 3 * kd) (103 + 3 * j) with
          | false => rfl
          | true =>
            simp only [inT, Bool.and_eq_true, Nat.ble_eq, Nat.blt] at hi
            omega
        have ev : va_up w kd (some h1.length) j = w j := by simp [va_up, hjk]
        rw [ev, ej]
        show some (lam _) = some (lamT _ _ _ _)
        rw [lamT_o hi]
    · cases hi : inT (103 + 3 * kd) q with
      | false =>
        obtain ⟨x, hx, hcx⟩ := hH q c hc
        have hne : lam 7 ≠ lam q := fun z => h7 (hl 7 rfl q z).symm
        refine ⟨x, ?_, cellOK_lam (lam := lam) (fun r hr => lamT_o ?_) hcx⟩
        · rw [lamT_o hi, List.getElem?_set_ne hne, List.getElem?_append_left (hlt q c hc)]
          exact hx
        · have hk := ok q (List.mem_range.mpr hq)
          rw [nth_eq] at hc
          simp only [hi, hc, Bool.or_eq_true, beq_iff_eq, h7, false_or, Bool.false_eq_true, List.all_eq_true, Bool.not_eq_true'] at hk
          exact hk r hr
      | true =>
        simp only [inT, Bool.and_eq_true, Nat.ble_eq, Nat.blt] at hi
        have hL : lamT lam kd h1.length q = h1.length + (q - (103 + 3 * kd)) := by
          have : inT (103 + 3 * kd) q = true := by simp only [inT, Bool.and_eq_true, Nat.ble_eq, Nat.blt]; omega
          simp [lamT, this]
        have hne : lam 7 ≠ lamT lam kd h1.length q := by rw [hL]; omega
        have hT : ∀ j, j < 3 → lamT lam kd h1.length (103 + 3 * kd + j) = h1.length + j := by
          intro j hj
          have : inT (103 + 3 * kd) (103 + 3 * kd + j) = true := by simp only [inT, Bool.and_eq_true, Nat.ble_eq, Nat.blt]; omega
          simp [lamT, this]
        obtain ⟨j, hj, rfl⟩ : ∃ j, j < 3 ∧ q = 103 + 3 * kd + j := ⟨q - (103 + 3 * kd), by omega, by omega⟩
        have hT1 := hT 1 (by decide)
        have hT2 := hT 2 (by decide)
        rw [List.getElem?_set_ne hne, hT j hj, List.getElem?_append_right (by omega), Nat.add_sub_cancel_left]
        have len : ∀ n : Nat, n ≤ 400 → inb 2147483648 2147484048 (Int32.ofNat n) := fun n hn => by
          show 2147483648 ≤ ky (nI n) ∧ ky (nI n) ≤ 2147484048
          rw [ky_nI (by omega)]
          omega
        have t0 : cellOK (lamT lam kd h1.length) [] (.inr (8, [.inr (.inl (some (103 + 3 * kd + 1))), .inr (.inr (.inr (2147483648, 2147483665))), .inr (.inl (some (103 + 3 * kd + 2)))])) (eO 8 [vR (h1.length + 1), vI (nI k), vR (h1.length + 2)]) := by
          refine ⟨_, rfl, ?_, ⟨nI k, rfl, ?_⟩, ?_, trivial⟩
          · show vR (h1.length + 1) = vR _
            rw [hT1]
          · show 2147483648 ≤ ky (nI k) ∧ ky (nI k) ≤ 2147483665
            rw [ky_nI (by omega)]
            omega
          · show vR (h1.length + 2) = vR _
            rw [hT2]
        have t1 : ∀ (n : Nat) (y : Nat → Int32), n ≤ 400 → cellOK (lamT lam kd h1.length) [] (.inl (.inl (.inr (.inr (.inr (2147483648, 2147484048))), 0, [(2147483648, 0, 4294967295)]))) (eI n y) := fun n y hn => ⟨n, y, rfl, by omega, ⟨_, rfl, len n hn⟩, rt_seg, PRD_0⟩
        rcases (show kd = 0 ∨ kd = 1 ∨ kd = 2 ∨ kd = 3 by omega) with rfl | rfl | rfl | rfl <;> rcases (show j = 0 ∨ j = 1 ∨ j = 2 by omega) with rfl | rfl | rfl <;> (cases Option.some.inj hc) <;> first | exact ⟨_, rfl, t0⟩ | exact ⟨_, rfl, t1 _ _ (by omega)⟩
