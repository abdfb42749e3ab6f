/-! the start: both worlds, fresh -/
theorem pxm_s {t t' : FA} : ∀ (w : List Int32) (a : Nat), (∀ j, a ≤ j → j < a + w.length → t j = t' j) → pxm t' w a = true → pxm t w a = true := by
  intro w
  induction w with
  | nil => intro a _ _; rfl
  | cons c w ih =>
    intro a h h1
    obtain ⟨h2, h3⟩ := pxm_c.mp h1
    exact pxm_c.mpr ⟨(h a (Nat.le_refl _) (by rw [List.length_cons]; omega)).trans h2, ih (a + 1) (fun j q1 q2 => h j (by omega) (by rw [List.length_cons]; omega)) h3⟩
theorem pxY_s {t t' : FA} (h : ∀ j, j < 133 → t j = t' j) : ∀ (l : List (List Int32)) (k : Nat), pxY t' k l = true → pxY t k l = true := by
  intro l
  induction l with
  | nil => intro k h1; exact h1
  | cons w l ih =>
    intro k h1
    obtain ⟨⟨h2, h3⟩, h4⟩ := pxY_c.mp h1
    have h5 := pxY_le l _ h4
    exact pxY_c.mpr ⟨⟨pxm_s w _ (fun j _ q2 => h j (by omega)) h2, (h _ (by omega)).trans h3⟩, ih _ h4⟩
theorem pxY_wds : pxY wdsF 0 pxV = true := by decide +kernel
/-- a text with nothing in it -/
def W0 : TXW := (fun j => if j < 4 then some 42 else none, [.inr (8, [vR 43, vI 0, vR 44]), .inl (.inl (0, 0, fun _ => 0)), .inl (.inl (0, 0, fun _ => 0))], fun _ => (0, 1, 2), fun _ => 0, fun _ => (0, fun _ => 0), fun _ => (0, fun _ => 0))
def off0 (k : Nat) : Nat := if k < 42 then tcW k else if k < 45 then k - 33 else if k < 245 then 0 else tcI (k - 245)
def lb0 (n : Nat) (k : Nat) : Nat := n + off0 k
theorem off0_i : ∀ i, i < 45 → ∀ j, j < 45 → off0 i = off0 j → i = j := by decide +kernel
theorem W0_TX : WTX W0 := fun k hk => ⟨if_pos hk, rfl, rfl, rfl⟩
theorem W0_TL : WTL W0 := by
  refine ⟨fun j hj => if_neg (by omega), fun i x hx => ?_⟩
  match i, hx with
  | 0, hx => exact Or.inr ⟨_, _, _, (Option.some.inj hx).symm, by decide, by decide⟩
  | 1, hx => exact Or.inl ⟨_, _, (Option.some.inj hx).symm⟩
  | 2, hx => exact Or.inl ⟨_, _, (Option.some.inj hx).symm⟩
  | i + 3, hx => cases hx
theorem lb0_ok (n : Nat) : LBW (lb0 n) n (n + 103) 3 := by
  refine ⟨fun i hi j hj e => off0_i i hi j hj (by have e : n + off0 i = n + off0 j := e; omega), fun k hk => by
    show n + off0 k = _
    rw [show off0 k = tcW k from if_pos hk], fun i hi => ?_, fun k h1 h2 => ?_⟩
  · have key : ∀ i, i < 5 → off0 (3 + 242 + i) = tcI i := by decide
    show n + off0 (3 + 242 + i) = _
    rw [key i hi]
  · have key : ∀ k, k < 45 → 42 ≤ k → wrC (off0 k) = false ∧ off0 k < 103 := by decide
    obtain ⟨k1, k2⟩ := key k h2 h1
    refine ⟨fun q hq e => ?_, fun e => ?_⟩
    · have e : n + off0 k = n + q := e
      have e2 : off0 k = q := by omega
      rw [e2, hq] at k1
      cases k1
    · have e : n + 103 ≤ n + off0 k ∧ n + off0 k < n + 103 + 43 := e
      omega
theorem CN0 : ∀ k : Nat, (0 : Int32).toNatClampNeg = 0 ∧ (1 : Int32).toNatClampNeg = 1 ∧ (2 : Int32).toNatClampNeg = 2 ∧ (3 : Int32).toNatClampNeg = 3 ∧ (4 : Int32).toNatClampNeg = 4 ∧ (5 : Int32).toNatClampNeg = 5 := fun _ => by decide
theorem up4_e (a : Nat) : (va_up (va_up (va_up (va_up (fun _ => none) (0 : Int32).toNatClampNeg (some a)) (1 : Int32).toNatClampNeg (some a)) (2 : Int32).toNatClampNeg (some a)) (3 : Int32).toNatClampNeg (some a)) = fun j => if j < 4 then some a else none := by
  obtain ⟨e0, e1, e2, e3, -⟩ := CN0 0
  rw [e0, e1, e2, e3]
  funext j
  show (if j = 3 then some a else if j = 2 then some a else if j = 1 then some a else if j = 0 then some a else none) = _
  by_cases h3 : j = 3
  · rw [if_pos h3, if_pos (by omega)]
  · rw [if_neg h3]
    by_cases h2 : j = 2
    · rw [if_pos h2, if_pos (by omega)]
    · rw [if_neg h2]
      by_cases h1 : j = 1
      · rw [if_pos h1, if_pos (by omega)]
      · rw [if_neg h1]
        by_cases h0 : j = 0
        · rw [if_pos h0, if_pos (by omega)]
        · rw [if_neg h0, if_neg (by omega)]
theorem ring_e (n : Nat) : (va_up (va_up (va_up (va_up (va_up (va_up (fun _ => none) (0 : Int32).toNatClampNeg (some (n + 61))) (1 : Int32).toNatClampNeg (some (n + 64))) (2 : Int32).toNatClampNeg (some (n + 67))) (3 : Int32).toNatClampNeg (some (n + 70))) (4 : Int32).toNatClampNeg (some (n + 73))) (5 : Int32).toNatClampNeg (some (n + 76))) = fun j => (rgW j).map (lb0 n) := by
  obtain ⟨e0, e1, e2, e3, e4, e5⟩ := CN0 0
  rw [e0, e1, e2, e3, e4, e5]
  funext j
  match j with
  | 0 => rfl
  | 1 => rfl
  | 2 => rfl
  | 3 => rfl
  | 4 => rfl
  | 5 => rfl
  | j + 6 => rfl
set_option maxRecDepth 100000 in
set_option maxHeartbeats 2000000 in
theorem W0_rep {h0 L1 : PH} {n : Nat} (hn : h0.length = n) : Rep rdF (h0 ++ (frC n ++ L1)) (lb0 n) 45 (LW W0 (fun _ => 0) (fun _ _ => 0)) (h0 ++ (frC n ++ L1)) := by
  have key : ∀ k, ∀ x : PE, (frC n)[k]? = some x → (h0 ++ (frC n ++ L1))[n + k]? = some x := fun k x hx => at_r hn hx
  have k7 : (fun j => (wX W0 j).map (lb0 n)) = fun j => if j < 4 then some (n + 9) else none := by
    funext j
    show ((if j < 4 then some 42 else none : Option Nat)).map (lb0 n) = _
    by_cases c : j < 4
    · rw [if_pos c, if_pos c]
      rfl
    · rw [if_neg c, if_neg c]
      rfl
  refine ⟨rfl, fun i x hx => ?_, rfl, fun _ _ => rfl⟩
  match i, hx with
  | 0, hx =>
    cases hx
    exact key 0 _ rfl
  | 1, hx =>
    cases hx
    exact key 1 _ rfl
  | 2, hx =>
    cases hx
    exact key 2 _ rfl
  | 3, hx =>
    cases hx
    exact key 3 _ rfl
  | 4, hx =>
    cases hx
    exact key 4 _ rfl
  | 5, hx =>
    cases hx
    exact key 5 _ rfl
  | 6, hx =>
    cases hx
    exact key 6 _ rfl
  | 7, hx =>
    obtain rfl := Option.some.inj (show some (.inl (.inr (2, 4, wX W0)) : QE FA) = some x from hx)
    show (h0 ++ (frC n ++ L1))[n + 7]? = some (eR 2 4 (fun j => (wX W0 j).map (lb0 n)))
    rw [k7, ← up4_e]
    exact key 7 _ rfl
  | 8, hx =>
    cases hx
    exact key 95 _ rfl
  | 9, hx =>
    cases hx
    exact key 96 _ rfl
  | 10, hx =>
    cases hx
    exact key 97 _ rfl
  | 11, hx =>
    cases hx
    exact key 98 _ rfl
  | 12, hx =>
    cases hx
    exact key 59 _ rfl
  | 13, hx =>
    obtain rfl := Option.some.inj (show some (.inl (.inr (1, 6, rgW)) : QE FA) = some x from hx)
    show (h0 ++ (frC n ++ L1))[n + 60]? = some (eR 1 6 (fun j => (rgW j).map (lb0 n)))
    rw [← ring_e]
    exact key 60 _ rfl
  | 14, hx =>
    cases hx
    exact key 61 _ rfl
  | 15, hx =>
    cases hx
    exact key 62 _ rfl
  | 16, hx =>
    cases hx
    exact key 63 _ rfl
  | 17, hx =>
    cases hx
    exact key 64 _ rfl
  | 18, hx =>
    cases hx
    exact key 65 _ rfl
  | 19, hx =>
    cases hx
    exact key 66 _ rfl
  | 20, hx =>
    cases hx
    exact key 67 _ rfl
  | 21, hx =>
    cases hx
    exact key 68 _ rfl
  | 22, hx =>
    cases hx
    exact key 69 _ rfl
  | 23, hx =>
    cases hx
    exact key 70 _ rfl
  | 24, hx =>
    cases hx
    exact key 71 _ rfl
  | 25, hx =>
    cases hx
    exact key 72 _ rfl
  | 26, hx =>
    cases hx
    exact key 73 _ rfl
  | 27, hx =>
    cases hx
    exact key 74 _ rfl
  | 28, hx =>
    cases hx
    exact key 75 _ rfl
  | 29, hx =>
    cases hx
    exact key 76 _ rfl
  | 30, hx =>
    cases hx
    exact key 77 _ rfl
  | 31, hx =>
    cases hx
    exact key 78 _ rfl
  | 32, hx =>
    cases hx
    exact key 83 _ rfl
  | 33, hx =>
    cases hx
    exact key 84 _ rfl
  | 34, hx =>
    cases hx
    exact key 85 _ rfl
  | 35, hx =>
    cases hx
    exact key 99 _ rfl
  | 36, hx =>
    cases hx
    exact key 100 _ rfl
  | 37, hx =>
    cases hx
    exact key 101 _ rfl
  | 38, hx =>
    cases hx
    exact key 102 _ rfl
  | 39, hx =>
    cases hx
    exact key 86 _ rfl
  | 40, hx =>
    cases hx
    exact key 87 _ rfl
  | 41, hx =>
    cases hx
    exact key 88 _ rfl
  | 42, hx =>
    cases hx
    exact key 9 _ rfl
  | 43, hx =>
    cases hx
    exact key 10 _ rfl
  | 44, hx =>
    cases hx
    exact key 11 _ rfl
  | i + 45, hx => cases hx
def zp0 : Nat → Int32 := fun j => if j = 5 then 2 else if j = 8 then -1 else 0
set_option maxRecDepth 100000 in
theorem P0_rep {h0 L1 : PH} {n : Nat} (hn : h0.length = n) : Rep rdF (h0 ++ (frC n ++ L1)) (fun k => n + (79 + k)) 4 (LPr zp0 (fun _ _ => 0)) (h0 ++ (frC n ++ L1)) := by
  have key : ∀ k, ∀ x : PE, (frC n)[k]? = some x → (h0 ++ (frC n ++ L1))[n + k]? = some x := fun k x hx => at_r hn hx
  refine ⟨rfl, fun i x hx => ?_, rfl, fun _ _ => rfl⟩
  match i, hx with
  | 0, hx =>
    cases hx
    exact key 79 _ rfl
  | 1, hx =>
    cases hx
    exact key 80 _ rfl
  | 2, hx =>
    cases hx
    exact key 81 _ rfl
  | 3, hx =>
    cases hx
    exact key 82 _ rfl
  | i + 4, hx => cases hx
theorem CRE_0 {wf : Nat → Int32} (hw : WDS 133 wf) : CRE W0 (fun _ => 0) (fun _ _ => 0) zM (fM wf) := by
  have e : ∀ k, k ≠ 9 → fM wf k = fun _ => 0 := fun k hk => if_neg hk
  have e1 := e 1 (by decide)
  have hv : ∀ (P : Nat → Prop) v, v < 0 → P v := fun P v hv => absurd hv (Nat.not_lt_zero v)
  refine ⟨fun _ => (0, [], []), 0, 0, 0, 0, 0, 0, W0_TX, W0_TL, ⟨Nat.zero_le _, rfl, rfl, Nat.zero_le _, fun i hi => absurd hi (Nat.not_lt_zero i)⟩, fun i hi => absurd hi (Nat.not_lt_zero i), ⟨⟨⟨Nat.zero_le _, ?_, fun v hv => absurd hv (Nat.not_lt_zero v), ?_, ?_⟩, fun j _ => ?_, rfl⟩, ⟨Nat.zero_le _, ?_, fun i hi => absurd hi (Nat.not_lt_zero i)⟩, ⟨Nat.zero_le _, rfl, rfl, rfl, fun i hi => absurd hi (Nat.not_lt_zero i)⟩, ⟨Nat.zero_le _, rfl, rfl, rfl, fun i hi => absurd hi (Nat.not_lt_zero i)⟩, rfl⟩, ⟨0, by decide, Nat.zero_le _, Nat.zero_le _, Nat.le_refl _, Nat.le_refl _, rfl, rfl, rfl, fun i hi => absurd hi (Nat.not_lt_zero i)⟩, ⟨Nat.zero_le _, rfl, rfl, fun v _ => ?_⟩, ?_⟩
  · rw [e1]
    exact ⟨rfl, rfl, rfl, rfl, rfl, rfl, rfl, rfl⟩
  · intro i hi
    rw [e1]
    exact Or.inl ⟨rfl, rfl, rfl, rfl⟩
  · rw [e1]
    exact ⟨⟨0, by decide, rfl⟩, 0, by decide, rfl⟩
  · rw [e 7 (by decide)]
  · rw [e 10 (by decide)]
    rfl
  · rw [e 20 (by decide)]
    rfl
  · exact pxY_s (fun j hj => (show fM wf 9 j = wf j from rfl).trans (hw j hj)) _ _ pxY_wds
theorem pw_start {h0 : PH} {n : Nat} {wf : Nat → Int32} (hn : h0.length = n) (hw : WDS 133 wf) : LIY PCW n (n + 103) (h0 ++ (frC n ++ frM (n + 103) wf)) := by
  have hn1 : (h0 ++ frC n).length = n + 103 := apL hn rfl
  have w132 : wf 132 = 32 := (hw 132 (by decide)).trans (by decide)
  have hM := M_fresh (L1 := []) (wf := wf) hn1 w132
  have hL := LR_fresh (L1 := []) (wf := wf) hn1
  rw [List.append_nil, List.append_assoc] at hM hL
  have h0' : (h0 ++ (frC n ++ frM (n + 103) wf))[n + 103]? = (frM (n + 103) wf)[0]? := by
    rw [← List.append_assoc, List.getElem?_append_right (by omega), hn1, Nat.sub_self]
  refine ⟨lamC n, 0, ⟨Or.inl rfl, lamC_r n, fun k hk => ?_, C_fresh hn, hM.1, hM.2, ⟨_, _, h0'.trans rfl, rfl⟩, ?_⟩, lb0 n, W0, fun _ => 0, fun _ _ => 0, zM, fM wf, ⟨lb0_ok n, W0_rep hn, ⟨hL.1, hL.2.1, rfl, fun _ _ => rfl⟩⟩, CRE_0 hw, ⟨zp0, fun _ _ => 0, 0, P0_rep hn, by decide, rfl, rfl, fun j hj => absurd hj (Nat.not_lt_zero j), rfl, rfl⟩, ⟨⟨_, at_r hn (k := 36) rfl, fun j hj => ?_⟩, fun q => absurd q (by decide)⟩, ⟨rfl, 0, 0, Nat.zero_le _, by decide, rfl, Nat.zero_le _, fun i hi => absurd hi (Nat.not_lt_zero i)⟩⟩
  · show n + mpC k = n + k
    unfold mpC
    rw [if_pos hk]
  · intro k j hj z
    have h1 : n + mpC k = n + 103 + j := z
    have := mpC_lt k
    omega
  · rw [up4_e]
    exact if_neg (by omega)
