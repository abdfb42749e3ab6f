/-! middleOf -/
def LS4 (w n k : Int32) : List (Option PV) := [some (vR 0), some (vI w), some (vI n), some (vI k)]
def cn (g : FA) (w : Int32) : Nat → Nat
  | 0 => 0
  | k + 1 => if pcmp 4 (g k) w = true then cn g w k else cn g w k + 1
theorem cn_le (g : FA) (w : Int32) : ∀ k, cn g w k ≤ k := by
  intro k
  induction k with
  | zero => exact Nat.le_refl _
  | succ k ih => unfold cn; split <;> omega
theorem cn_all {g : FA} {w : Int32} {m : Nat} (h : ∀ k, k < m → pcmp 4 (g k) w = false) : ∀ k, k ≤ m → cn g w k = k := by
  intro k
  induction k with
  | zero => intro _; rfl
  | succ k ih => intro hk; unfold cn; rw [if_neg (by rw [h k (by omega)]; decide), ih (by omega)]
set_option maxRecDepth 100000 in
theorem mi_0 (z : Nat → Int32) (f : Nat → FA) (ls : List (Option PV)) (F : Nat) : rnX (mP 240) (F + 2) 0 (some (vR 0) :: ls) [] (LR z f) = rnX (mP 240) F 2 (some (vR 0) :: ls) [vI (z 50)] (LR z f) := rfl
set_option maxRecDepth 100000 in
theorem mi_1 (x : Int32) (ls : List (Option PV)) (L : QH FA) (F : Nat) : rnX (mP 240) (F + 1) 2 ls [vI x] L = bif pcmp 1 x 0 then rnX (mP 240) F 5 ls [] L else rnX (mP 240) F 3 ls [] L := rfl
set_option maxRecDepth 100000 in
theorem mi_2 (ls : List (Option PV)) (L : QH FA) (F : Nat) : rnX (mP 240) (F + 1) 3 ls [] L = rnX (mP 240) F 4 ls [vI (-1)] L := rfl
set_option maxRecDepth 100000 in
theorem mi_3 (x : Int32) (ls : List (Option PV)) (L : QH FA) (F : Nat) : rnX (mP 240) (F + 1) 4 ls [vI x] L = some (some (vI x), L) := rfl
set_option maxRecDepth 100000 in
theorem mi_4 (a b : Option PV) (c0 : Option PV) (L : QH FA) (F : Nat) : rnX (mP 240) (F + 2) 5 [some (vR 0), a, b, c0] [] L = rnX (mP 240) F 7 [some (vR 0), some (vI 0), b, c0] [] L := rfl
set_option maxRecDepth 100000 in
theorem mi_5 (w : Int32) (b c0 : Option PV) (L : QH FA) (F : Nat) : rnX (mP 240) (F + 4) 7 [some (vR 0), some (vI w), b, c0] [] L = rnX (mP 240) F 11 (LS4 w 0 0) [] L := rfl
set_option maxRecDepth 100000 in
theorem mi_6 (w n k : Int32) (z : Nat → Int32) (f : Nat → FA) (F : Nat) : rnX (mP 240) (F + 3) 11 (LS4 w n k) [] (LR z f) = rnX (mP 240) F 14 (LS4 w n k) [vI (z 50), vI k] (LR z f) := rfl
set_option maxRecDepth 100000 in
theorem mi_7 (x y : Int32) (ls : List (Option PV)) (L : QH FA) (F : Nat) : rnX (mP 240) (F + 1) 14 ls [vI y, vI x] L = bif pcmp 3 x y then rnX (mP 240) F 27 ls [] L else rnX (mP 240) F 15 ls [] L := rfl
set_option maxRecDepth 100000 in
theorem mi_8 (w n k : Int32) (z : Nat → Int32) (f : Nat → FA) (F : Nat) : rnX (mP 240) (F + 3) 15 (LS4 w n k) [] (LR z f) = rnX (mP 240) F 18 (LS4 w n k) [vI k, vR 29] (LR z f) := rfl
set_option maxRecDepth 100000 in
theorem mi_9 (w n k : Int32) (z : Nat → Int32) (f : Nat → FA) (F : Nat) : rnX (mP 240) (F + 1) 18 (LS4 w n k) [vI k, vR 29] (LR z f) = bif (Nat.beq 0 0 && pin k 15) then rnX (mP 240) F 19 (LS4 w n k) [vI (f 29 (ix k))] (LR z f) else none := rfl
set_option maxRecDepth 100000 in
theorem mi_a (w n k x : Int32) (L : QH FA) (F : Nat) : rnX (mP 240) (F + 1) 19 (LS4 w n k) [vI x] L = rnX (mP 240) F 20 (LS4 w n k) [vI w, vI x] L := rfl
set_option maxRecDepth 100000 in
theorem mi_b (x y : Int32) (ls : List (Option PV)) (L : QH FA) (F : Nat) : rnX (mP 240) (F + 1) 20 ls [vI y, vI x] L = bif pcmp 4 x y then rnX (mP 240) F 25 ls [] L else rnX (mP 240) F 21 ls [] L := rfl
set_option maxRecDepth 100000 in
theorem mi_c (w n k : Int32) (L : QH FA) (F : Nat) : rnX (mP 240) (F + 4) 21 (LS4 w n k) [] L = rnX (mP 240) F 25 (LS4 w (n + 1) k) [] L := rfl
set_option maxRecDepth 100000 in
theorem mi_d (w n k : Int32) (L : QH FA) (F : Nat) : rnX (mP 240) (F + 2) 25 (LS4 w n k) [] L = rnX (mP 240) F 11 (LS4 w n (k + 1)) [] L := rfl
set_option maxRecDepth 100000 in
theorem mi_e (w n k : Int32) (z : Nat → Int32) (f : Nat → FA) (F : Nat) : rnX (mP 240) (F + 5) 27 (LS4 w n k) [] (LR z f) = rnX (mP 240) F 32 (LS4 w n k) [vI (z 50), vI (2 * n)] (LR z f) := rfl
set_option maxRecDepth 100000 in
theorem mi_f (x y : Int32) (ls : List (Option PV)) (L : QH FA) (F : Nat) : rnX (mP 240) (F + 1) 32 ls [vI y, vI x] L = bif pcmp 2 x y then rnX (mP 240) F 35 ls [] L else rnX (mP 240) F 33 ls [] L := rfl
set_option maxRecDepth 100000 in
theorem mi_g (w n k : Int32) (L : QH FA) (F : Nat) : rnX (mP 240) (F + 1) 33 (LS4 w n k) [] L = rnX (mP 240) F 34 (LS4 w n k) [vI w] L := rfl
set_option maxRecDepth 100000 in
theorem mi_h (x : Int32) (ls : List (Option PV)) (L : QH FA) (F : Nat) : rnX (mP 240) (F + 1) 34 ls [vI x] L = some (some (vI x), L) := rfl
set_option maxRecDepth 100000 in
theorem mi_i (w n k : Int32) (L : QH FA) (F : Nat) : rnX (mP 240) (F + 5) 35 (LS4 w n k) [] L = rnX (mP 240) F 7 (LS4 (w + 1) n k) [] L := rfl
theorem mi_in (z : Nat → Int32) (f : Nat → FA) (w : Int32) (m : Nat) (hm : m ≤ 15) (hz : z 50 = nI m) (res : Option PV × QH FA) (hend : RX (mP 240) 27 (LS4 w (nI (cn (f 29) w m)) (nI m)) [] (LR z f) res) : ∀ t k, k + t = m → RX (mP 240) 11 (LS4 w (nI (cn (f 29) w k)) (nI k)) [] (LR z f) res := by
  intro t
  induction t with
  | zero =>
    intro k hk
    obtain rfl : k = m := by omega
    refine rx_b 3 (mi_6 _ _ _ _ _) (rx_t (mi_7 _ _ _ _) ?_ hend)
    rw [hz, ge_nI (by omega) (by omega), Nat.ble_eq]; omega
  | succ t ih =>
    intro k hk
    refine rx_b 3 (mi_6 _ _ _ _ _) (rx_f (mi_7 _ _ _ _) (by rw [hz, ge_nI (by omega) (by omega), ble_f]; omega) ?_)
    refine rx_b 3 (mi_8 _ _ _ _ _) (rx_g (mi_9 _ _ _ _ _) (by rw [pin_nI (by omega) (by omega)]; rfl) ?_)
    refine rx_b 1 (mi_a _ _ _ _ _) ?_
    rw [ix_nI (by omega)]
    have e1 : nI k + 1 = nI (k + 1) := nI_add k 1
    cases hb : pcmp 4 (f 29 k) w with
    | true =>
      refine rx_t (mi_b _ _ _ _) hb (rx_b 2 (mi_d _ _ _ _) ?_)
      have := ih (k + 1) (by omega)
      rw [show cn (f 29) w (k + 1) = cn (f 29) w k by unfold cn; rw [if_pos hb]; cases k <;> rfl] at this
      rw [e1]; exact this
    | false =>
      refine rx_f (mi_b _ _ _ _) hb (rx_b 4 (mi_c _ _ _ _) (rx_b 2 (mi_d _ _ _ _) ?_))
      have := ih (k + 1) (by omega)
      rw [show cn (f 29) w (k + 1) = cn (f 29) w k + 1 by rw [cn, if_neg (by rw [hb]; decide)]] at this
      rw [e1, show nI (cn (f 29) w k) + 1 = nI (cn (f 29) w k + 1) from nI_add _ 1]; exact this
theorem lt_nI {a b : Nat} (ha : a < 2147483648) (hb : b < 2147483648) : pcmp 2 (nI a) (nI b) = Nat.blt a b := by
  show Nat.blt (ky (nI a)) (ky (nI b)) = _
  rw [ky_nI ha, ky_nI hb]
  rw [Bool.eq_iff_iff, blt_t, blt_t]
  omega
theorem mi_out (z : Nat → Int32) (f : Nat → FA) (m : Nat) (hm : m ≤ 15) (hz : z 50 = nI m) (hf : ∀ k, k < m → ky (f 29 k) ≤ 2147483747) : ∀ t w, w + t = 99 → ∀ b c0, ∃ r, r ≤ 99 ∧ RX (mP 240) 7 [some (vR 0), some (vI (nI w)), b, c0] [] (LR z f) (some (vI (nI r)), LR z f) := by
  intro t
  induction t with
  | zero =>
    intro w hw b c0
    obtain rfl : w = 99 := by omega
    refine ⟨99, Nat.le_refl _, rx_b 4 (mi_5 _ _ _ _) ?_⟩
    refine mi_in z f (nI 99) m hm hz _ ?_ m 0 (by omega)
    have hcn : cn (f 29) (nI 99) m = m := cn_all (m := m) (fun k hk => by
      show Nat.blt (ky (nI 99)) (ky (f 29 k)) = false
      rw [blt_f, ky_nI (by decide)]
      have := hf k hk
      omega) m (Nat.le_refl _)
    rw [hcn]
    refine rx_b 5 (mi_e _ _ _ _ _) ?_
    rw [show (2 : Int32) = nI 2 from rfl, mul_nI, hz]
    refine rx_f (mi_f _ _ _ _) (by rw [lt_nI (by omega) (by omega), blt_f]; omega) ?_
    exact rx_b 1 (mi_g _ _ _ _) (rx_ret (mi_h _ _ _))
  | succ t ih =>
    intro w hw b c0
    have hc := cn_le (f 29) (nI w) m
    by_cases h : 2 * cn (f 29) (nI w) m < m
    · obtain ⟨r, h1, h2⟩ := ih (w + 1) (by omega) (some (vI (nI (cn (f 29) (nI w) m)))) (some (vI (nI m)))
      refine ⟨r, h1, rx_b 4 (mi_5 _ _ _ _) ?_⟩
      refine mi_in z f (nI w) m hm hz _ ?_ m 0 (by omega)
      refine rx_b 5 (mi_e _ _ _ _ _) ?_
      rw [show (2 : Int32) = nI 2 from rfl, mul_nI, hz]
      refine rx_t (mi_f _ _ _ _) (by rw [lt_nI (by omega) (by omega), blt_t]; omega) ?_
      refine rx_b 5 (mi_i _ _ _ _) ?_
      rw [show nI w + 1 = nI (w + 1) from nI_add w 1]
      exact h2
    · refine ⟨w, by omega, rx_b 4 (mi_5 _ _ _ _) ?_⟩
      refine mi_in z f (nI w) m hm hz _ ?_ m 0 (by omega)
      refine rx_b 5 (mi_e _ _ _ _ _) ?_
      rw [show (2 : Int32) = nI 2 from rfl, mul_nI, hz]
      refine rx_f (mi_f _ _ _ _) (by rw [lt_nI (by omega) (by omega), blt_f]; omega) ?_
      exact rx_b 1 (mi_g _ _ _ _) (rx_ret (mi_h _ _ _))
theorem mi_run (z : Nat → Int32) (f : Nat → FA) (m : Nat) (hm : m ≤ 15) (hz : z 50 = nI m) (hf : ∀ k, k < m → ky (f 29 k) ≤ 2147483747) : ∃ x, inb 2147483647 2147483747 x ∧ RX (mP 240) 0 [some (vR 0), none, none, none] [] (LR z f) (some (vI x), LR z f) := by
  by_cases h0 : m = 0
  · subst h0
    refine ⟨-1, by unfold inb; decide, rx_b 2 (mi_0 _ _ _) (rx_f (mi_1 _ _ _) (by rw [hz]; decide) (rx_b 1 (mi_2 _ _) (rx_ret (mi_3 _ _ _))))⟩
  · obtain ⟨r, h1, h2⟩ := mi_out z f m hm hz hf 99 0 (by omega) none none
    refine ⟨nI r, ⟨by rw [ky_nI (by omega)]; omega, by rw [ky_nI (by omega)]; omega⟩, rx_b 2 (mi_0 _ _ _) (rx_t (mi_1 _ _ _) ?_ (rx_b 2 (mi_4 _ _ _ _) h2))⟩
    rw [hz, cmp_ne]
    refine decide_eq_true (fun e => ?_)
    have := congrArg ix e
    rw [ix_nI (by omega)] at this
    have e0 : ix 0 = 0 := by decide
    omega
theorem middleOf_ok {lam : Nat → Nat} {EX : PH → Prop} {l : Launch} {G : PG} (hi : LbI lam 43) : SUOK lam TRf EX l G kr_m24 := by
  intro cAs h hA hT hX
  obtain ⟨a, r1, rfl, ha, hA1⟩ := R2.uncons hA
  have ha : a = vR (lam 0) := ha
  subst ha
  cases r1 with
  | cons _ _ => cases hA1
  | nil =>
    obtain ⟨z, f, hR⟩ := LR_rep hT
    have hb := z_inb hT hR rfl (j := 50) (lo := 2147483648) (hi := 2147483663) rfl rfl
    obtain ⟨u, hu, hz⟩ := nI_of_inb (m := 15) (by decide) hb
    obtain ⟨s1, -⟩ := LR_seg (k := 29) (c := 15) (p := 0) (sg := [(15, 2147483648, 2147483747)]) hT hR rfl (by decide) rfl
    obtain ⟨x, hx, hrun⟩ := mi_run z f u hu hz (fun k hk => (s1.1 k (by show k < 15; omega)).2)
    refine ⟨_, rx_met (k := 240) (As := [vR 0]) (mq240 (cu := [])).2.2 hi rfl hrun hR, ?_⟩
    rintro r h1 ⟨rfl, hR1⟩
    refine ⟨⟨x, rfl, hx⟩, rx_fin (E := []) (fun k c hk => ?_) hT hR hR1 (fun _ _ => rfl) (fun k hk => by cases hk) (fun k hk => by cases hk)⟩
    rw [nth_eq] at hk
    exact (List.getElem?_eq_some_iff.mp hk).1
