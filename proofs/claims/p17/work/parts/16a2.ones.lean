/-! onesOf of the reference by an exact run: no cell is looked at -/
def LO (x n v : Int32) : List (Option PV) := [some (vR 0), some (vI x), some (vI n), some (vI v)]
set_option maxRecDepth 100000 in
theorem on_0 (x : Int32) (L : QH FA) (F : Nat) : rnX (mP 245) (F + 4) 0 [some (vR 0), some (vI x), none, none] [] L = rnX (mP 245) F 4 (LO x 0 x) [] L := rfl
set_option maxRecDepth 100000 in
theorem on_1 (x n v : Int32) (L : QH FA) (F : Nat) : rnX (mP 245) (F + 1) 4 (LO x n v) [] L = rnX (mP 245) F 5 (LO x n v) [vI v] L := rfl
set_option maxRecDepth 100000 in
theorem on_2 (v : Int32) (ls : List (Option PV)) (L : QH FA) (F : Nat) : rnX (mP 245) (F + 1) 5 ls [vI v] L = bif pcmp 0 v 0 then rnX (mP 245) F 17 ls [] L else rnX (mP 245) F 6 ls [] L := rfl
set_option maxRecDepth 100000 in
theorem on_3 (x n v : Int32) (L : QH FA) (F : Nat) : rnX (mP 245) (F + 11) 6 (LO x n v) [] L = rnX (mP 245) F 4 (LO x (n + 1) (v &&& (v - 1))) [] L := rfl
set_option maxRecDepth 100000 in
theorem on_4 (x n v : Int32) (L : QH FA) (F : Nat) : rnX (mP 245) (F + 1) 17 (LO x n v) [] L = rnX (mP 245) F 18 (LO x n v) [vI n] L := rfl
set_option maxRecDepth 100000 in
theorem on_5 (n : Int32) (ls : List (Option PV)) (L : QH FA) (F : Nat) : rnX (mP 245) (F + 1) 18 ls [vI n] L = some (some (vI n), L) := rfl
/-- how many of eight bits are set -/
def pcN (v : Nat) : Nat := v % 2 + v / 2 % 2 + v / 4 % 2 + v / 8 % 2 + v / 16 % 2 + v / 32 % 2 + v / 64 % 2 + v / 128 % 2
theorem pcN_s : ∀ v, v < 256 → v ≠ 0 → (nI v &&& (nI v - 1)) = nI (v &&& (v - 1)) ∧ (v &&& (v - 1)) < v ∧ pcN v = pcN (v &&& (v - 1)) + 1 ∧ ¬ nI v = 0 := by decide +kernel
theorem pcN_le (v : Nat) : pcN v ≤ 8 := by
  unfold pcN
  omega
theorem on_run (x : Int32) (L : QH FA) : ∀ m v, v < m → v < 256 → ∀ n, RX (mP 245) 4 (LO x (nI n) (nI v)) [] L (some (vI (nI (n + pcN v))), L) := by
  intro m
  induction m with
  | zero => intro v h; omega
  | succ m ih =>
    intro v hv h256 n
    by_cases h0 : v = 0
    · subst h0
      exact rx_b 1 (on_1 _ _ _ _) (rx_t (on_2 _ _ _) rfl (rx_b 1 (on_4 _ _ _ _) (rx_ret (on_5 _ _ _))))
    · obtain ⟨e1, e2, e3, e4⟩ := pcN_s v h256 h0
      refine rx_b 1 (on_1 _ _ _ _) (rx_f (on_2 _ _ _) (by rw [cmp_eq]; exact decide_eq_false e4) (rx_b 11 (on_3 _ _ _ _) ?_))
      rw [e1, show nI n + 1 = nI (n + 1) from nI_add n 1, e3, show n + (pcN (v &&& (v - 1)) + 1) = n + 1 + pcN (v &&& (v - 1)) by omega]
      exact ih (v &&& (v - 1)) (by omega) (by omega) (n + 1)
/-- X12_onesOf -/
def kr_q0 : SU := (245, 1, [.inr (.inl (some 0)), .inr (.inr (.inr (2147483648, 2147483903)))], some (2147483648, 2147483903), [])
theorem kr_q0_ok (l : Launch) (G : PG) (lam : Nat → Nat) (hl : LAMR lam) (EX : PH → Prop) (hx : EXK lam EX) : SUOK lam TRf EX l G kr_q0 := by
  intro cAs h hA hT hX
  obtain ⟨a, r1, rfl, ha, hA1⟩ := R2.uncons hA
  have ha : a = vR (lam 0) := ha
  subst ha
  obtain ⟨c, r2, rfl, ⟨x, rfl, hxb⟩, hA2⟩ := R2.uncons hA1
  cases r2 with
  | cons _ _ => cases hA2
  | nil =>
    obtain ⟨v, hv, rfl⟩ : ∃ v, v ≤ 255 ∧ x = nI v := by
      obtain ⟨b1, b2⟩ := hxb
      refine ⟨ky x - 2147483648, by omega, ?_⟩
      apply ky_inj
      rw [ky_nI (by omega)]
      omega
    have hR : Rep rdF h lam 0 ([] : QH FA) h := ⟨rfl, (fun k x hk => by cases hk), rfl, fun _ _ => rfl⟩
    have hrun : RX (mP 245) 0 [some (vR 0), some (vI (nI v)), none, none] [] ([] : QH FA) (some (vI (nI (0 + pcN v))), []) := rx_b 4 (on_0 _ _) (on_run (nI v) [] (v + 1) v (by omega) (by omega) 0)
    refine ⟨_, rx_met (k := 245) (N0 := 0) (As := [vR 0, vI (nI v)]) (mq245 (cu := [])).2.2 (fun i hi => absurd hi (Nat.not_lt_zero i)) rfl hrun hR, ?_⟩
    rintro r h1 ⟨rfl, hR1⟩
    have he : h1 = h := List.ext_getElem? (fun a => hR1.2.2.2 a (fun k hk => absurd hk (Nat.not_lt_zero k)))
    subst he
    have hp := pcN_le v
    exact ⟨⟨nI (0 + pcN v), rfl, by rw [ky_nI (by omega)]; omega, by rw [ky_nI (by omega)]; omega⟩, FRM.refl _, hT⟩
