/-! turned: each round one mark fewer -/
def LS5 (m n c k : Int32) : List (Option PV) := [some (vR 0), some (vI m), some (vI n), some (vI c), some (vI k)]
set_option maxRecDepth 100000 in
theorem tu_0 (m n c k : Int32) (L : QH FA) (F : Nat) : rnX (mP 59) (F + 2) 35 (LS5 m n c k) [] L = rnX (mP 59) F 37 (LS5 m n c k) [vI 144, vI k] L := rfl
set_option maxRecDepth 100000 in
theorem tu_1 (x y : Int32) (ls : List (Option PV)) (L : QH FA) (F : Nat) : rnX (mP 59) (F + 1) 37 ls [vI y, vI x] L = bif pcmp 3 x y then rnX (mP 59) F 51 ls [] L else rnX (mP 59) F 38 ls [] L := rfl
set_option maxRecDepth 100000 in
theorem tu_2 (m n c k : Int32) (z : Nat → Int32) (f : Nat → FA) (F : Nat) : rnX (mP 59) (F + 3) 38 (LS5 m n c k) [] (LR z f) = rnX (mP 59) F 41 (LS5 m n c k) [vI k, vR 23] (LR z f) := rfl
set_option maxRecDepth 100000 in
theorem tu_3 (x : Int32) (ls : List (Option PV)) (z : Nat → Int32) (f : Nat → FA) (F : Nat) : rnX (mP 59) (F + 1) 41 ls [vI x, vR 23] (LR z f) = bif (Nat.beq 0 0 && pin x 144) then rnX (mP 59) F 42 ls [vI (f 23 (ix x))] (LR z f) else none := rfl
set_option maxRecDepth 100000 in
theorem tu_4 (m n c k : Int32) (x : Int32) (z : Nat → Int32) (f : Nat → FA) (F : Nat) : rnX (mP 59) (F + 3) 42 (LS5 m n c k) [vI x] (LR z f) = rnX (mP 59) F 45 (LS5 m n c k) [vI c, vR 23, vI x] (LR z f) := rfl
set_option maxRecDepth 100000 in
theorem tu_5 (x : Int32) (w : Int32) (ls : List (Option PV)) (z : Nat → Int32) (f : Nat → FA) (F : Nat) : rnX (mP 59) (F + 1) 45 ls [vI x, vR 23, vI w] (LR z f) = bif (Nat.beq 0 0 && pin x 144) then rnX (mP 59) F 46 ls [vI (f 23 (ix x)), vI w] (LR z f) else none := rfl
set_option maxRecDepth 100000 in
theorem tu_6 (x y : Int32) (ls : List (Option PV)) (L : QH FA) (F : Nat) : rnX (mP 59) (F + 1) 46 ls [vI y, vI x] L = bif pcmp 5 x y then rnX (mP 59) F 49 ls [] L else rnX (mP 59) F 47 ls [] L := rfl
set_option maxRecDepth 100000 in
theorem tu_7 (m n c k : Int32) (L : QH FA) (F : Nat) : rnX (mP 59) (F + 2) 47 (LS5 m n c k) [] L = rnX (mP 59) F 49 (LS5 m n k k) [] L := rfl
set_option maxRecDepth 100000 in
theorem tu_8 (m n c k : Int32) (L : QH FA) (F : Nat) : rnX (mP 59) (F + 2) 49 (LS5 m n c k) [] L = rnX (mP 59) F 35 (LS5 m n c (k + 1)) [] L := rfl
set_option maxRecDepth 100000 in
theorem tu_9 (m n c k : Int32) (z : Nat → Int32) (f : Nat → FA) (F : Nat) : rnX (mP 59) (F + 3) 51 (LS5 m n c k) [] (LR z f) = rnX (mP 59) F 54 (LS5 m n c k) [vI c, vR 23] (LR z f) := rfl
set_option maxRecDepth 100000 in
theorem tu_a (x : Int32) (ls : List (Option PV)) (z : Nat → Int32) (f : Nat → FA) (F : Nat) : rnX (mP 59) (F + 1) 54 ls [vI x, vR 23] (LR z f) = bif (Nat.beq 0 0 && pin x 144) then rnX (mP 59) F 55 ls [vI (f 23 (ix x))] (LR z f) else none := rfl
set_option maxRecDepth 100000 in
theorem tu_b (x : Int32) (ls : List (Option PV)) (L : QH FA) (F : Nat) : rnX (mP 59) (F + 1) 55 ls [vI x] L = bif pcmp 1 x 0 then rnX (mP 59) F 58 ls [] L else rnX (mP 59) F 56 ls [] L := rfl
set_option maxRecDepth 100000 in
theorem tu_c (ls : List (Option PV)) (L : QH FA) (F : Nat) : rnX (mP 59) (F + 1) 56 ls [] L = rnX (mP 59) F 57 ls [vI (-1)] L := rfl
set_option maxRecDepth 100000 in
theorem tu_d (x : Int32) (ls : List (Option PV)) (L : QH FA) (F : Nat) : rnX (mP 59) (F + 1) 57 ls [vI x] L = some (some (vI x), L) := rfl
set_option maxRecDepth 100000 in
theorem tu_e (m n c k : Int32) (z : Nat → Int32) (f : Nat → FA) (F : Nat) : rnX (mP 59) (F + 4) 58 (LS5 m n c k) [] (LR z f) = rnX (mP 59) F 62 (LS5 m n c k) [vI c, vR 23, vI m] (LR z f) := rfl
set_option maxRecDepth 100000 in
theorem tu_f (x : Int32) (w : Int32) (ls : List (Option PV)) (z : Nat → Int32) (f : Nat → FA) (F : Nat) : rnX (mP 59) (F + 1) 62 ls [vI x, vR 23, vI w] (LR z f) = bif (Nat.beq 0 0 && pin x 144) then rnX (mP 59) F 63 ls [vI (f 23 (ix x)), vI w] (LR z f) else none := rfl
set_option maxRecDepth 100000 in
theorem tu_g (m n c k : Int32) (x w : Int32) (L : QH FA) (F : Nat) : rnX (mP 59) (F + 2) 63 (LS5 m n c k) [vI x, vI w] L = rnX (mP 59) F 65 (LS5 (w + x) n c k) [] L := rfl
set_option maxRecDepth 100000 in
theorem tu_h (m n c k : Int32) (z : Nat → Int32) (f : Nat → FA) (F : Nat) : rnX (mP 59) (F + 4) 65 (LS5 m n c k) [] (LR z f) = rnX (mP 59) F 69 (LS5 m n c k) [vI 0, vI c, vR 23] (LR z f) := rfl
set_option maxRecDepth 100000 in
theorem tu_i (x y : Int32) (ls : List (Option PV)) (z : Nat → Int32) (f : Nat → FA) (F : Nat) : rnX (mP 59) (F + 1) 69 ls [vI y, vI x, vR 23] (LR z f) = bif (Nat.beq 0 0 && pin x 144) then rnX (mP 59) F 70 ls [] (LR z (uA f 23 (upd (f 23) (ix x) y))) else none := rfl
set_option maxRecDepth 100000 in
theorem tu_j (m n c k : Int32) (L : QH FA) (F : Nat) : rnX (mP 59) (F + 5) 70 (LS5 m n c k) [] L = rnX (mP 59) F 29 (LS5 m (n + 1) c k) [] L := rfl
set_option maxRecDepth 100000 in
theorem tu_l (m n c k : Int32) (L : QH FA) (F : Nat) : rnX (mP 59) (F + 1) 29 (LS5 m n c k) [] L = rnX (mP 59) F 30 (LS5 m n c k) [vI m] L := rfl
set_option maxRecDepth 100000 in
theorem tu_m (x : Int32) (ls : List (Option PV)) (L : QH FA) (F : Nat) : rnX (mP 59) (F + 1) 30 ls [vI x] L = bif pcmp 4 x 0 then rnX (mP 59) F 75 ls [] L else rnX (mP 59) F 31 ls [] L := rfl
set_option maxRecDepth 100000 in
theorem tu_n (m n c k : Int32) (L : QH FA) (F : Nat) : rnX (mP 59) (F + 4) 31 (LS5 m n c k) [] L = rnX (mP 59) F 35 (LS5 m n 0 1) [] L := rfl
set_option maxRecDepth 100000 in
theorem tu_o (m n c k : Int32) (L : QH FA) (F : Nat) : rnX (mP 59) (F + 1) 75 (LS5 m n c k) [] L = rnX (mP 59) F 76 (LS5 m n c k) [vI n] L := rfl
set_option maxRecDepth 100000 in
theorem tu_p (x : Int32) (ls : List (Option PV)) (L : QH FA) (F : Nat) : rnX (mP 59) (F + 1) 76 ls [vI x] L = some (some (vI x), L) := rfl
def nz (g : FA) : Nat → Nat
  | 0 => 0
  | n + 1 => nz g n + (if g n = 0 then 0 else 1)
theorem nz_lo (g : FA) (c : Nat) : ∀ n, n ≤ c → nz (upd g c 0) n = nz g n := by
  intro n
  induction n with
  | zero => intro _; rfl
  | succ n ih =>
    intro h
    show nz (upd g c 0) n + (if upd g c 0 n = 0 then 0 else 1) = nz g n + (if g n = 0 then 0 else 1)
    rw [ih (by omega), pk_un (by omega)]
theorem nz_up (g : FA) (c : Nat) (hg : ¬ g c = 0) : ∀ n, c < n → nz (upd g c 0) n + 1 = nz g n := by
  intro n
  induction n with
  | zero => intro h; omega
  | succ n ih =>
    intro h
    show nz (upd g c 0) n + (if upd g c 0 n = 0 then 0 else 1) + 1 = nz g n + (if g n = 0 then 0 else 1)
    by_cases e : c = n
    · subst e
      rw [nz_lo g c c (Nat.le_refl _), pk_us, if_pos rfl, if_neg hg]
    · have := ih (by omega)
      rw [pk_un (fun q => e q.symm)]
      omega
theorem tu_in (z : Nat → Int32) (f : Nat → FA) (m n : Int32) : ∀ t k, k + t = 144 → ∀ c, c < 144 → ∃ c', c' < 144 ∧ ∀ res, RX (mP 59) 51 (LS5 m n (nI c') (nI 144)) [] (LR z f) res → RX (mP 59) 35 (LS5 m n (nI c) (nI k)) [] (LR z f) res := by
  intro t
  induction t with
  | zero =>
    intro k hk c hc
    obtain rfl : k = 144 := by omega
    exact ⟨c, hc, fun res h => rx_b 2 (tu_0 _ _ _ _ _) (rx_t (tu_1 _ _ _ _) (by rw [show (144 : Int32) = nI 144 from rfl, ge_nI (by omega) (by omega)]; decide) h)⟩
  | succ t ih =>
    intro k hk c hc
    have e1 : nI k + 1 = nI (k + 1) := nI_add k 1
    have pre : ∀ res, RX (mP 59) 46 (LS5 m n (nI c) (nI k)) [vI (f 23 c), vI (f 23 k)] (LR z f) res → RX (mP 59) 35 (LS5 m n (nI c) (nI k)) [] (LR z f) res := by
      intro res h
      refine rx_b 2 (tu_0 _ _ _ _ _) (rx_f (tu_1 _ _ _ _) (by rw [show (144 : Int32) = nI 144 from rfl, ge_nI (by omega) (by omega), ble_f]; omega) ?_)
      refine rx_b 3 (tu_2 _ _ _ _ _ _) (rx_g (tu_3 _ _ _ _) (by rw [pin_nI (by omega) (by omega)]; rfl) ?_)
      refine rx_b 3 (tu_4 _ _ _ _ _ _ _) (rx_g (tu_5 _ _ _ _ _) (by rw [pin_nI (by omega) (by omega)]; rfl) ?_)
      rw [ix_nI (by omega), ix_nI (by omega)]
      exact h
    cases hq : pcmp 5 (f 23 k) (f 23 c) with
    | true =>
      obtain ⟨c', h1, h2⟩ := ih (k + 1) (by omega) c hc
      refine ⟨c', h1, fun res h => pre res (rx_t (tu_6 _ _ _ _) hq (rx_b 2 (tu_8 _ _ _ _ _) ?_))⟩
      rw [e1]
      exact h2 res h
    | false =>
      obtain ⟨c', h1, h2⟩ := ih (k + 1) (by omega) k (by omega)
      refine ⟨c', h1, fun res h => pre res (rx_f (tu_6 _ _ _ _) hq (rx_b 2 (tu_7 _ _ _ _ _) (rx_b 2 (tu_8 _ _ _ _ _) ?_)))⟩
      rw [e1]
      exact h2 res h
theorem tu_out (z : Nat → Int32) (f : Nat → FA) : ∀ q (g : FA), nz g 144 < q → ∀ m n, ∃ x g', RX (mP 59) 35 (LS5 m n 0 1) [] (LR z (uA f 23 g)) (some (vI x), LR z (uA f 23 g')) := by
  intro q
  induction q with
  | zero => intro g h; omega
  | succ q ih =>
    intro g hq m n
    obtain ⟨c, hc, h1⟩ := tu_in z (uA f 23 g) m n 143 1 (by omega) 0 (by omega)
    have pre : ∀ res, RX (mP 59) 55 (LS5 m n (nI c) (nI 144)) [vI (g c)] (LR z (uA f 23 g)) res → RX (mP 59) 35 (LS5 m n 0 1) [] (LR z (uA f 23 g)) res := by
      intro res h
      refine h1 res (rx_b 3 (tu_9 _ _ _ _ _ _) (rx_g (tu_a _ _ _ _) (by rw [pin_nI (by omega) (by omega)]; rfl) ?_))
      rw [ix_nI (by omega), uA_self]
      exact h
    by_cases h0 : g c = 0
    · exact ⟨-1, g, pre _ (rx_f (tu_b _ _ _) (by rw [cmp_ne, h0]; exact decide_eq_false (fun e => e rfl)) (rx_b 1 (tu_c _ _) (rx_ret (tu_d _ _ _))))⟩
    · have hu := nz_up g c h0 144 (by omega)
      have mid : ∀ res, RX (mP 59) 30 (LS5 (m + g c) (n + 1) (nI c) (nI 144)) [vI (m + g c)] (LR z (uA f 23 (upd g c 0))) res → RX (mP 59) 35 (LS5 m n 0 1) [] (LR z (uA f 23 g)) res := by
        intro res h
        refine pre res (rx_t (tu_b _ _ _) (by rw [cmp_ne]; exact decide_eq_true h0) ?_)
        refine rx_b 4 (tu_e _ _ _ _ _ _) (rx_g (tu_f _ _ _ _ _) (by rw [pin_nI (by omega) (by omega)]; rfl) ?_)
        refine rx_b 2 (tu_g _ _ _ _ _ _ _) (rx_b 4 (tu_h _ _ _ _ _ _) (rx_g (tu_i _ _ _ _ _) (by rw [pin_nI (by omega) (by omega)]; rfl) ?_))
        rw [ix_nI (by omega), uA_uA, uA_self]
        exact rx_b 5 (tu_j _ _ _ _ _) (rx_b 1 (tu_l _ _ _ _ _) h)
      cases hb : pcmp 4 (m + g c) 0 with
      | true => exact ⟨n + 1, upd g c 0, mid _ (rx_t (tu_m _ _ _) hb (rx_b 1 (tu_o _ _ _ _ _) (rx_ret (tu_p _ _ _))))⟩
      | false =>
        obtain ⟨x, g', h2⟩ := ih (upd g c 0) (by omega) (m + g c) (n + 1)
        exact ⟨x, g', mid _ (rx_f (tu_m _ _ _) hb (rx_b 4 (tu_n _ _ _ _ _) h2))⟩
def lsT : AL := [some (.inr (.inl (some 0))), some (.inr (.inr (.inr (0, 4294967295)))), some (.inr (.inr (.inr (0, 4294967295)))), some (.inr (.inr (.inr (2147483648, 2147483648)))), some (.inr (.inr (.inr (2147483649, 2147483649))))]
theorem tu_J {lam : Nat → Nat} (cls : List (Option PV)) (h2 : PH) (hl : R2 (oRel lam []) lsT cls) (hT : HOK lam [] TRf h2) : ∃ ls L r L' N, cls = sls lam ls ∧ Rep rdF h2 lam 43 L h2 ∧ rnX (mP 59) N 35 ls [] L = some (r, L') ∧ ∀ h1, Rep rdF h2 lam 43 L' h1 → RSO (some (0, 4294967295)) (r.map (sv lam)) ∧ FRM lam [(21, 999), (22, 999), (23, 999)] h2 h1 ∧ HOK lam [] TRf h1 := by
  obtain ⟨a0, r0, rfl, ⟨b0, rfl, q0⟩, hl1⟩ := R2.uncons hl
  obtain ⟨a1, r1, rfl, ⟨b1, rfl, m, rfl, q1⟩, hl2⟩ := R2.uncons hl1
  obtain ⟨a2, r2, rfl, ⟨b2, rfl, n, rfl, q2⟩, hl3⟩ := R2.uncons hl2
  obtain ⟨a3, r3, rfl, ⟨b3, rfl, c, rfl, q3⟩, hl4⟩ := R2.uncons hl3
  obtain ⟨a4, r4, rfl, ⟨b4, rfl, k, rfl, q4⟩, hl5⟩ := R2.uncons hl4
  cases r4 with
  | cons _ _ => cases hl5
  | nil =>
    have q0 : b0 = vR (lam 0) := q0
    subst q0
    obtain rfl : c = 0 := (inb_c q3).trans (by decide)
    obtain rfl : k = 1 := (inb_c q4).trans (by decide)
    obtain ⟨z, f, hR⟩ := LR_rep hT
    obtain ⟨x, g, N, hN⟩ := tu_out z f _ (f 23) (Nat.lt_succ_self _) m n
    rw [uA_id rfl] at hN
    refine ⟨LS5 m n 0 1, LR z f, _, _, N, rfl, hR, hN N (Nat.le_refl _), fun h1 hR1 => ⟨⟨x, rfl, inb_top x⟩, rx_fin (E := [23]) (fun k c hk => ?_) hT hR hR1 ?_ ?_ ?_⟩⟩
    · rw [nth_eq] at hk
      exact (List.getElem?_eq_some_iff.mp hk).1
    · intro k hk
      cases k with
      | zero => rfl
      | succ k =>
        rw [LR_get, LR_get, uA_ne (fun e => hk (by rw [e]; exact List.mem_cons_self))]
    · intro k hk c hc
      rcases List.mem_cons.mp hk with rfl | hk
      · have hc := Option.some.inj hc
        subst hc
        exact ⟨_, rfl, 144, g, rfl, by decide, ⟨_, val_c (by decide), by decide⟩, ⟨fun j _ => inb_top _, trivial⟩, trivial⟩
      · cases hk
    · intro k hk x x' hx hx'
      rcases List.mem_cons.mp hk with rfl | hk
      · have hx := Option.some.inj hx
        have hx' := Option.some.inj hx'
        subst hx
        subst hx'
        exact ⟨rfl, rfl, fun q => absurd (by decide) q⟩
      · cases hk
def cuT : List (Nat × CU) := [(7, (0, 3, [], 0, 2147483648, 4294967295, [], []))]
set_option maxRecDepth 1000000 in
theorem tu_chk : chkJ TRf [kr_q14, kr_q5, kr_q4, kr_m2] MT 20000 cuT 35 lsT 59 7 [.inr (.inl (some 0))] (some (0, 4294967295)) [(21, 999), (22, 999), (23, 999)] = true := by decide +kernel
theorem turned_ok (l : Launch) (G : PG) (lam : Nat → Nat) (hi : LbI lam 43) (hl : LAMR lam) (EX : PH → Prop) (hx : EXK lam EX) (hm2 : SUOK lam TRf EX l G kr_m2) : SUOK lam TRf EX l G kr_m19 := chkJ_ok MT_ok (hx _ (by decide +kernel)) (hiL hl (by decide +kernel)) (suc (kr_q14_ok l G lam hl EX hx hm2) (suc (kr_q5_ok l G lam hl EX hx) (suc (kr_q4_ok l G lam hl EX hx) (suc hm2 sun)))) hi tu_chk (fun cls h2 a b => tu_J cls h2 a b)
