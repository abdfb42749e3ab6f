/-! keepsAhead -/
def BLK (r : FA) : Prop := ∀ b, b < 6 → SegOK NOWs (fun j => r (499 * b + j)) ∧ LK (fun j => r (499 * b + j))
theorem seg_ext {f g : FA} {sg : List (Nat × Nat × Nat)} {n : Nat} (hn : sgT sg ≤ n) (he : ∀ j, j < n → g j = f j) (h : SegOK sg f) : SegOK sg g := by
  have := sgT_ok (f := f) (g := g) sg 0 (by simpa using h) (fun j hj => by rw [Nat.zero_add]; exact he j (by omega))
  simpa using this
theorem lk_ext {f g : FA} {n : Nat} (hn : 355 ≤ n) (he : ∀ j, j < n → g j = f j) (h : LK f) : LK g := by
  intro c hc h0
  rw [he _ (by omega)] at h0 ⊢
  exact h c hc h0
theorem app_seg {f : FA} : ∀ (a b : List (Nat × Nat × Nat)) (o : Nat), SegOK a (fun j => f (o + j)) → SegOK b (fun j => f (o + sgT a + j)) → SegOK (a ++ b) (fun j => f (o + j)) := by
  intro a
  induction a with
  | nil => intro b o _ h; exact h
  | cons s t ih =>
    intro b o h1 h2
    have hT : sgT (s :: t) = s.1 + sgT t := rfl
    have e : (fun j => f (o + (s.1 + j))) = (fun j => f (o + s.1 + j)) := by funext j; rw [Nat.add_assoc]
    refine ⟨h1.1, ?_⟩
    show SegOK (t ++ b) (fun j => f (o + (s.1 + j)))
    rw [e]
    have h3 : SegOK t (fun j => f (o + (s.1 + j))) := h1.2
    rw [e] at h3
    rw [hT, ← Nat.add_assoc] at h2
    exact ih b (o + s.1) h3 h2
theorem row_of {r : FA} (h : BLK r) : SegOK ROWs r := by
  have h0 := (h 0 (by decide)).1; have h1 := (h 1 (by decide)).1; have h2 := (h 2 (by decide)).1; have h3 := (h 3 (by decide)).1; have h4 := (h 4 (by decide)).1; have h5 := (h 5 (by decide)).1
  have b4 := app_seg (f := r) NOWs NOWs (499 * 4) h4 (by rw [now_T]; exact h5)
  have b3 := app_seg (f := r) NOWs _ (499 * 3) h3 (by rw [now_T]; exact b4)
  have b2 := app_seg (f := r) NOWs _ (499 * 2) h2 (by rw [now_T]; exact b3)
  have b1 := app_seg (f := r) NOWs _ (499 * 1) h1 (by rw [now_T]; exact b2)
  have b0 := app_seg (f := r) NOWs _ (499 * 0) h0 (by rw [now_T]; exact b1)
  simp only [Nat.mul_zero, Nat.zero_add] at b0
  exact b0
def shj (r : FA) (j : Nat) : FA := fun i => if i < j then r (i + 499) else r i
def blj (r a : FA) (v j : Nat) : FA := fun i => if 499 * v ≤ i ∧ i < 499 * v + j then a (i - 499 * v) else r i
theorem shj_0 (r : FA) : shj r 0 = r := by funext i; unfold shj; rw [if_neg (by omega)]
theorem shj_s (r : FA) (j : Nat) : upd (shj r j) j (shj r j (j + 499)) = shj r (j + 1) := by
  funext i
  by_cases e : i = j
  · subst e; rw [pk_us]; unfold shj; rw [if_neg (by omega), if_pos (by omega)]
  · rw [pk_un e]; unfold shj
    by_cases h : i < j
    · rw [if_pos h, if_pos (by omega)]
    · rw [if_neg h, if_neg (by omega)]
theorem blj_0 (r a : FA) (v : Nat) : blj r a v 0 = r := by funext i; unfold blj; rw [if_neg (by omega)]
theorem blj_s (r a : FA) (v j : Nat) : upd (blj r a v j) (499 * v + j) (a j) = blj r a v (j + 1) := by
  funext i
  by_cases e : i = 499 * v + j
  · subst e; rw [pk_us]; unfold blj; rw [if_pos (by omega), show 499 * v + j - 499 * v = j by omega]
  · rw [pk_un e]; unfold blj
    by_cases h : 499 * v ≤ i ∧ i < 499 * v + j
    · rw [if_pos h, if_pos (by omega)]
    · rw [if_neg h, if_neg (by omega)]
theorem blk_sh {r : FA} (h : BLK r) : BLK (shj r 2495) := by
  intro b hb
  by_cases h5 : b = 5
  · subst h5
    have e : ∀ j, j < 499 → shj r 2495 (499 * 5 + j) = r (499 * 5 + j) := by intro j hj; unfold shj; rw [if_neg (by omega)]
    exact ⟨seg_ext (by decide) e (h 5 hb).1, lk_ext (by decide) e (h 5 hb).2⟩
  · have e : ∀ j, j < 499 → shj r 2495 (499 * b + j) = r (499 * (b + 1) + j) := by
      intro j hj; unfold shj; rw [if_pos (by omega), show 499 * b + j + 499 = 499 * (b + 1) + j by omega]
    exact ⟨seg_ext (by decide) e (h (b + 1) (by omega)).1, lk_ext (by decide) e (h (b + 1) (by omega)).2⟩
theorem blk_bl {r a : FA} {v : Nat} (h : BLK r) (ha : SegOK NOWs a) (hl : LK a) : BLK (blj r a v 499) := by
  intro b hb
  by_cases hv : b = v
  · subst hv
    have e : ∀ j, j < 499 → blj r a b 499 (499 * b + j) = a j := by intro j hj; unfold blj; rw [if_pos (by omega), show 499 * b + j - 499 * b = j by omega]
    exact ⟨seg_ext (by decide) e ha, lk_ext (by decide) e hl⟩
  · have e : ∀ j, j < 499 → blj r a v 499 (499 * b + j) = r (499 * b + j) := by intro j hj; unfold blj; rw [if_neg (by omega)]
    exact ⟨seg_ext (by decide) e (h b hb).1, lk_ext (by decide) e (h b hb).2⟩
set_option maxRecDepth 100000 in
theorem ka_0 (z : Nat → Int32) (f : Nat → FA) (F : Nat) : rnX (mP 230) (F + 3) 0 [some (vR 0), none] [] (LR z f) = rnX (mP 230) F 3 [some (vR 0), none] [vI 6, vI (z 3)] (LR z f) := rfl
set_option maxRecDepth 100000 in
theorem ka_1 (x y : Int32) (ls : List (Option PV)) (L : QH FA) (F : Nat) : rnX (mP 230) (F + 1) 3 ls [vI y, vI x] L = bif pcmp 1 x y then rnX (mP 230) F 30 ls [] L else rnX (mP 230) F 4 ls [] L := rfl
set_option maxRecDepth 100000 in
theorem ka_2 (z : Nat → Int32) (f : Nat → FA) (F : Nat) : rnX (mP 230) (F + 8) 4 [some (vR 0), none] [] (LR z f) = rnX (mP 230) F 12 (LS2 0) [] (LR (uZ z 3 (z 3 - 1)) f) := rfl
set_option maxRecDepth 100000 in
theorem ka_3 (x : Int32) (z : Nat → Int32) (f : Nat → FA) (F : Nat) : rnX (mP 230) (F + 5) 12 (LS2 x) [] (LR z f) = rnX (mP 230) F 17 (LS2 x) [vI (499 * z 3), vI x] (LR z f) := rfl
set_option maxRecDepth 100000 in
theorem ka_4 (x y : Int32) (L : QH FA) (F : Nat) : rnX (mP 230) (F + 1) 17 (LS2 x) [vI y, vI x] L = bif pcmp 3 x y then rnX (mP 230) F 30 (LS2 x) [] L else rnX (mP 230) F 18 (LS2 x) [] L := rfl
set_option maxRecDepth 100000 in
theorem ka_5 (x : Int32) (z : Nat → Int32) (f : Nat → FA) (F : Nat) : rnX (mP 230) (F + 8) 18 (LS2 x) [] (LR z f) = rnX (mP 230) F 26 (LS2 x) [vI (x + 499), vR 2, vI x, vR 2] (LR z f) := rfl
set_option maxRecDepth 100000 in
theorem ka_6 (x y : Int32) (z : Nat → Int32) (f : Nat → FA) (F : Nat) : rnX (mP 230) (F + 1) 26 (LS2 x) [vI y, vR 2, vI x, vR 2] (LR z f) = bif (Nat.beq 0 0 && pin y 2994) then rnX (mP 230) F 27 (LS2 x) [vI (f 2 (ix y)), vI x, vR 2] (LR z f) else none := rfl
set_option maxRecDepth 100000 in
theorem ka_7 (x y : Int32) (z : Nat → Int32) (f : Nat → FA) (F : Nat) : rnX (mP 230) (F + 1) 27 (LS2 x) [vI y, vI x, vR 2] (LR z f) = bif (Nat.beq 0 0 && pin x 2994) then rnX (mP 230) F 28 (LS2 x) [] (LR z (uA f 2 (upd (f 2) (ix x) y))) else none := rfl
set_option maxRecDepth 100000 in
theorem ka_8 (x : Int32) (L : QH FA) (F : Nat) : rnX (mP 230) (F + 2) 28 (LS2 x) [] L = rnX (mP 230) F 12 (LS2 (x + 1)) [] L := rfl
set_option maxRecDepth 100000 in
theorem ka_9 (x : Option PV) (L : QH FA) (F : Nat) : rnX (mP 230) (F + 2) 30 [some (vR 0), x] [] L = rnX (mP 230) F 32 (LS2 0) [] L := rfl
set_option maxRecDepth 100000 in
theorem kb_h (x : Int32) (L : QH FA) (F : Nat) : rnX (mP 230) (F + 2) 32 (LS2 x) [] L = rnX (mP 230) F 34 (LS2 x) [vI 499, vI x] L := rfl
set_option maxRecDepth 100000 in
theorem kb_i (x y : Int32) (L : QH FA) (F : Nat) : rnX (mP 230) (F + 1) 34 (LS2 x) [vI y, vI x] L = bif pcmp 3 x y then rnX (mP 230) F 50 (LS2 x) [] L else rnX (mP 230) F 35 (LS2 x) [] L := rfl
set_option maxRecDepth 100000 in
theorem kb_1 (x : Int32) (z : Nat → Int32) (f : Nat → FA) (F : Nat) : rnX (mP 230) (F + 11) 35 (LS2 x) [] (LR z f) = rnX (mP 230) F 46 (LS2 x) [vI x, vR 1, vI (499 * z 3 + x), vR 2] (LR z f) := rfl
set_option maxRecDepth 100000 in
theorem kb_2 (x y : Int32) (z : Nat → Int32) (f : Nat → FA) (F : Nat) : rnX (mP 230) (F + 1) 46 (LS2 x) [vI x, vR 1, vI y, vR 2] (LR z f) = bif (Nat.beq 0 0 && pin x 499) then rnX (mP 230) F 47 (LS2 x) [vI (f 1 (ix x)), vI y, vR 2] (LR z f) else none := rfl
set_option maxRecDepth 100000 in
theorem kb_3 (x y w : Int32) (z : Nat → Int32) (f : Nat → FA) (F : Nat) : rnX (mP 230) (F + 1) 47 (LS2 x) [vI w, vI y, vR 2] (LR z f) = bif (Nat.beq 0 0 && pin y 2994) then rnX (mP 230) F 48 (LS2 x) [] (LR z (uA f 2 (upd (f 2) (ix y) w))) else none := rfl
set_option maxRecDepth 100000 in
theorem kb_4 (x : Int32) (L : QH FA) (F : Nat) : rnX (mP 230) (F + 2) 48 (LS2 x) [] L = rnX (mP 230) F 32 (LS2 (x + 1)) [] L := rfl
set_option maxRecDepth 100000 in
theorem kb_5 (x : Int32) (z : Nat → Int32) (f : Nat → FA) (F : Nat) : rnX (mP 230) (F + 6) 50 (LS2 x) [] (LR z f) = rnX (mP 230) F 56 (LS2 x) [] (LR (uZ z 3 (z 3 + 1)) f) := rfl
set_option maxRecDepth 100000 in
theorem kb_r (x : Int32) (L : QH FA) (F : Nat) : rnX (mP 230) (F + 1) 56 (LS2 x) [] L = some (none, L) := rfl
theorem ka_loop (z : Nat → Int32) (f : Nat → FA) (hz : z 3 = nI 5) (res : Option PV × QH FA) (hend : RX (mP 230) 30 (LS2 (nI 2495)) [] (LR z (uA f 2 (shj (f 2) 2495))) res) : ∀ t j, j + t = 2495 → RX (mP 230) 12 (LS2 (nI j)) [] (LR z (uA f 2 (shj (f 2) j))) res := by
  intro t
  induction t with
  | zero =>
    intro j hj
    obtain rfl : j = 2495 := by omega
    refine rx_b 5 (ka_3 _ _ _) (rx_t (ka_4 _ _ _) ?_ hend)
    rw [hz, show (499 : Int32) * nI 5 = nI 2495 from rfl, ge_nI (by omega) (by omega)]; decide
  | succ t ih =>
    intro j hj
    refine rx_b 5 (ka_3 _ _ _) (rx_f (ka_4 _ _ _) (by rw [hz, show (499 : Int32) * nI 5 = nI 2495 from rfl, ge_nI (by omega) (by omega), ble_f]; omega) ?_)
    refine rx_b 8 (ka_5 _ _ _) ?_
    rw [show (499 : Int32) = nI 499 from rfl, nI_add]
    refine rx_g (ka_6 _ _ _ _) (by rw [pin_nI (by omega) (by omega)]; rfl) ?_
    refine rx_g (ka_7 _ _ _ _) (by rw [pin_nI (by omega) (by omega)]; rfl) ?_
    refine rx_b 2 (ka_8 _ _) ?_
    rw [uA_uA, uA_self, ix_nI (by omega), ix_nI (by omega), shj_s, show nI j + 1 = nI (j + 1) from nI_add j 1]
    exact ih (j + 1) (by omega)
theorem kb_loop (z : Nat → Int32) (f : Nat → FA) (v : Nat) (hv : v < 6) (hz : z 3 = nI v) (res : Option PV × QH FA) (hend : RX (mP 230) 50 (LS2 (nI 499)) [] (LR z (uA f 2 (blj (f 2) (f 1) v 499))) res) : ∀ t j, j + t = 499 → RX (mP 230) 32 (LS2 (nI j)) [] (LR z (uA f 2 (blj (f 2) (f 1) v j))) res := by
  intro t
  induction t with
  | zero =>
    intro j hj
    obtain rfl : j = 499 := by omega
    exact rx_b 2 (kb_h _ _) (rx_t (kb_i _ _ _) (by rw [show (499 : Int32) = nI 499 from rfl, ge_nI (by omega) (by omega)]; decide) hend)
  | succ t ih =>
    intro j hj
    refine rx_b 2 (kb_h _ _) (rx_f (kb_i _ _ _) (by rw [show (499 : Int32) = nI 499 from rfl, ge_nI (by omega) (by omega), ble_f]; omega) ?_)
    refine rx_b 11 (kb_1 _ _ _) ?_
    rw [hz, show (499 : Int32) = nI 499 from rfl, mul_nI, nI_add]
    refine rx_g (kb_2 _ _ _ _) (by rw [pin_nI (by omega) (by omega)]; rfl) ?_
    refine rx_g (kb_3 _ _ _ _ _) (by rw [pin_nI (by omega) (by omega)]; rfl) ?_
    refine rx_b 2 (kb_4 _ _) ?_
    rw [uA_uA, uA_self, uA_ne (by decide), ix_nI (by omega), ix_nI (by omega), blj_s, show nI j + 1 = nI (j + 1) from nI_add j 1]
    exact ih (j + 1) (by omega)
theorem uA_id {f : Nat → FA} {k : Nat} {g : FA} (h : g = f k) : uA f k g = f := by
  funext i; unfold uA
  by_cases e : i = k
  · rw [if_pos e, h, e]
  · rw [if_neg e]
theorem kb_run (z : Nat → Int32) (f : Nat → FA) (x : Option PV) (v : Nat) (hv : v < 6) (hz : z 3 = nI v) : RX (mP 230) 30 [some (vR 0), x] [] (LR z f) (none, LR (uZ z 3 (nI (v + 1))) (uA f 2 (blj (f 2) (f 1) v 499))) := by
  refine rx_b 2 (ka_9 _ _) ?_
  have key := kb_loop z f v hv hz (none, LR (uZ z 3 (nI (v + 1))) (uA f 2 (blj (f 2) (f 1) v 499))) (by
    refine rx_b 6 (kb_5 _ _ _) ?_
    rw [hz, show nI v + 1 = nI (v + 1) from nI_add v 1]
    exact rx_ret (kb_r _ _)) 499 0 (by omega)
  rw [uA_id (blj_0 _ _ _)] at key
  exact key
theorem ka_run0 (z : Nat → Int32) (f : Nat → FA) (u : Nat) (hu : u < 6) (hz : z 3 = nI u) : RX (mP 230) 0 [some (vR 0), none] [] (LR z f) (none, LR (uZ z 3 (nI (u + 1))) (uA f 2 (blj (f 2) (f 1) u 499))) := by
  refine rx_b 3 (ka_0 _ _) (rx_t (ka_1 _ _ _ _) ?_ (kb_run z f none u hu hz))
  rw [hz, cmp_ne]
  refine decide_eq_true (fun e => ?_)
  have := congrArg ix e
  rw [ix_nI (by omega)] at this
  have e0 : ix 6 = 6 := by decide
  omega
theorem ka_run6 (z : Nat → Int32) (f : Nat → FA) (hz : z 3 = nI 6) : RX (mP 230) 0 [some (vR 0), none] [] (LR z f) (none, LR (uZ (uZ z 3 (nI 5)) 3 (nI 6)) (uA (uA f 2 (shj (f 2) 2495)) 2 (blj (shj (f 2) 2495) (f 1) 5 499))) := by
  refine rx_b 3 (ka_0 _ _) (rx_f (ka_1 _ _ _ _) (by rw [hz]; decide) ?_)
  refine rx_b 8 (ka_2 _ _) ?_
  rw [hz, show nI 6 - 1 = nI 5 from rfl]
  have e3 : uZ z 3 (nI 5) 3 = nI 5 := by unfold uZ; rw [if_pos rfl]
  have kr := kb_run (uZ z 3 (nI 5)) (uA f 2 (shj (f 2) 2495)) (some (vI (nI 2495))) 5 (by omega) e3
  rw [uA_self, uA_ne (by decide)] at kr
  have key := ka_loop (uZ z 3 (nI 5)) f e3 _ kr 2495 0 (by omega)
  rw [uA_id (shj_0 _)] at key
  exact key
theorem PRD_2 {ρ : List Int32} {f : Nat → Int32} : PRD ρ 2 f ↔ ∀ j, j < 6 → LK (fun i => f (499 * j + i)) := by unfold PRD; rw [if_neg (by decide), if_pos rfl]
theorem keepsAhead_ok {lam : Nat → Nat} {EX : PH → Prop} {l : Launch} {G : PG} (hi : LbI lam 43) : SUOK lam TRf EX l G kr_m1 := by
  intro cAs h hA hT hX
  obtain ⟨a, r1, rfl, ha, hA1⟩ := R2.uncons hA
  have ha : a = vR (lam 0) := ha
  subst ha
  cases r1 with
  | cons _ _ => cases hA1
  | nil =>
    obtain ⟨z, f, hR⟩ := LR_rep hT
    have hb := z_inb hT hR rfl (j := 3) (lo := 2147483648) (hi := 2147483654) rfl rfl
    obtain ⟨u, hu, hz⟩ := nI_of_inb (m := 6) (by decide) hb
    have hN : ∀ k c, nth TRf k = some c → k < 43 := by
      intro k c hk
      rw [nth_eq] at hk
      exact (List.getElem?_eq_some_iff.mp hk).1
    obtain ⟨s1, s2⟩ := LR_seg (k := 2) (c := 2994) (p := 2) (sg := ROWs) hT hR rfl (by decide) rfl
    obtain ⟨n1, n2⟩ := LR_seg (k := 1) (c := 499) (p := 1) (sg := NOWs) hT hR rfl (by decide) rfl
    have hB : BLK (f 2) := fun b hb => ⟨row_seg s1 b hb, PRD_2.mp s2 b hb⟩
    have n2 := PRD_1.mp n2
    by_cases h6 : u = 6
    · subst h6
      refine ⟨_, rx_met (k := 230) (As := [vR 0]) (mq230 (cu := [])).2.2 hi rfl (ka_run6 z f hz) hR, ?_⟩
      rintro r h1 ⟨rfl, hR1⟩
      refine ⟨rfl, rx_fin (E := [0, 2]) hN hT hR hR1 ?_ ?_ ?_⟩
      · intro k hk
        cases k with
        | zero => exact absurd List.mem_cons_self hk
        | succ k =>
          have hk2 : k + 1 ≠ 2 := fun e => hk (by rw [e]; exact List.mem_cons_of_mem _ List.mem_cons_self)
          rw [LR_get, LR_get, uA_ne hk2, uA_ne hk2]
      · intro k hk c hc
        rcases List.mem_cons.mp hk with rfl | hk
        · have hc := Option.some.inj hc
          subst hc
          refine ⟨_, LR_0 _ _, _, rfl, ?_⟩
          exact R2.setc (j := 3) (a := .inr (.inr (.inr (2147483648, 2147483654)))) (b := vI (nI 6)) ⟨nI 6, rfl, by rw [ky_nI (by omega)]; omega, by rw [ky_nI (by omega)]; omega⟩ (obj_R2 hT hR rfl) rfl
        · rcases List.mem_cons.mp hk with rfl | hk
          · have hc := Option.some.inj hc
            subst hc
            have hB2 := blk_bl (v := 5) (blk_sh hB) n1 n2
            refine ⟨_, rfl, 2994, blj (shj (f 2) 2495) (f 1) 5 499, rfl, by decide, ⟨_, val_c (by decide), by decide⟩, row_of hB2, PRD_2.mpr (fun j hj => (hB2 j hj).2)⟩
          · cases hk
      · intro k hk x x' hx hx'
        rcases List.mem_cons.mp hk with rfl | hk
        · rw [LR_0] at hx hx'
          have hx := Option.some.inj hx
          have hx' := Option.some.inj hx'
          subst hx
          subst hx'
          refine ⟨rfl, rfl, fun j hj => ?_⟩
          have h6 : ¬ 3 = j := fun e => hj (by subst e; decide)
          show ((objR z).map (sv lam))[j]? = (((objR z).map (sv lam)).set 3 (vI (nI 6)))[j]?
          rw [List.getElem?_set_ne h6]
        · rcases List.mem_cons.mp hk with rfl | hk
          · have hx := Option.some.inj hx
            have hx' := Option.some.inj hx'
            subst hx
            subst hx'
            exact ⟨rfl, rfl, fun q => absurd (by decide) q⟩
          · cases hk
    · have hu6 : u < 6 := by omega
      refine ⟨_, rx_met (k := 230) (As := [vR 0]) (mq230 (cu := [])).2.2 hi rfl (ka_run0 z f u hu6 hz) hR, ?_⟩
      rintro r h1 ⟨rfl, hR1⟩
      refine ⟨rfl, rx_fin (E := [0, 2]) hN hT hR hR1 ?_ ?_ ?_⟩
      · intro k hk
        cases k with
        | zero => exact absurd List.mem_cons_self hk
        | succ k =>
          have hk2 : k + 1 ≠ 2 := fun e => hk (by rw [e]; exact List.mem_cons_of_mem _ List.mem_cons_self)
          rw [LR_get, LR_get, uA_ne hk2]
      · intro k hk c hc
        rcases List.mem_cons.mp hk with rfl | hk
        · have hc := Option.some.inj hc
          subst hc
          refine ⟨_, LR_0 _ _, _, rfl, ?_⟩
          exact R2.setc (j := 3) (a := .inr (.inr (.inr (2147483648, 2147483654)))) (b := vI (nI (u + 1))) ⟨nI (u + 1), rfl, by rw [ky_nI (by omega)]; omega, by rw [ky_nI (by omega)]; omega⟩ (obj_R2 hT hR rfl) rfl
        · rcases List.mem_cons.mp hk with rfl | hk
          · have hc := Option.some.inj hc
            subst hc
            have hB2 := blk_bl (v := u) hB n1 n2
            refine ⟨_, rfl, 2994, blj (f 2) (f 1) u 499, rfl, by decide, ⟨_, val_c (by decide), by decide⟩, row_of hB2, PRD_2.mpr (fun j hj => (hB2 j hj).2)⟩
          · cases hk
      · intro k hk x x' hx hx'
        rcases List.mem_cons.mp hk with rfl | hk
        · rw [LR_0] at hx hx'
          have hx := Option.some.inj hx
          have hx' := Option.some.inj hx'
          subst hx
          subst hx'
          refine ⟨rfl, rfl, fun j hj => ?_⟩
          have h6 : ¬ 3 = j := fun e => hj (by subst e; decide)
          show ((objR z).map (sv lam))[j]? = (((objR z).map (sv lam)).set 3 (vI (nI (u + 1))))[j]?
          rw [List.getElem?_set_ne h6]
        · rcases List.mem_cons.mp hk with rfl | hk
          · have hx := Option.some.inj hx
            have hx' := Option.some.inj hx'
            subst hx
            subst hx'
            exact ⟨rfl, rfl, fun q => absurd (by decide) q⟩
          · cases hk
