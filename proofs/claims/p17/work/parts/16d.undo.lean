/-! undo -/
theorem seg_app {f : FA} : ∀ (a b : List (Nat × Nat × Nat)) (o : Nat), SegOK (a ++ b) (fun j => f (o + j)) → SegOK a (fun j => f (o + j)) ∧ SegOK b (fun j => f (o + sgT a + j)) := by
  intro a
  induction a with
  | nil => intro b o h; exact ⟨trivial, h⟩
  | cons s t ih =>
    intro b o h
    have hT : sgT (s :: t) = s.1 + sgT t := rfl
    obtain ⟨h1, h2⟩ := h
    have h2 : SegOK (t ++ b) (fun j => f (o + (s.1 + j))) := h2
    have e : (fun j => f (o + (s.1 + j))) = (fun j => f (o + s.1 + j)) := by funext j; rw [Nat.add_assoc]
    rw [e] at h2
    obtain ⟨h3, h4⟩ := ih b (o + s.1) h2
    rw [← e] at h3
    refine ⟨⟨h1, h3⟩, ?_⟩
    rw [hT, ← Nat.add_assoc]
    exact h4
def ROWs : List (Nat × Nat × Nat) := NOWs ++ (NOWs ++ (NOWs ++ (NOWs ++ (NOWs ++ NOWs))))
theorem now_T : sgT NOWs = 499 := by decide
theorem row_seg {f : FA} (h : SegOK ROWs f) : ∀ v, v < 6 → SegOK NOWs (fun j => f (499 * v + j)) := by
  have h0 : SegOK ROWs (fun j => f (0 + j)) := by simpa using h
  obtain ⟨a0, b0⟩ := seg_app _ _ _ h0
  obtain ⟨a1, b1⟩ := seg_app _ _ _ b0
  obtain ⟨a2, b2⟩ := seg_app _ _ _ b1
  obtain ⟨a3, b3⟩ := seg_app _ _ _ b2
  obtain ⟨a4, b4⟩ := seg_app _ _ _ b3
  rw [now_T] at a1 a2 a3 a4 b4
  intro v hv
  rcases (show v = 0 ∨ v = 1 ∨ v = 2 ∨ v = 3 ∨ v = 4 ∨ v = 5 by omega) with rfl | rfl | rfl | rfl | rfl | rfl
  · exact a0
  · exact a1
  · exact a2
  · exact a3
  · exact a4
  · exact b4
set_option maxRecDepth 100000 in
theorem un_0 (z : Nat → Int32) (f : Nat → FA) (F : Nat) : rnX (mP 283) (F + 5) 0 [some (vR 0), none] [] (LR z f) = rnX (mP 283) F 5 [some (vR 0), none] [vI (z 3)] (LR (uZ z 0 0) f) := rfl
set_option maxRecDepth 100000 in
theorem un_1 (x : Int32) (ls : List (Option PV)) (L : QH FA) (F : Nat) : rnX (mP 283) (F + 1) 5 ls [vI x] L = bif pcmp 1 x 0 then rnX (mP 283) F 8 ls [] L else rnX (mP 283) F 6 ls [] L := rfl
set_option maxRecDepth 100000 in
theorem un_2 (ls : List (Option PV)) (L : QH FA) (F : Nat) : rnX (mP 283) (F + 1) 6 ls [] L = rnX (mP 283) F 7 ls [vI 0] L := rfl
set_option maxRecDepth 100000 in
theorem un_3 (ls : List (Option PV)) (L : QH FA) (F : Nat) : rnX (mP 283) (F + 1) 7 ls [vI 0] L = some (some (vI 0), L) := rfl
set_option maxRecDepth 100000 in
theorem un_4 (z : Nat → Int32) (f : Nat → FA) (F : Nat) : rnX (mP 283) (F + 8) 8 [some (vR 0), none] [] (LR z f) = rnX (mP 283) F 16 (LS2 0) [] (LR (uZ z 3 (z 3 - 1)) f) := rfl
set_option maxRecDepth 100000 in
theorem un_h (x : Int32) (L : QH FA) (F : Nat) : rnX (mP 283) (F + 2) 16 (LS2 x) [] L = rnX (mP 283) F 18 (LS2 x) [vI 499, vI x] L := rfl
set_option maxRecDepth 100000 in
theorem un_i (x y : Int32) (L : QH FA) (F : Nat) : rnX (mP 283) (F + 1) 18 (LS2 x) [vI y, vI x] L = bif pcmp 3 x y then rnX (mP 283) F 34 (LS2 x) [] L else rnX (mP 283) F 19 (LS2 x) [] L := rfl
set_option maxRecDepth 100000 in
theorem un_5 (x : Int32) (z : Nat → Int32) (f : Nat → FA) (F : Nat) : rnX (mP 283) (F + 11) 19 (LS2 x) [] (LR z f) = rnX (mP 283) F 30 (LS2 x) [vI (499 * z 3 + x), vR 2, vI x, vR 1] (LR z f) := rfl
set_option maxRecDepth 100000 in
theorem un_6 (x y : Int32) (z : Nat → Int32) (f : Nat → FA) (F : Nat) : rnX (mP 283) (F + 1) 30 (LS2 x) [vI y, vR 2, vI x, vR 1] (LR z f) = bif (Nat.beq 0 0 && pin y 2994) then rnX (mP 283) F 31 (LS2 x) [vI (f 2 (ix y)), vI x, vR 1] (LR z f) else none := rfl
set_option maxRecDepth 100000 in
theorem un_7 (x y : Int32) (z : Nat → Int32) (f : Nat → FA) (F : Nat) : rnX (mP 283) (F + 1) 31 (LS2 x) [vI y, vI x, vR 1] (LR z f) = bif (Nat.beq 0 0 && pin x 499) then rnX (mP 283) F 32 (LS2 x) [] (LR z (uA f 1 (upd (f 1) (ix x) y))) else none := rfl
set_option maxRecDepth 100000 in
theorem un_8 (x : Int32) (L : QH FA) (F : Nat) : rnX (mP 283) (F + 2) 32 (LS2 x) [] L = rnX (mP 283) F 16 (LS2 (x + 1)) [] L := rfl
set_option maxRecDepth 100000 in
theorem un_9 (x : Int32) (L : QH FA) (F : Nat) : rnX (mP 283) (F + 1) 34 (LS2 x) [] L = rnX (mP 283) F 35 (LS2 x) [vI 1] L := rfl
set_option maxRecDepth 100000 in
theorem un_r (x : Int32) (L : QH FA) (F : Nat) : rnX (mP 283) (F + 1) 35 (LS2 x) [vI 1] L = some (some (vI 1), L) := rfl
theorem mul_nI (a b : Nat) : nI a * nI b = nI (a * b) := (Int32.ofNat_mul a b).symm
theorem un_loop (z : Nat → Int32) (f : Nat → FA) (v : Nat) (hv : v < 6) (hz : z 3 = nI v) (res : Option PV × QH FA) (hend : RX (mP 283) 34 (LS2 (nI 499)) [] (LR z (uA f 1 (cpj (fun i => f 2 (499 * v + i)) (f 1) 499))) res) : ∀ t j, j + t = 499 → RX (mP 283) 16 (LS2 (nI j)) [] (LR z (uA f 1 (cpj (fun i => f 2 (499 * v + i)) (f 1) j))) res := by
  intro t
  induction t with
  | zero =>
    intro j hj
    obtain rfl : j = 499 := by omega
    exact rx_b 2 (un_h _ _) (rx_t (un_i _ _ _) (by rw [show (499 : Int32) = nI 499 from rfl, ge_nI (by omega) (by omega)]; decide) hend)
  | succ t ih =>
    intro j hj
    refine rx_b 2 (un_h _ _) (rx_f (un_i _ _ _) (by rw [show (499 : Int32) = nI 499 from rfl, ge_nI (by omega) (by omega), ble_f]; omega) ?_)
    refine rx_b 11 (un_5 _ _ _) ?_
    rw [hz, show (499 : Int32) = nI 499 from rfl, mul_nI, nI_add]
    refine rx_g (un_6 _ _ _ _) (by rw [pin_nI (by omega) (by omega)]; rfl) ?_
    refine rx_g (un_7 _ _ _ _) (by rw [pin_nI (by omega) (by omega)]; rfl) ?_
    refine rx_b 2 (un_8 _ _) ?_
    rw [uA_uA, uA_self, uA_ne (by decide), ix_nI (by omega), ix_nI (by omega), show nI j + 1 = nI (j + 1) from nI_add j 1]
    have e := cpj_s (fun i => f 2 (499 * v + i)) (f 1) j
    rw [e]
    exact ih (j + 1) (by omega)
theorem nI_prd {u : Nat} (h : 0 < u) (h2 : u < 2147483648) : nI u - 1 = nI (u - 1) := by
  have e : nI u = nI (u - 1) + 1 := by
    rw [show (1 : Int32) = nI 1 from rfl, nI_add, show u - 1 + 1 = u by omega]
  rw [e]
  simp [Int32.add_sub_cancel]
theorem un_run0 (z : Nat → Int32) (f : Nat → FA) (hz : z 3 = 0) : RX (mP 283) 0 [some (vR 0), none] [] (LR z f) (some (vI 0), LR (uZ z 0 0) f) := by
  refine rx_b 5 (un_0 _ _) ?_
  rw [hz]
  exact rx_f (un_1 _ _ _) (by decide) (rx_b 1 (un_2 _ _) (rx_ret (un_3 _ _)))
theorem un_run1 (z : Nat → Int32) (f : Nat → FA) (u : Nat) (h0 : 0 < u) (h6 : u ≤ 6) (hz : z 3 = nI u) : RX (mP 283) 0 [some (vR 0), none] [] (LR z f) (some (vI 1), LR (uZ (uZ z 0 0) 3 (nI (u - 1))) (uA f 1 (cpj (fun i => f 2 (499 * (u - 1) + i)) (f 1) 499))) := by
  refine rx_b 5 (un_0 _ _) ?_
  refine rx_t (un_1 _ _ _) ?_ ?_
  · rw [hz, cmp_ne]
    refine decide_eq_true (fun e => ?_)
    have := congrArg ix e
    rw [ix_nI (by omega)] at this
    have e0 : ix 0 = 0 := by decide
    omega
  · refine rx_b 8 (un_4 _ _) ?_
    have e3 : (uZ z 0 0) 3 = nI u := hz
    rw [e3, nI_prd h0 (by omega)]
    have h0' : uA f 1 (cpj (fun i => f 2 (499 * (u - 1) + i)) (f 1) 0) = f := by
      funext i; unfold uA
      by_cases h : i = 1
      · rw [if_pos h, h, cpj_0]
      · rw [if_neg h]
    have key := un_loop (uZ (uZ z 0 0) 3 (nI (u - 1))) f (u - 1) (by omega) (by unfold uZ; rw [if_pos rfl]) _ (rx_b 1 (un_9 _ _) (rx_ret (un_r _ _))) 499 0 (by omega)
    rw [h0'] at key
    exact key
theorem nI_of_inb {x : Int32} {m : Nat} (hm : m < 2147483648) (h : inb 2147483648 (2147483648 + m) x) : ∃ u, u ≤ m ∧ x = nI u := by
  obtain ⟨h1, h2⟩ := h
  have hp := ky_pos h1
  exact ⟨ix x, by omega, pos_nI⟩
theorem z_inb {lam : Nat → Nat} {h : PH} {z : Nat → Int32} {f : Nat → FA} (hT : HOK lam [] TRf h) (hR : Rep rdF h lam 43 (LR z f) h) {fs : List AV} (hk : nth TRf 0 = some (.inr (12, fs))) {j lo hi : Nat} (hj : nth fs j = some (.inr (.inr (.inr (lo, hi))))) (ho : (objR z)[j]? = some (vI (z j))) : inb lo hi (z j) := by
  obtain ⟨b, h1, y, rfl, h2⟩ := (obj_R2 hT hR hk).get hj
  rw [List.getElem?_map, ho] at h1
  have h1 := Option.some.inj h1
  have h1 : vI (z j) = vI y := h1
  rw [Sum.inl.inj h1]; exact h2
theorem undo_ok {lam : Nat → Nat} {EX : PH → Prop} {l : Launch} {G : PG} (hi : LbI lam 43) : SUOK lam TRf EX l G kr_m23 := by
  intro cAs h hA hT hX
  obtain ⟨a, r1, rfl, ha, hA1⟩ := R2.uncons hA
  have ha : a = vR (lam 0) := ha
  subst ha
  cases r1 with
  | cons _ _ => cases hA1
  | nil =>
    obtain ⟨z, f, hR⟩ := LR_rep hT
    have hb := z_inb hT hR rfl (j := 3) (lo := 2147483648) (hi := 2147483654) rfl rfl
    obtain ⟨u, hu, hz⟩ := nI_of_inb (m := 6) (by decide) hb
    have hN : ∀ k c, nth TRf k = some c → k < 43 := by
      intro k c hk
      rw [nth_eq] at hk
      exact (List.getElem?_eq_some_iff.mp hk).1
    by_cases h0 : u = 0
    · subst h0
      refine ⟨_, rx_met (k := 283) (As := [vR 0]) (mq283 (cu := [])).2.2 hi rfl (un_run0 z f (by rw [hz]; rfl)) hR, ?_⟩
      rintro r h1 ⟨rfl, hR1⟩
      refine ⟨⟨0, rfl, by decide, by decide⟩, rx_fin (E := [0]) hN hT hR hR1 ?_ ?_ ?_⟩
      · intro k hk
        cases k with
        | zero => exact absurd List.mem_cons_self hk
        | succ k => rw [LR_get, LR_get]
      · intro k hk c hc
        rcases List.mem_cons.mp hk with rfl | hk
        · have hc := Option.some.inj hc
          subst hc
          refine ⟨_, LR_0 _ _, _, rfl, ?_⟩
          exact R2.setc (j := 0) (b := vI 0) ⟨0, rfl, inb_top 0⟩ (obj_R2 hT hR rfl) rfl
        · cases hk
      · intro k hk x x' hx hx'
        rcases List.mem_cons.mp hk with rfl | hk
        · rw [LR_0] at hx hx'
          have hx := Option.some.inj hx
          have hx' := Option.some.inj hx'
          subst hx
          subst hx'
          refine ⟨rfl, rfl, fun j hj => ?_⟩
          have h5 : ¬ 0 = j := fun e => hj (by subst e; decide)
          show ((objR z).map (sv lam))[j]? = (((objR z).map (sv lam)).set 0 (vI 0))[j]?
          rw [List.getElem?_set_ne h5]
        · cases hk
    · refine ⟨_, rx_met (k := 283) (As := [vR 0]) (mq283 (cu := [])).2.2 hi rfl (un_run1 z f u (by omega) hu hz) hR, ?_⟩
      rintro r h1 ⟨rfl, hR1⟩
      obtain ⟨s1, s2⟩ := LR_seg (k := 2) (c := 2994) (p := 2) (sg := ROWs) hT hR rfl (by decide) rfl
      have s2 : ∀ j, j < 6 → LK (fun i => f 2 (499 * j + i)) := by
        unfold PRD at s2
        rw [if_neg (by decide), if_pos rfl] at s2
        exact s2
      refine ⟨⟨1, rfl, by decide, by decide⟩, rx_fin (E := [0, 1]) hN hT hR hR1 ?_ ?_ ?_⟩
      · intro k hk
        cases k with
        | zero => exact absurd List.mem_cons_self hk
        | succ k =>
          rw [LR_get, LR_get, uA_ne (fun e => hk (by rw [e]; exact List.mem_cons_of_mem _ List.mem_cons_self))]
      · intro k hk c hc
        rcases List.mem_cons.mp hk with rfl | hk
        · have hc := Option.some.inj hc
          subst hc
          refine ⟨_, LR_0 _ _, _, rfl, ?_⟩
          have q := R2.setc (j := 0) (b := vI 0) ⟨0, rfl, inb_top 0⟩ (obj_R2 hT hR rfl) rfl
          exact R2.setc (j := 3) (a := .inr (.inr (.inr (2147483648, 2147483654)))) (b := vI (nI (u - 1))) ⟨nI (u - 1), rfl, by rw [ky_nI (by omega)]; omega, by rw [ky_nI (by omega)]; omega⟩ q rfl
        · rcases List.mem_cons.mp hk with rfl | hk
          · have hc := Option.some.inj hc
            subst hc
            refine ⟨_, rfl, 499, cpj (fun i => f 2 (499 * (u - 1) + i)) (f 1) 499, rfl, by decide, ⟨_, val_c (by decide), by decide⟩, seg_cpj (sg := NOWs) (by decide) (row_seg s1 (u - 1) (by omega)), PRD_1.mpr (lk_cpj (by decide) (s2 (u - 1) (by omega)))⟩
          · cases hk
      · intro k hk x x' hx hx'
        rcases List.mem_cons.mp hk with rfl | hk
        · rw [LR_0] at hx hx'
          have hx := Option.some.inj hx
          have hx' := Option.some.inj hx'
          subst hx
          subst hx'
          refine ⟨rfl, rfl, fun j hj => ?_⟩
          have h5 : ¬ 0 = j := fun e => hj (by subst e; decide)
          have h6 : ¬ 3 = j := fun e => hj (by subst e; decide)
          show ((objR z).map (sv lam))[j]? = ((((objR z).map (sv lam)).set 0 (vI 0)).set 3 (vI (nI (u - 1))))[j]?
          rw [List.getElem?_set_ne h6, List.getElem?_set_ne h5]
        · rcases List.mem_cons.mp hk with rfl | hk
          · have hx := Option.some.inj hx
            have hx' := Option.some.inj hx'
            subst hx
            subst hx'
            exact ⟨rfl, rfl, fun q => absurd (by decide) q⟩
          · cases hk
