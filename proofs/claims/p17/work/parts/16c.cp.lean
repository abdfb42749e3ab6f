def lenR : List Nat := [499, 2994, 499, 20, 20, 20, 750, 400, 133, 2, 48, 48, 48, 48, 1200, 1200, 40, 96, 160, 40, 10, 420, 144, 6, 6, 16, 153, 153, 15, 15, 8, 401, 8, 8, 256, 12, 8, 8, 256, 19683, 9, 2900]
def arR (o : Option Nat) (g : FA) : Option (QE FA) := match o with
  | some n => some (.inl (.inl (0, n, g)))
  | none => none
theorem LR_get (z : Nat → Int32) (f : Nat → FA) : ∀ k, (LR z f)[k + 1]? = arR (nth lenR k) (f (k + 1)) := fun k => match k with
  | 0 => rfl
  | 1 => rfl
  | 2 => rfl
  | 3 => rfl
  | 4 => rfl
  | 5 => rfl
  | 6 => rfl
  | 7 => rfl
  | 8 => rfl
  | 9 => rfl
  | 10 => rfl
  | 11 => rfl
  | 12 => rfl
  | 13 => rfl
  | 14 => rfl
  | 15 => rfl
  | 16 => rfl
  | 17 => rfl
  | 18 => rfl
  | 19 => rfl
  | 20 => rfl
  | 21 => rfl
  | 22 => rfl
  | 23 => rfl
  | 24 => rfl
  | 25 => rfl
  | 26 => rfl
  | 27 => rfl
  | 28 => rfl
  | 29 => rfl
  | 30 => rfl
  | 31 => rfl
  | 32 => rfl
  | 33 => rfl
  | 34 => rfl
  | 35 => rfl
  | 36 => rfl
  | 37 => rfl
  | 38 => rfl
  | 39 => rfl
  | 40 => rfl
  | 41 => rfl
  | _ + 42 => rfl
theorem LR_seg {lam : Nat → Nat} {h : PH} {z : Nat → Int32} {f : Nat → FA} {k c p : Nat} {sg : List (Nat × Nat × Nat)} (hT : HOK lam [] TRf h) (hR : Rep rdF h lam 43 (LR z f) h) (hk : nth TRf k = some (.inl (.inl (.inl (2147483648 + c), p, sg)))) (hc : c < 2147483648) (hL : (LR z f)[k]? = some (.inl (.inl (0, c, f k)))) : SegOK sg (f k) ∧ PRD [] p (f k) := by
  obtain ⟨g, h1, h2, h3⟩ := arr_of hc (hT k _ hk)
  have e := hR.2.1 k _ hL
  rw [h1] at e
  have e := Option.some.inj e
  injection e with e
  injection e with e
  injection e with e0 e
  injection e with e1 e2
  have e2 : g = f k := e2
  rw [← e2]; exact ⟨h2, h3⟩
theorem R2.setc {α β : Type} {r : α → β → Prop} {a : α} {b : β} (hab : r a b) : ∀ {l : List α} {m : List β} {j : Nat}, R2 r l m → nth l j = some a → R2 r l (m.set j b) := by
  intro l
  induction l with
  | nil => intro m j h hn; cases hn
  | cons x t ih =>
    intro m j h hn
    cases m with
    | nil => cases h
    | cons y u =>
      cases j with
      | zero => have hn : x = a := by injection hn
                subst hn; exact ⟨hab, h.2⟩
      | succ j => exact ⟨h.1, ih h.2 hn⟩
def objR (z : Nat → Int32) : List PV := [vI (z 0), vR 1, vR 2, vI (z 3), vR 3, vI (z 5), vI (z 6), vR 4, vR 5, vR 6, vR 7, vR 8, vI (z 12), vI (z 13), vI (z 14), vI (z 15), vI (z 16), vR 9, vR 10, vR 11, vR 12, vR 13, vR 14, vR 15, vR 16, vI (z 25), vI (z 26), vI (z 27), vR 17, vI (z 29), vI (z 30), vI (z 31), vI (z 32), vI (z 33), vI (z 34), vR 18, vI (z 36), vR 19, vI (z 38), vR 20, vR 21, vR 22, vR 23, vI (z 43), vR 24, vR 25, vI (z 46), vR 26, vR 27, vR 28, vI (z 50), vR 29, vI (z 52), vR 30, vI (z 54), vR 31, vR 32, vI (z 57), vR 33, vR 34, vR 35, vI (z 61), vR 36, vI (z 63), vR 37, vI (z 65), vR 38, vR 39, vR 40, vR 41, vI (z 70), vI (z 71), vI (z 72), vI (z 73), vI (z 74), vR 42]
theorem LR_0 (z : Nat → Int32) (f : Nat → FA) : (LR z f)[0]? = some (.inr (12, objR z)) := rfl
theorem obj_R2 {lam : Nat → Nat} {h : PH} {z : Nat → Int32} {f : Nat → FA} (hT : HOK lam [] TRf h) (hR : Rep rdF h lam 43 (LR z f) h) {fs : List AV} (hk : nth TRf 0 = some (.inr (12, fs))) : R2 (vRel lam []) fs ((objR z).map (sv lam)) := by
  obtain ⟨x, h1, xs, rfl, h2⟩ := hT 0 _ hk
  have e := hR.2.1 0 _ (LR_0 z f)
  rw [h1] at e
  have e := Option.some.inj e
  injection e with e
  injection e with e1 e2
  have e2 : xs = (objR z).map (sv lam) := e2
  rw [← e2]; exact h2
theorem seg_cpj {a b : FA} {sg : List (Nat × Nat × Nat)} {n : Nat} (hn : sgT sg ≤ n) (h : SegOK sg a) : SegOK sg (cpj a b n) := by
  have := sgT_ok (f := a) (g := cpj a b n) sg 0 (by simpa using h) (fun j hj => by unfold cpj; rw [if_pos (by omega)])
  simpa using this
theorem lk_cpj {a b : FA} {n : Nat} (hn : 355 ≤ n) (h : LK a) : LK (cpj a b n) := by
  intro c hc h0
  unfold cpj at h0 ⊢
  rw [if_pos (by omega)] at h0
  rw [if_pos (by omega)]
  exact h c hc h0
theorem PRD_1 {ρ : List Int32} {f : Nat → Int32} : PRD ρ 1 f ↔ LK f := by unfold PRD; rw [if_pos rfl]
def NOWs : List (Nat × Nat × Nat) := [(3, 0, 4294967295), (1, 2147483648, 2147483798), (63, 0, 4294967295), (144, 2147483648, 2147483668), (288, 0, 4294967295)]
set_option maxRecDepth 100000 in
theorem et_h (x : Int32) (z : Nat → Int32) (f : Nat → FA) (F : Nat) : rnX (mP 207) (F + 2) 2 (LS2 x) [] (LR z f) = rnX (mP 207) F 4 (LS2 x) [vI 499, vI x] (LR z f) := rfl
set_option maxRecDepth 100000 in
theorem et_i (x y : Int32) (L : QH FA) (F : Nat) : rnX (mP 207) (F + 1) 4 (LS2 x) [vI y, vI x] L = bif pcmp 3 x y then rnX (mP 207) F 15 (LS2 x) [] L else rnX (mP 207) F 5 (LS2 x) [] L := rfl
set_option maxRecDepth 100000 in
theorem et_1 (x : Int32) (z : Nat → Int32) (f : Nat → FA) (F : Nat) : rnX (mP 207) (F + 6) 5 (LS2 x) [] (LR z f) = rnX (mP 207) F 11 (LS2 x) [vI x, vR 3, vI x, vR 1] (LR z f) := rfl
set_option maxRecDepth 100000 in
theorem et_2 (x : Int32) (z : Nat → Int32) (f : Nat → FA) (F : Nat) : rnX (mP 207) (F + 1) 11 (LS2 x) [vI x, vR 3, vI x, vR 1] (LR z f) = bif (Nat.beq 0 0 && pin x 499) then rnX (mP 207) F 12 (LS2 x) [vI (f 3 (ix x)), vI x, vR 1] (LR z f) else none := rfl
set_option maxRecDepth 100000 in
theorem et_3 (x y : Int32) (z : Nat → Int32) (f : Nat → FA) (F : Nat) : rnX (mP 207) (F + 1) 12 (LS2 x) [vI y, vI x, vR 1] (LR z f) = bif (Nat.beq 0 0 && pin x 499) then rnX (mP 207) F 13 (LS2 x) [] (LR z (uA f 1 (upd (f 1) (ix x) y))) else none := rfl
set_option maxRecDepth 100000 in
theorem et_4 (x : Int32) (L : QH FA) (F : Nat) : rnX (mP 207) (F + 2) 13 (LS2 x) [] L = rnX (mP 207) F 2 (LS2 (x + 1)) [] L := rfl
set_option maxRecDepth 100000 in
theorem et_5 (x : Int32) (z : Nat → Int32) (f : Nat → FA) (F : Nat) : rnX (mP 207) (F + 3) 15 (LS2 x) [] (LR z f) = rnX (mP 207) F 18 (LS2 x) [] (LR (uZ z 5 0) f) := rfl
theorem et_loop (z : Nat → Int32) (f : Nat → FA) (res : Option PV × QH FA) (hend : RX (mP 207) 15 (LS2 (nI 499)) [] (LR z (uA f 1 (cpj (f 3) (f 1) 499))) res) : ∀ t j, j + t = 499 → RX (mP 207) 2 (LS2 (nI j)) [] (LR z (uA f 1 (cpj (f 3) (f 1) j))) res := by
  intro t
  induction t with
  | zero =>
    intro j hj
    obtain rfl : j = 499 := by omega
    exact rx_b 2 (et_h _ _ _) (rx_t (et_i _ _ _) (by rw [show (499 : Int32) = nI 499 from rfl, ge_nI (by omega) (by omega)]; decide) hend)
  | succ t ih =>
    intro j hj
    refine rx_b 2 (et_h _ _ _) (rx_f (et_i _ _ _) (by rw [show (499 : Int32) = nI 499 from rfl, ge_nI (by omega) (by omega), ble_f]; omega) ?_)
    refine rx_b 6 (et_1 _ _ _) (rx_g (et_2 _ _ _) (by rw [pin_nI (by omega) (by omega)]; rfl) ?_)
    refine rx_g (et_3 _ _ _ _) (by rw [pin_nI (by omega) (by omega)]; rfl) ?_
    refine rx_b 2 (et_4 _ _) ?_
    rw [uA_uA, uA_self, uA_ne (by decide), ix_nI (by omega), cpj_s, show nI j + 1 = nI (j + 1) from nI_add j 1]
    exact ih (j + 1) (by omega)
set_option maxRecDepth 100000 in
theorem et_0 (z : Nat → Int32) (f : Nat → FA) (F : Nat) : rnX (mP 207) (F + 2) 0 [some (vR 0), none] [] (LR z f) = rnX (mP 207) F 2 (LS2 0) [] (LR z f) := rfl
set_option maxRecDepth 100000 in
theorem et_9 (x : Int32) (L : QH FA) (F : Nat) : rnX (mP 207) (F + 1) 18 (LS2 x) [] L = some (none, L) := rfl
theorem et_run (z : Nat → Int32) (f : Nat → FA) : RX (mP 207) 0 [some (vR 0), none] [] (LR z f) (none, LR (uZ z 5 0) (uA f 1 (cpj (f 3) (f 1) 499))) := by
  refine rx_b 2 (et_0 _ _) ?_
  have h0 : uA f 1 (cpj (f 3) (f 1) 0) = f := by
    funext i; unfold uA
    by_cases h : i = 1
    · rw [if_pos h, h, cpj_0]
    · rw [if_neg h]
  have key := et_loop z f (none, LR (uZ z 5 0) (uA f 1 (cpj (f 3) (f 1) 499))) (rx_b 3 (et_5 _ _ _) (rx_ret (et_9 _ _))) 499 0 (by omega)
  rw [h0] at key
  exact key
theorem thinks_ok {lam : Nat → Nat} {EX : PH → Prop} {l : Launch} {G : PG} (hi : LbI lam 43) : SUOK lam TRf EX l G kr_m21 := by
  intro cAs h hA hT hX
  obtain ⟨a, r1, rfl, ha, hA1⟩ := R2.uncons hA
  have ha : a = vR (lam 0) := ha
  subst ha
  cases r1 with
  | cons _ _ => cases hA1
  | nil =>
    obtain ⟨z, f, hR⟩ := LR_rep hT
    refine ⟨_, rx_met (k := 281) (As := [vR 0]) (mq281 (cu := [])).2.2 hi rfl (th_run z f) hR, ?_⟩
    rintro r h1 ⟨rfl, hR1⟩
    obtain ⟨s1, s2⟩ := LR_seg (k := 1) (c := 499) (p := 1) (sg := NOWs) hT hR rfl (by decide) rfl
    refine ⟨rfl, rx_fin (E := [0, 3]) (T := TRf) ?_ hT hR hR1 ?_ ?_ ?_⟩
    · intro k c hk
      rw [nth_eq] at hk
      exact (List.getElem?_eq_some_iff.mp hk).1
    · intro k hk
      cases k with
      | zero => exact absurd List.mem_cons_self hk
      | succ k =>
        rw [LR_get, LR_get, uA_ne (fun e => hk (by rw [e]; exact List.mem_cons_of_mem _ List.mem_cons_self))]
    · intro k hk c hc
      rcases List.mem_cons.mp hk with rfl | hk
      · have hc := Option.some.inj hc
        subst hc
        refine ⟨_, LR_0 _ _, _, rfl, ?_⟩
        exact R2.setc (j := 5) (a := .inr (.inr (.inr (2147483648, 2147483649)))) (b := vI 1) ⟨1, rfl, by decide, by decide⟩ (obj_R2 hT hR rfl) rfl
      · rcases List.mem_cons.mp hk with rfl | hk
        · have hc := Option.some.inj hc
          subst hc
          refine ⟨_, rfl, 499, cpj (f 1) (f 3) 499, rfl, by decide, ⟨_, val_c (by decide), by decide⟩, seg_cpj (sg := NOWs) (by decide) s1, PRD_1.mpr (lk_cpj (by decide) (PRD_1.mp s2))⟩
        · cases hk
    · intro k hk x x' hx hx'
      rcases List.mem_cons.mp hk with rfl | hk
      · rw [LR_0] at hx hx'
        have hx := Option.some.inj hx
        have hx' := Option.some.inj hx'
        subst hx
        subst hx'
        refine ⟨rfl, rfl, fun j hj => ?_⟩
        have h5 : ¬ 5 = j := fun e => hj (by subst e; decide)
        show ((objR z).map (sv lam))[j]? = (((objR z).map (sv lam)).set 5 (vI 1))[j]?
        rw [List.getElem?_set_ne h5]
      · rcases List.mem_cons.mp hk with rfl | hk
        · have hx := Option.some.inj hx
          have hx' := Option.some.inj hx'
          subst hx
          subst hx'
          exact ⟨rfl, rfl, fun q => absurd (by decide) q⟩
        · cases hk
theorem endsThought_ok {lam : Nat → Nat} {EX : PH → Prop} {l : Launch} {G : PG} (hi : LbI lam 43) : SUOK lam TRf EX l G kr_m22 := by
  intro cAs h hA hT hX
  obtain ⟨a, r1, rfl, ha, hA1⟩ := R2.uncons hA
  have ha : a = vR (lam 0) := ha
  subst ha
  cases r1 with
  | cons _ _ => cases hA1
  | nil =>
    obtain ⟨z, f, hR⟩ := LR_rep hT
    refine ⟨_, rx_met (k := 207) (As := [vR 0]) (mq207 (cu := [])).2.2 hi rfl (et_run z f) hR, ?_⟩
    rintro r h1 ⟨rfl, hR1⟩
    obtain ⟨s1, s2⟩ := LR_seg (k := 3) (c := 499) (p := 1) (sg := NOWs) hT hR rfl (by decide) rfl
    refine ⟨rfl, rx_fin (E := [0, 1]) (T := TRf) ?_ hT hR hR1 ?_ ?_ ?_⟩
    · intro k c hk
      rw [nth_eq] at hk
      exact (List.getElem?_eq_some_iff.mp hk).1
    · intro k hk
      cases k with
      | zero => exact absurd List.mem_cons_self hk
      | succ k =>
        rw [LR_get, LR_get, uA_ne (fun e => hk (by rw [e]; exact List.mem_cons_of_mem _ List.mem_cons_self))]
    · intro k hk c hc
      rcases List.mem_cons.mp hk with rfl | hk
      · have hc := Option.some.inj hc
        subst hc
        refine ⟨_, LR_0 _ _, _, rfl, ?_⟩
        exact R2.setc (j := 5) (a := .inr (.inr (.inr (2147483648, 2147483649)))) (b := vI 0) ⟨0, rfl, by decide, by decide⟩ (obj_R2 hT hR rfl) rfl
      · rcases List.mem_cons.mp hk with rfl | hk
        · have hc := Option.some.inj hc
          subst hc
          refine ⟨_, rfl, 499, cpj (f 3) (f 1) 499, rfl, by decide, ⟨_, val_c (by decide), by decide⟩, seg_cpj (sg := NOWs) (by decide) s1, PRD_1.mpr (lk_cpj (by decide) (PRD_1.mp s2))⟩
        · cases hk
    · intro k hk x x' hx hx'
      rcases List.mem_cons.mp hk with rfl | hk
      · rw [LR_0] at hx hx'
        have hx := Option.some.inj hx
        have hx' := Option.some.inj hx'
        subst hx
        subst hx'
        refine ⟨rfl, rfl, fun j hj => ?_⟩
        have h5 : ¬ 5 = j := fun e => hj (by subst e; decide)
        show ((objR z).map (sv lam))[j]? = (((objR z).map (sv lam)).set 5 (vI 0))[j]?
        rw [List.getElem?_set_ne h5]
      · rcases List.mem_cons.mp hk with rfl | hk
        · have hx := Option.some.inj hx
          have hx' := Option.some.inj hx'
          subst hx
          subst hx'
          exact ⟨rfl, rfl, fun q => absurd (by decide) q⟩
        · cases hk
