/-! findsParts: the loops -/
def LSq (b : Int32) (c l : Option PV) : List (Option PV) := [some (vR 0), some (vI b), c, l]
set_option maxRecDepth 100000 in
theorem fl_0 (q1 q2 : Option PV) (L : QH FA) (F : Nat) : rnY (mP 63) (F + 2) 0 [some (vR 0), none, q1, q2] [] L = rnY (mP 63) F 2 (LSq 0 q1 q2) [] L := rfl
set_option maxRecDepth 100000 in
theorem fl_1 (c : Int32) (q1 q2 : Option PV) (L : QH FA) (F : Nat) : rnY (mP 63) (F + 2) 2 (LSq c q1 q2) [] L = rnY (mP 63) F 4 (LSq c q1 q2) [vI 144, vI c] L := rfl
set_option maxRecDepth 100000 in
theorem fl_2 (x y : Int32) (ls : List (Option PV)) (L : QH FA) (F : Nat) : rnY (mP 63) (F + 1) 4 ls [vI y, vI x] L = bif pcmp 3 x y then rnY (mP 63) F 12 ls [] L else rnY (mP 63) F 5 ls [] L := rfl
set_option maxRecDepth 100000 in
theorem fl_3 (c : Int32) (q1 q2 : Option PV) (z : Nat → Int32) (f : Nat → FA) (F : Nat) : rnY (mP 63) (F + 4) 5 (LSq c q1 q2) [] (LR z f) = rnY (mP 63) F 9 (LSq c q1 q2) [vI c, vI c, vR 23] (LR z f) := rfl
set_option maxRecDepth 100000 in
theorem fl_4 (x y : Int32) (ls : List (Option PV)) (z : Nat → Int32) (f : Nat → FA) (F : Nat) : rnY (mP 63) (F + 1) 9 ls [vI y, vI x, vR 23] (LR z f) = bif (Nat.beq 0 0 && pin x 144) then rnY (mP 63) F 10 ls [] (LR z (uA f 23 (upd (f 23) (ix x) y))) else none := rfl
set_option maxRecDepth 100000 in
theorem fl_5 (c : Int32) (q1 q2 : Option PV) (L : QH FA) (F : Nat) : rnY (mP 63) (F + 2) 10 (LSq c q1 q2) [] L = rnY (mP 63) F 2 (LSq (c + 1) q1 q2) [] L := rfl
set_option maxRecDepth 100000 in
theorem fl_6 (c : Int32) (q1 q2 : Option PV) (L : QH FA) (F : Nat) : rnY (mP 63) (F + 2) 12 (LSq c q1 q2) [] L = rnY (mP 63) F 14 (LSq 1 q1 q2) [] L := rfl
set_option maxRecDepth 100000 in
theorem fl_7 (b : Int32) (q1 q2 : Option PV) (L : QH FA) (F : Nat) : rnY (mP 63) (F + 1) 14 (LSq b q1 q2) [] L = rnY (mP 63) F 15 (LSq b q1 q2) [vI b] L := rfl
set_option maxRecDepth 100000 in
theorem fl_8 (x : Int32) (ls : List (Option PV)) (L : QH FA) (F : Nat) : rnY (mP 63) (F + 1) 15 ls [vI x] L = bif pcmp 0 x 0 then rnY (mP 63) F 136 ls [] L else rnY (mP 63) F 16 ls [] L := rfl
set_option maxRecDepth 100000 in
theorem fl_9 (ls : List (Option PV)) (L : QH FA) (F : Nat) : rnY (mP 63) (F + 1) 136 ls [] L = some (none, L) := rfl
set_option maxRecDepth 100000 in
theorem fl_a (b : Int32) (q1 q2 : Option PV) (L : QH FA) (F : Nat) : rnY (mP 63) (F + 4) 16 (LSq b q1 q2) [] L = rnY (mP 63) F 20 (LSq 0 (some (vI 0)) q2) [] L := rfl
set_option maxRecDepth 100000 in
theorem fl_b (b c : Int32) (q2 : Option PV) (L : QH FA) (F : Nat) : rnY (mP 63) (F + 2) 20 (LSq b (some (vI c)) q2) [] L = rnY (mP 63) F 22 (LSq b (some (vI c)) q2) [vI 144, vI c] L := rfl
set_option maxRecDepth 100000 in
theorem fl_c (x y : Int32) (ls : List (Option PV)) (L : QH FA) (F : Nat) : rnY (mP 63) (F + 1) 22 ls [vI y, vI x] L = bif pcmp 3 x y then rnY (mP 63) F 135 ls [] L else rnY (mP 63) F 23 ls [] L := rfl
set_option maxRecDepth 100000 in
theorem fl_d (b c : Int32) (q2 : Option PV) (z : Nat → Int32) (f : Nat → FA) (F : Nat) : rnY (mP 63) (F + 3) 23 (LSq b (some (vI c)) q2) [] (LR z f) = rnY (mP 63) F 26 (LSq b (some (vI c)) q2) [vI c, vR 23] (LR z f) := rfl
set_option maxRecDepth 100000 in
theorem fl_e (x : Int32) (ls : List (Option PV)) (z : Nat → Int32) (f : Nat → FA) (F : Nat) : rnY (mP 63) (F + 1) 26 ls [vI x, vR 23] (LR z f) = bif (Nat.beq 0 0 && pin x 144) then rnY (mP 63) F 27 ls [vI (f 23 (ix x))] (LR z f) else none := rfl
set_option maxRecDepth 100000 in
theorem fl_f (b c x : Int32) (q2 : Option PV) (L : QH FA) (F : Nat) : rnY (mP 63) (F + 1) 27 (LSq b (some (vI c)) q2) [vI x] L = rnY (mP 63) F 28 (LSp b c x) [] L := rfl
set_option maxRecDepth 100000 in
theorem fl_g (b c l : Int32) (z : Nat → Int32) (f : Nat → FA) (F : Nat) : rnY (mP 63) (F + 4) 119 (LSp b c l) [] (LR z f) = rnY (mP 63) F 123 (LSp b c l) [vI c, vR 23, vI l] (LR z f) := rfl
set_option maxRecDepth 100000 in
theorem fl_h (x l : Int32) (ls : List (Option PV)) (z : Nat → Int32) (f : Nat → FA) (F : Nat) : rnY (mP 63) (F + 1) 123 ls [vI x, vR 23, vI l] (LR z f) = bif (Nat.beq 0 0 && pin x 144) then rnY (mP 63) F 124 ls [vI (f 23 (ix x)), vI l] (LR z f) else none := rfl
set_option maxRecDepth 100000 in
theorem fl_i (x y : Int32) (ls : List (Option PV)) (L : QH FA) (F : Nat) : rnY (mP 63) (F + 1) 124 ls [vI y, vI x] L = bif pcmp 1 x y then rnY (mP 63) F 126 ls [] L else rnY (mP 63) F 125 ls [] L := rfl
set_option maxRecDepth 100000 in
theorem fl_j (ls : List (Option PV)) (L : QH FA) (F : Nat) : rnY (mP 63) (F + 1) 125 ls [] L = rnY (mP 63) F 133 ls [] L := rfl
set_option maxRecDepth 100000 in
theorem fl_k (b c l : Int32) (z : Nat → Int32) (f : Nat → FA) (F : Nat) : rnY (mP 63) (F + 4) 126 (LSp b c l) [] (LR z f) = rnY (mP 63) F 130 (LSp b c l) [vI l, vI c, vR 23] (LR z f) := rfl
set_option maxRecDepth 100000 in
theorem fl_l (x y : Int32) (ls : List (Option PV)) (z : Nat → Int32) (f : Nat → FA) (F : Nat) : rnY (mP 63) (F + 1) 130 ls [vI y, vI x, vR 23] (LR z f) = bif (Nat.beq 0 0 && pin x 144) then rnY (mP 63) F 131 ls [] (LR z (uA f 23 (upd (f 23) (ix x) y))) else none := rfl
set_option maxRecDepth 100000 in
theorem fl_m (b c l : Int32) (L : QH FA) (F : Nat) : rnY (mP 63) (F + 2) 131 (LSp b c l) [] L = rnY (mP 63) F 133 (LSp 1 c l) [] L := rfl
set_option maxRecDepth 100000 in
theorem fl_n (b c l : Int32) (L : QH FA) (F : Nat) : rnY (mP 63) (F + 2) 133 (LSp b c l) [] L = rnY (mP 63) F 20 (LSp b (c + 1) l) [] L := rfl
set_option maxRecDepth 100000 in
theorem fl_o (ls : List (Option PV)) (L : QH FA) (F : Nat) : rnY (mP 63) (F + 1) 135 ls [] L = rnY (mP 63) F 14 ls [] L := rfl
def uG (G : Nat → Nat) (c x : Nat) : Nat → Nat := fun j => if j = c then x else G j
def sm (G : Nat → Nat) : Nat → Nat
  | 0 => 0
  | n + 1 => sm G n + G n
theorem sm_lo (G : Nat → Nat) (c x : Nat) : ∀ n, n ≤ c → sm (uG G c x) n = sm G n := by
  intro n
  induction n with
  | zero => intro _; rfl
  | succ n ih =>
    intro h
    show sm (uG G c x) n + uG G c x n = sm G n + G n
    rw [ih (by omega)]
    unfold uG
    rw [if_neg (by omega)]
theorem sm_up (G : Nat → Nat) (c x : Nat) : ∀ n, c < n → sm (uG G c x) n + G c = sm G n + x := by
  intro n
  induction n with
  | zero => intro h; omega
  | succ n ih =>
    intro h
    show sm (uG G c x) n + uG G c x n + G c = sm G n + G n + x
    by_cases e : c = n
    · subst e
      rw [sm_lo G c x c (Nat.le_refl _)]
      unfold uG
      rw [if_pos rfl]
      omega
    · have := ih (by omega)
      unfold uG at this ⊢
      rw [if_neg (fun q => e q.symm)]
      omega
theorem MK_up {G : Nat → Nat} {r : FA} {c x : Nat} (h : c < 144) : upd (MK G r) c (nI x) = MK (uG G c x) r := by
  funext j
  by_cases e : j = c
  · subst e
    rw [pk_us]
    unfold MK uG
    rw [if_pos h, if_pos rfl]
  · rw [pk_un e]
    unfold MK uG
    rw [if_neg e]
theorem fp_in (z : Nat → Int32) (f : Nat → FA) (r : FA) : ∀ t c, c + t = 144 → ∀ (G : Nat → Nat) (b : Int32) (q2 : Option PV), (∀ j, G j < 144) → ∃ (G' : Nat → Nat) (b' : Int32) (q1' q2' : Option PV), (∀ j, G' j < 144) ∧ ((b' = b ∧ sm G' 144 ≤ sm G 144) ∨ (b' = 1 ∧ sm G' 144 < sm G 144)) ∧ ∀ res, RY (mP 63) 135 (LSq b' q1' q2') [] (LR z (uA f 23 (MK G' r))) res → RY (mP 63) 20 (LSq b (some (vI (nI c))) q2) [] (LR z (uA f 23 (MK G r))) res := by
  intro t
  induction t with
  | zero =>
    intro c hc G b q2 hG
    obtain rfl : c = 144 := by omega
    exact ⟨G, b, some (vI (nI 144)), q2, hG, Or.inl ⟨rfl, Nat.le_refl _⟩, fun res h => ry_b 2 (fl_b _ _ _ _) (ry_t (fl_c _ _ _ _) (by rw [show (144 : Int32) = nI 144 from rfl, ge_nI (by omega) (by omega)]; decide) h)⟩
  | succ t ih =>
    intro c hc G b q2 hG
    have hf : (uA f 23 (MK G r)) 23 = MK G r := uA_self _ _ _
    obtain ⟨l1, k1, s1⟩ := fb1 z (uA f 23 (MK G r)) G r b c (G c) (by omega) (hG c) hG hf
    have hg := hG c
    obtain ⟨l2, k2, s2⟩ := fb2 z (uA f 23 (MK G r)) G r b c l1 (by omega) (by omega) hG hf
    obtain ⟨l3, k3, s3⟩ := fb3 z (uA f 23 (MK G r)) G r b c l2 (by omega) (by omega) hG hf
    obtain ⟨l4, k4, s4⟩ := fb4 z (uA f 23 (MK G r)) G r b c l3 (by omega) (by omega) hG hf
    have e1 : nI c + 1 = nI (c + 1) := nI_add c 1
    have pre : ∀ res, RY (mP 63) 124 (LSp b (nI c) (nI l4)) [vI (nI (G c)), vI (nI l4)] (LR z (uA f 23 (MK G r))) res → RY (mP 63) 20 (LSq b (some (vI (nI c))) q2) [] (LR z (uA f 23 (MK G r))) res := by
      intro res h
      refine ry_b 2 (fl_b _ _ _ _) (ry_f (fl_c _ _ _ _) (by rw [show (144 : Int32) = nI 144 from rfl, ge_nI (by omega) (by omega), ble_f]; omega) ?_)
      refine ry_b 3 (fl_d _ _ _ _ _) (ry_g (fl_e _ _ _ _) (by rw [pin_nI (by omega) (by omega)]; rfl) ?_)
      rw [ix_nI (by omega), hf, MK_at (by omega)]
      refine ry_b 1 (fl_f _ _ _ _ _) (s1 res (s2 res (s3 res (s4 res ?_))))
      refine ry_b 4 (fl_g _ _ _ _ _) (ry_g (fl_h _ _ _ _ _) (by rw [pin_nI (by omega) (by omega)]; rfl) ?_)
      rw [ix_nI (by omega), hf, MK_at (by omega)]
      exact h
    by_cases he : l4 = G c
    · obtain ⟨G', b', q1', q2', i1, i2, i3⟩ := ih (c + 1) (by omega) G b (some (vI (nI l4))) hG
      refine ⟨G', b', q1', q2', i1, i2, fun res h => pre res ?_⟩
      refine ry_f (fl_i _ _ _ _) (by rw [cmp_ne, he]; exact decide_eq_false (fun q => q rfl)) (ry_b 1 (fl_j _ _) (ry_b 2 (fl_n _ _ _ _) ?_))
      rw [e1]
      exact i3 res h
    · have hu := sm_up G c l4 144 (by omega)
      have hG2 : ∀ j, uG G c l4 j < 144 := by
        intro j
        unfold uG
        by_cases e : j = c
        · rw [if_pos e]; omega
        · rw [if_neg e]; exact hG j
      obtain ⟨G', b', q1', q2', i1, i2, i3⟩ := ih (c + 1) (by omega) (uG G c l4) 1 (some (vI (nI l4))) hG2
      refine ⟨G', b', q1', q2', i1, Or.inr ?_, fun res h => pre res ?_⟩
      · rcases i2 with ⟨e, i2⟩ | ⟨e, i2⟩
        · exact ⟨e, by omega⟩
        · exact ⟨e, by omega⟩
      · refine ry_t (fl_i _ _ _ _) (by rw [cmp_ne]; refine decide_eq_true (fun q => he ?_); have := congrArg ix q; rw [ix_nI (by omega), ix_nI (by omega)] at this; exact this) ?_
        refine ry_b 4 (fl_k _ _ _ _ _) (ry_g (fl_l _ _ _ _ _) (by rw [pin_nI (by omega) (by omega)]; rfl) ?_)
        rw [uA_uA, hf, ix_nI (by omega), MK_up (by omega)]
        refine ry_b 2 (fl_m _ _ _ _) (ry_b 2 (fl_n _ _ _ _) ?_)
        rw [e1]
        exact i3 res h
theorem fp_out (z : Nat → Int32) (f : Nat → FA) (r : FA) : ∀ n (G : Nat → Nat), sm G 144 < n → (∀ j, G j < 144) → ∀ q1 q2, ∃ G' : Nat → Nat, RY (mP 63) 14 (LSq 1 q1 q2) [] (LR z (uA f 23 (MK G r))) (none, LR z (uA f 23 (MK G' r))) := by
  intro n
  induction n with
  | zero => intro G h; omega
  | succ n ih =>
    intro G hn hG q1 q2
    obtain ⟨G', b', q1', q2', i1, i2, i3⟩ := fp_in z f r 144 0 (by omega) G 0 q2 hG
    have pre : ∀ res, RY (mP 63) 14 (LSq b' q1' q2') [] (LR z (uA f 23 (MK G' r))) res → RY (mP 63) 14 (LSq 1 q1 q2) [] (LR z (uA f 23 (MK G r))) res := fun res h => ry_b 1 (fl_7 _ _ _ _) (ry_f (fl_8 _ _ _) (by decide) (ry_b 4 (fl_a _ _ _ _) (i3 res (ry_b 1 (fl_o _ _) h))))
    rcases i2 with ⟨rfl, i2⟩ | ⟨rfl, i2⟩
    · exact ⟨G', pre _ (ry_b 1 (fl_7 _ _ _ _) (ry_t (fl_8 _ _ _) (by decide) (ry_ret (fl_9 _ _))))⟩
    · obtain ⟨G2, h2⟩ := ih G' (by omega) i1 q1' q2'
      exact ⟨G2, pre _ h2⟩
def inJ (r : FA) (c : Nat) : FA := fun j => if j < c then nI j else r j
theorem inJ_s (r : FA) (c : Nat) : upd (inJ r c) c (nI c) = inJ r (c + 1) := by
  funext i
  by_cases e : i = c
  · subst e; rw [pk_us]; unfold inJ; rw [if_pos (by omega)]
  · rw [pk_un e]; unfold inJ
    by_cases h : i < c
    · rw [if_pos h, if_pos (by omega)]
    · rw [if_neg h, if_neg (by omega)]
theorem fp_ini (z : Nat → Int32) (f : Nat → FA) (r : FA) (q1 q2 : Option PV) (res : Option PV × QH FA) (hend : RY (mP 63) 12 (LSq (nI 144) q1 q2) [] (LR z (uA f 23 (inJ r 144))) res) : ∀ t c, c + t = 144 → RY (mP 63) 2 (LSq (nI c) q1 q2) [] (LR z (uA f 23 (inJ r c))) res := by
  intro t
  induction t with
  | zero =>
    intro c hc
    obtain rfl : c = 144 := by omega
    exact ry_b 2 (fl_1 _ _ _ _) (ry_t (fl_2 _ _ _ _) (by rw [show (144 : Int32) = nI 144 from rfl, ge_nI (by omega) (by omega)]; decide) hend)
  | succ t ih =>
    intro c hc
    refine ry_b 2 (fl_1 _ _ _ _) (ry_f (fl_2 _ _ _ _) (by rw [show (144 : Int32) = nI 144 from rfl, ge_nI (by omega) (by omega), ble_f]; omega) ?_)
    refine ry_b 4 (fl_3 _ _ _ _ _) (ry_g (fl_4 _ _ _ _ _) (by rw [pin_nI (by omega) (by omega)]; rfl) ?_)
    rw [uA_uA, uA_self, ix_nI (by omega), inJ_s]
    refine ry_b 2 (fl_5 _ _ _ _) ?_
    rw [show nI c + 1 = nI (c + 1) from nI_add c 1]
    exact ih (c + 1) (by omega)
theorem fp_run (z : Nat → Int32) (f : Nat → FA) : ∃ g : FA, RY (mP 63) 0 [some (vR 0), none, none, none] [] (LR z f) (none, LR z (uA f 23 g)) := by
  have hG : ∀ j, (fun j => if j < 144 then j else 0 : Nat → Nat) j < 144 := by
    intro j
    show (if j < 144 then j else 0) < 144
    by_cases h : j < 144
    · rw [if_pos h]; exact h
    · rw [if_neg h]; decide
  have e0 : inJ (f 23) 144 = MK (fun j => if j < 144 then j else 0) (f 23) := by
    funext j
    unfold inJ MK
    by_cases h : j < 144
    · rw [if_pos h, if_pos h]
      show nI j = nI (if j < 144 then j else 0)
      rw [if_pos h]
    · rw [if_neg h, if_neg h]
  have e1 : uA f 23 (inJ (f 23) 0) = f := uA_id (by funext j; unfold inJ; rw [if_neg (by omega)])
  obtain ⟨G', h⟩ := fp_out z f (f 23) _ _ (Nat.lt_succ_self _) hG none none
  refine ⟨MK G' (f 23), ry_b 2 (fl_0 _ _ _) ?_⟩
  have k := fp_ini z f (f 23) none none (none, LR z (uA f 23 (MK G' (f 23)))) (by rw [e0]; exact ry_b 2 (fl_6 _ _ _ _) h) 144 0 (by omega)
  rw [e1] at k
  exact k
theorem findsParts_ok {lam : Nat → Nat} {EX : PH → Prop} {l : Launch} {G : PG} (hi : LbI lam 43) : SUOK lam TRf EX l G kr_m20 := by
  intro cAs h hA hT hX
  obtain ⟨a, r1, rfl, ha, hA1⟩ := R2.uncons hA
  have ha : a = vR (lam 0) := ha
  subst ha
  cases r1 with
  | cons _ _ => cases hA1
  | nil =>
    obtain ⟨z, f, hR⟩ := LR_rep hT
    obtain ⟨g, N, hN⟩ := fp_run z f
    have hrun := hN N (Nat.le_refl _)
    refine ⟨_, rx_met1 (k := 63) (d := 2) (As := [vR 0]) (mq63 (cu := [])).2.2 hi rfl (cfl_ok (d := 1) hi) hrun hR, ?_⟩
    rintro r h1 ⟨rfl, hR1⟩
    refine ⟨rfl, rx_fin (E := [23]) (fun k c hk => ?_) hT hR hR1 ?_ ?_ ?_⟩
    · rw [nth_eq] at hk
      exact (List.getElem?_eq_some_iff.mp hk).1
    · intro k hk
      cases k with
      | zero => rfl
      | succ k =>
        rw [LR_get, LR_get, uA_ne (fun e => hk (by rw [e]; exact List.mem_cons_self))]
    · intro k hk c hc
      rcases List.mem_cons.mp hk with rfl | hk
      · have hc := Option.some.inj hc
        subst hc
        exact ⟨_, rfl, 144, g, rfl, by decide, ⟨_, val_c (by decide), by decide⟩, ⟨fun j _ => inb_top _, trivial⟩, trivial⟩
      · cases hk
    · intro k hk x x' hx hx'
      rcases List.mem_cons.mp hk with rfl | hk
      · have hx := Option.some.inj hx
        have hx' := Option.some.inj hx'
        subst hx
        subst hx'
        exact ⟨rfl, rfl, fun q => absurd (by decide) q⟩
      · cases hk
