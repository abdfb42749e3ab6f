/-! the reference's words and tokens, exactly -/
/-- the row of words from k on tells these words, a blank behind each -/
def pxY (g : FA) : Nat → List (List Int32) → Bool
  | k, [] => decide (k = 132)
  | k, w :: l => (pxm g w (k + 1) && decide (g (k + 1 + w.length) = 32)) && pxY g (k + 1 + w.length) l
theorem pxY_c {g : FA} {k : Nat} {w : List Int32} {l : List (List Int32)} : pxY g k (w :: l) = true ↔ (pxm g w (k + 1) = true ∧ g (k + 1 + w.length) = 32) ∧ pxY g (k + 1 + w.length) l = true := by
  show ((pxm g w (k + 1) && decide (g (k + 1 + w.length) = 32)) && pxY g (k + 1 + w.length) l) = true ↔ _
  rw [Bool.and_eq_true, Bool.and_eq_true, decide_eq_true_eq]
theorem pxY_le {g : FA} : ∀ (l : List (List Int32)) (k : Nat), pxY g k l = true → k ≤ 132 := by
  intro l
  induction l with
  | nil =>
    intro k h
    have h := of_decide_eq_true h
    omega
  | cons w l ih =>
    intro k h
    have := ih _ (pxY_c.mp h).2
    omega
theorem wx13s (call : QC FA) (n : Int32) {z : Nat → Int32} {f : Nat → FA} {res : Option PV × QH FA} {a b k i : Nat} (hb : b ≤ 400) (hk : k + 1 + i ≤ 132) (hab : a + i ≤ b) (H1 : a + i = b → ((f 9 (k + 1 + i) = 32 → res = (some (vI n), LR z f)) ∧ (¬ f 9 (k + 1 + i) = 32 → RC call (mP 288) 59 (LWa (nI a) (nI b) n (nI (k + 1)) (some (vI (nI i)))) [] (LR z f) res))) (H2 : a + i < b → ((f 9 (k + 1 + i) = f 8 (a + i) → RC call (mP 288) 13 (LWa (nI a) (nI b) n (nI k) (some (vI (nI (i + 1))))) [] (LR z f) res) ∧ (¬ f 9 (k + 1 + i) = f 8 (a + i) → RC call (mP 288) 59 (LWa (nI a) (nI b) n (nI (k + 1)) (some (vI (nI i)))) [] (LR z f) res))) : RC call (mP 288) 13 (LWa (nI a) (nI b) n (nI k) (some (vI (nI i)))) [] (LR z f) res := by
  have e1 : nI a + nI i = nI (a + i) := nI_add a i
  have e2 : nI k + 1 = nI (k + 1) := nI_add k 1
  have e3 : nI (k + 1) + nI i = nI (k + 1 + i) := nI_add (k + 1) i
  have i1 := I_nI (n := a + i) (by omega)
  have i2 := I_nI (n := b) (by omega)
  have x1 : ix (nI (k + 1 + i)) = k + 1 + i := ix_nI (by omega)
  have x2 : ix (nI (a + i)) = a + i := ix_nI (by omega)
  have P1 : pin (nI (k + 1 + i)) 133 = true := pin_nI (by omega) (by omega)
  refine vcc13_288_13 _ _ _ _ _ _ _ _ _ ?_
  rw [e1, e2, e3, x1, x2, i1, i2]
  refine ⟨fun q => ⟨fun q2 => ?_, fun q2 => ⟨P1, fun q3 => ?_, fun q3 => ?_⟩⟩, fun q => ⟨P1, pin_nI (by omega) (by omega), fun q3 => ⟨fun q2 => ?_, fun q2 => ?_⟩, fun q3 => ?_⟩⟩
  · exact absurd (by rw [show a + i = b by omega]) q2
  · exact (H1 (by omega)).2 q3
  · exact (H1 (by omega)).1 q3
  · exact (H2 (by omega)).2 q3
  · have := nI_inj (by omega) (by omega) q2
    omega
  · rw [show nI i + 1 = nI (i + 1) from nI_add i 1]
    exact (H2 (by omega)).1 q3
theorem wx13 (call : QC FA) (n : Int32) {z : Nat → Int32} {f : Nat → FA} {res : Option PV × QH FA} {a b k : Nat} (hb : b ≤ 400) (hL : ∀ j, a ≤ j → j < b → ¬ f 8 j = 32) : ∀ (v : List Int32) (i : Nat), pxm (f 9) v (k + 1 + i) = true → (∀ c, c ∈ v → ¬ c = 32) → f 9 (k + 1 + i + v.length) = 32 → k + 1 + i + v.length ≤ 132 → a + i ≤ b → ((b = a + i + v.length ∧ pxm (f 8) v (a + i) = true) → res = (some (vI n), LR z f)) → (¬ (b = a + i + v.length ∧ pxm (f 8) v (a + i) = true) → ∀ j, RC call (mP 288) 59 (LWa (nI a) (nI b) n (nI (k + 1)) (some (vI (nI j)))) [] (LR z f) res) → RC call (mP 288) 13 (LWa (nI a) (nI b) n (nI k) (some (vI (nI i)))) [] (LR z f) res := by
  intro v
  induction v with
  | nil =>
    intro i hv h32 he hK hab h1 h2
    have he : f 9 (k + 1 + i) = 32 := he
    have hK : k + 1 + i ≤ 132 := hK
    refine wx13s call n hb hK hab (fun q => ⟨fun _ => h1 ⟨q.symm, rfl⟩, fun c => absurd he c⟩) (fun q => ⟨fun c => absurd (c.symm.trans he) (hL _ (by omega) q), fun _ => h2 (fun c => ?_) i⟩)
    have := c.1
    have this : b = a + i := this
    omega
  | cons c v ih =>
    intro i hv h32 he hK hab h1 h2
    obtain ⟨v1, v2⟩ := pxm_c.mp hv
    have hK : k + 1 + i + (v.length + 1) ≤ 132 := hK
    have he : f 9 (k + 1 + i + (v.length + 1)) = 32 := he
    have hc := h32 c List.mem_cons_self
    have no : a + i = b → ¬ (b = a + i + (c :: v).length ∧ pxm (f 8) (c :: v) (a + i) = true) := fun q c2 => by
      have c3 : b = a + i + (v.length + 1) := c2.1
      omega
    refine wx13s call n hb (by omega) hab (fun q => ⟨fun c2 => absurd (v1.symm.trans c2) hc, fun _ => h2 (no q) i⟩) (fun q => ⟨fun c2 => ?_, fun c2 => h2 (fun c3 => c2 (v1.trans (pxm_c.mp c3.2).1.symm)) i⟩)
    have c4 : f 8 (a + i) = c := c2.symm.trans v1
    refine ih (i + 1) v2 (fun c' hc' => h32 c' (List.mem_cons_of_mem c hc')) (by rw [show k + 1 + (i + 1) + v.length = k + 1 + i + (v.length + 1) by omega]; exact he) (by omega) (by omega) (fun c5 => ?_) (fun c5 => h2 (fun c6 => ?_))
    · have := c5.1
      exact h1 ⟨by show b = a + i + (v.length + 1); omega, pxm_c.mpr ⟨c4, c5.2⟩⟩
    · have c7 : b = a + i + (v.length + 1) := c6.1
      exact c5 ⟨by omega, (pxm_c.mp c6.2).2⟩
theorem wx59 (call : QC FA) (a b n : Int32) (q : Option PV) {z : Nat → Int32} {f : Nat → FA} {res : Option PV × QH FA} : ∀ (v : List Int32) (k : Nat), pxm (f 9) v k = true → (∀ c, c ∈ v → ¬ c = 32) → f 9 (k + v.length) = 32 → k + v.length ≤ 132 → RC call (mP 288) 4 (LWa a b n (nI (k + v.length)) q) [] (LR z f) res → RC call (mP 288) 59 (LWa a b n (nI k) q) [] (LR z f) res := by
  intro v
  induction v with
  | nil =>
    intro k hv h32 he hK h
    have he : f 9 k = 32 := he
    have hK : k ≤ 132 := hK
    refine vcc59_288_59 _ _ _ _ _ _ _ _ _ ⟨pin_nI (by omega) (by omega), fun _ => h, fun h2 => absurd ?_ h2⟩
    rw [ix_nI (by omega)]
    exact he
  | cons c v ih =>
    intro k hv h32 he hK h
    obtain ⟨v1, v2⟩ := pxm_c.mp hv
    have hK : k + (v.length + 1) ≤ 132 := hK
    have e : k + 1 + v.length = k + (c :: v).length := by show k + 1 + v.length = k + (v.length + 1); omega
    refine vcc59_288_59 _ _ _ _ _ _ _ _ _ ⟨pin_nI (by omega) (by omega), fun h2 => absurd ?_ (h32 c List.mem_cons_self), fun _ => ?_⟩
    · rw [ix_nI (by omega), v1] at h2
      exact h2
    · rw [show nI k + 1 = nI (k + 1) from nI_add k 1]
      exact ih (k + 1) v2 (fun c' hc' => h32 c' (List.mem_cons_of_mem c hc')) (by rw [e]; exact he) (by omega) (by rw [e]; exact h)
/-- the answer: the place of the word that is there, -1: none -/
def pxv (t : FA) (a b : Nat) : List (List Int32) → Nat → Int32
  | [], _ => -1
  | w :: l, k => if pxq t a b w = true then nI k else pxv t a b l (k + 1)
theorem wx4 (call : QC FA) {z : Nat → Int32} {f : Nat → FA} {a b : Nat} (hab : a ≤ b) (hb : b ≤ 400) (hL : ∀ j, a ≤ j → j < b → ¬ f 8 j = 32) : ∀ (l : List (List Int32)) (k j : Nat) (n : Int32) (q : Option PV), pxY (f 9) k l = true → (∀ w, w ∈ l → ∀ c, c ∈ w → ¬ c = 32) → n + 1 = nI j → RC call (mP 288) 4 (LWa (nI a) (nI b) n (nI k) q) [] (LR z f) (some (vI (pxv (f 8) a b l j)), LR z f) := by
  intro l
  induction l with
  | nil =>
    intro k j n q hY h32 hn
    have hk := of_decide_eq_true hY
    have i1 := I_nI (n := k) (by omega)
    refine vcc4_288_4 _ _ _ _ _ _ _ _ _ ?_
    rw [i1]
    exact ⟨fun _ => rfl, fun h => by omega⟩
  | cons w l ih =>
    intro k j n q hY h32 hn
    obtain ⟨⟨y1, y2⟩, y3⟩ := pxY_c.mp hY
    have hle := pxY_le _ _ y3
    have i1 := I_nI (n := k) (by omega)
    refine vcc4_288_4 _ _ _ _ _ _ _ _ _ ?_
    rw [i1]
    refine ⟨fun h => by omega, fun _ => ?_⟩
    have hw := h32 w List.mem_cons_self
    refine wx13 call (n + 1) (k := k) (a := a) (b := b) hb hL w 0 y1 hw y2 hle hab (fun c => ?_) (fun c i => ?_)
    · rw [show pxv (f 8) a b (w :: l) j = nI j from if_pos (pxq_iff.mpr c), hn]
    · rw [show pxv (f 8) a b (w :: l) j = pxv (f 8) a b l (j + 1) from if_neg (fun q => c (pxq_iff.mp q))]
      exact wx59 call _ _ _ _ w (k + 1) y1 hw y2 hle (ih _ (j + 1) (n + 1) _ y3 (fun u hu => h32 u (List.mem_cons_of_mem w hu)) (by rw [hn]; exact nI_add j 1))
theorem pxv_at {t : FA} {a b : Nat} {w : List Int32} (h : pxq t a b w = true) : ∀ (l : List (List Int32)) (k : Nat), w ∈ l → pxv t a b l k = nI (k + pxi w l) := by
  intro l
  induction l with
  | nil =>
    intro k hm
    cases hm
  | cons v l ih =>
    intro k hm
    show (if pxq t a b v = true then nI k else pxv t a b l (k + 1)) = nI (k + (if v = w then 0 else pxi w l + 1))
    by_cases e : v = w
    · rw [if_pos (by rw [e]; exact h), if_pos e]
      rfl
    · have hm' : w ∈ l := by
        rcases List.mem_cons.mp hm with q | q
        · exact absurd q.symm e
        · exact q
      rw [if_neg (fun q => e (pxq_u q h)), if_neg e, ih (k + 1) hm']
      congr 1
      omega
theorem pxv_no {t : FA} {a b : Nat} : ∀ (l : List (List Int32)) (k : Nat), (∀ w, w ∈ l → ¬ pxq t a b w = true) → pxv t a b l k = -1 := by
  intro l
  induction l with
  | nil => intro k _; rfl
  | cons v l ih =>
    intro k h
    show (if pxq t a b v = true then nI k else pxv t a b l (k + 1)) = -1
    rw [if_neg (h v List.mem_cons_self)]
    exact ih (k + 1) (fun w hw => h w (List.mem_cons_of_mem v hw))
/-- the reference's answer for a word, by the class's number -/
def pxu (tk : Nat) : Int32 := if tk = 3 then -1 else nI (pxr (tk - 300))
theorem pxv_w (t : FA) (a b : Nat) : pxv t a b pxV 0 = pxu (pxw t a b) := by
  unfold pxu
  by_cases c : pxw t a b = 3
  · rw [if_pos c]
    exact pxv_no pxV 0 (pxw_no c)
  · rw [if_neg c]
    obtain ⟨w, h1, h2, h3⟩ := pxw_at c
    rw [pxv_at h2 pxV 0 h1, h3, Nat.zero_add]
theorem wordAt_x (d : Nat) {a b : Nat} {z : Nat → Int32} {f : Nat → FA} (hY : pxY (f 9) 0 pxV = true) (hab : a ≤ b) (hb : b ≤ 400) (hL : ∀ j, a ≤ j → j < b → ¬ f 8 j = 32) : mcall (d + 1) 288 [vR 0, vI (nI a), vI (nI b)] (LR z f) = some (some (vI (pxu (pxw (f 8) a b))), LR z f) := by
  have hv := wx4 (mcall d) (z := z) hab hb hL pxV 0 0 (-1) none hY pxV_32 (by decide)
  rw [pxv_w] at hv
  exact mcall_i (mq288 (cu := [])).2.2 rfl (vc288_0 _ _ _ _ _ _ _ _ _ hv)
theorem pxr_lt {j : Nat} (h : j < 26) : pxr j < 26 := by
  unfold pxr
  by_cases c1 : j < 3
  · rw [if_pos c1]; omega
  · rw [if_neg c1]
    by_cases c2 : j < 13
    · rw [if_pos c2]; omega
    · rw [if_neg c2]
      by_cases c3 : j < 17
      · rw [if_pos c3]; omega
      · rw [if_neg c3]; omega
/-- the reference's token -/
def pxR (z : Nat → Int32) (tk v : Nat) : Prop := (tk = 2 → z 15 = 0) ∧ (tk = 3 → z 15 = 1) ∧ (tk = 1 → z 15 = 3 ∧ z 16 = nI v) ∧ (40 ≤ tk → tk ≤ 62 → z 15 = 4 ∧ z 16 = nI tk) ∧ (300 ≤ tk → z 15 = 2 ∧ z 16 = nI (pxr (tk - 300)))
def pxRt (t : FA) (z : Nat → Int32) (x : Nat × Nat × Nat × Nat) : Prop := z 14 = nI x.1 ∧ z 13 = nI x.2.1 ∧ pxR z x.2.2.1 x.2.2.2
theorem xd51 (d a n : Nat) (f : Nat → FA) (hY : pxY (f 9) 0 pxV = true) (hn : n ≤ 400) : ∀ k s, s + k = n → a < s → ∀ z q, z 12 = nI n → z 13 = nI s → z 14 = nI a → z 15 = 1 → (∀ j, a ≤ j → j < s → ¬ f 8 j = 32) → ∃ z', RC (mcall (d + 2)) (mP 269) 51 [some (vR 0), q] [] (LR z f) (none, LR z' f) ∧ RDZ z z' ∧ z' 14 = nI a ∧ z' 13 = nI (pxE pxL (f 8) n s) ∧ z' 16 = pxu (pxw (f 8) a (pxE pxL (f 8) n s)) ∧ z' 15 = if pxw (f 8) a (pxE pxL (f 8) n s) = 3 then 1 else 2 := by
  intro k
  induction k with
  | zero =>
    intro s hs has z q z12 z13 z14 z15 hL
    have i12 : I (z 12) = n := by rw [z12]; exact I_nI (by omega)
    have hr := raw_r (d + 1) s z f (by omega) (by omega)
    have hv0 : rawv z f s = -1 := if_neg (by omega)
    have e : pxE pxL (f 8) n s = s := pxE_f (fun c => by have := c.1; omega)
    have c : ¬ ((97 ≤ I (rawv z f s) ∧ I (rawv z f s) ≤ 122) ∨ (65 ≤ I (rawv z f s) ∧ I (rawv z f s) ≤ 90)) := by rw [hv0]; decide
    rw [e]
    exact (by
      have hv := wordAt_x (d + 1) (z := z) hY (show a ≤ s by omega) (by omega) hL
      by_cases e2 : pxw (f 8) a s = 3
      · have ev : pxu (pxw (f 8) a s) = -1 := if_pos e2
        rw [if_pos e2]
        refine ⟨uZ z 16 (pxu (pxw (f 8) a s)), vcc51_269_51 _ _ _ _ _ ⟨rawv z f s, z, f, by rw [z13]; exact hr, fun h => absurd h c, fun _ => ⟨pxu (pxw (f 8) a s), z, f, by rw [z13, z14]; exact hv, fun _ => rfl, fun h => absurd ev h⟩⟩, RDZ.u (by omega), ?_, ?_, uZ_s, ?_⟩
        · rw [uZ_n (by decide)]; exact z14
        · rw [uZ_n (by decide)]; exact z13
        · rw [uZ_n (by decide)]; exact z15
      · have ev : ¬ pxu (pxw (f 8) a s) = -1 := by
          rw [show pxu (pxw (f 8) a s) = nI (pxr (pxw (f 8) a s - 300)) from if_neg e2]
          have hl := pxw_lt (f 8) a s
          have hl2 := pxr_lt (j := pxw (f 8) a s - 300) (by omega)
          intro h3
          have h4 := congrArg I h3
          rw [I_nI (by omega)] at h4
          have h5 : I (-1) = -1 := by decide
          omega
        rw [if_neg e2]
        refine ⟨uZ (uZ z 16 (pxu (pxw (f 8) a s))) 15 2, vcc51_269_51 _ _ _ _ _ ⟨rawv z f s, z, f, by rw [z13]; exact hr, fun h => absurd h c, fun _ => ⟨pxu (pxw (f 8) a s), z, f, by rw [z13, z14]; exact hv, fun h => absurd h ev, fun _ => rfl⟩⟩, (RDZ.u (by omega)).trans (RDZ.u (by omega)), ?_, ?_, ?_, uZ_s⟩
        · rw [uZ_n (by decide), uZ_n (by decide)]; exact z14
        · rw [uZ_n (by decide), uZ_n (by decide)]; exact z13
        · rw [uZ_n (by decide), uZ_s])
  | succ k ih =>
    intro s hs has z q z12 z13 z14 z15 hL
    have i12 : I (z 12) = n := by rw [z12]; exact I_nI (by omega)
    have hr := raw_r (d + 1) s z f (by omega) (by omega)
    have hv0 : rawv z f s = f 8 s := if_pos (by omega)
    by_cases c : (97 ≤ I (rawv z f s) ∧ I (rawv z f s) ≤ 122) ∨ (65 ≤ I (rawv z f s) ∧ I (rawv z f s) ≤ 90)
    · have cq : pxL (f 8 s) = true := decide_eq_true (by rw [hv0] at c; exact c)
      rw [pxE_t (by omega) cq]
      obtain ⟨z', h1, h2, h3, h4, h5, h6⟩ := ih (s + 1) (by omega) (by omega) (uZ z 13 (nI (s + 1))) q (by rw [uZ_n (by decide)]; exact z12) uZ_s (by rw [uZ_n (by decide)]; exact z14) (by rw [uZ_n (by decide)]; exact z15) (fun j h1 h2 => by
        by_cases e : j = s
        · subst e
          rw [← hv0]
          intro h3
          rw [h3] at c
          revert c
          decide
        · exact hL j h1 (by omega))
      refine ⟨z', vcc51_269_51 _ _ _ _ _ ⟨rawv z f s, z, f, by rw [z13]; exact hr, fun _ => ?_, fun h => absurd c h⟩, (RDZ.u (Or.inl rfl)).trans h2, h3, h4, h5, h6⟩
      rw [z13, show nI s + 1 = nI (s + 1) from nI_add s 1]
      exact h1
    · have e : pxE pxL (f 8) n s = s := pxE_f (fun q => c (by rw [hv0]; exact of_decide_eq_true q.2))
      rw [e]
      exact (by
      have hv := wordAt_x (d + 1) (z := z) hY (show a ≤ s by omega) (by omega) hL
      by_cases e2 : pxw (f 8) a s = 3
      · have ev : pxu (pxw (f 8) a s) = -1 := if_pos e2
        rw [if_pos e2]
        refine ⟨uZ z 16 (pxu (pxw (f 8) a s)), vcc51_269_51 _ _ _ _ _ ⟨rawv z f s, z, f, by rw [z13]; exact hr, fun h => absurd h c, fun _ => ⟨pxu (pxw (f 8) a s), z, f, by rw [z13, z14]; exact hv, fun _ => rfl, fun h => absurd ev h⟩⟩, RDZ.u (by omega), ?_, ?_, uZ_s, ?_⟩
        · rw [uZ_n (by decide)]; exact z14
        · rw [uZ_n (by decide)]; exact z13
        · rw [uZ_n (by decide)]; exact z15
      · have ev : ¬ pxu (pxw (f 8) a s) = -1 := by
          rw [show pxu (pxw (f 8) a s) = nI (pxr (pxw (f 8) a s - 300)) from if_neg e2]
          have hl := pxw_lt (f 8) a s
          have hl2 := pxr_lt (j := pxw (f 8) a s - 300) (by omega)
          intro h3
          have h4 := congrArg I h3
          rw [I_nI (by omega)] at h4
          have h5 : I (-1) = -1 := by decide
          omega
        rw [if_neg e2]
        refine ⟨uZ (uZ z 16 (pxu (pxw (f 8) a s))) 15 2, vcc51_269_51 _ _ _ _ _ ⟨rawv z f s, z, f, by rw [z13]; exact hr, fun h => absurd h c, fun _ => ⟨pxu (pxw (f 8) a s), z, f, by rw [z13, z14]; exact hv, fun h => absurd h ev, fun _ => rfl⟩⟩, (RDZ.u (by omega)).trans (RDZ.u (by omega)), ?_, ?_, ?_, uZ_s⟩
        · rw [uZ_n (by decide), uZ_n (by decide)]; exact z14
        · rw [uZ_n (by decide), uZ_n (by decide)]; exact z13
        · rw [uZ_n (by decide), uZ_s])

/-- the value that digits come to: capped, as the reference reads them -/
def pxc (t : FA) (b : Nat) : Nat → Int32
  | 0 => 0
  | k + 1 => if 10000 ≤ I (pxc t b k) then pxc t b k else 10 * pxc t b k + t (b + k) - 48
theorem pxc_N {t : FA} {b : Nat} : ∀ k, k ≤ 4 → (∀ j, j < k → pxD (t (b + j)) = true) → pxc t b k = nI (pxN t b k) := by
  intro k
  induction k with
  | zero => intro _ _; rfl
  | succ k ih =>
    intro hk h
    have h1 := ih (by omega) (fun j hj => h j (by omega))
    have h3 := pxN_4 k (by omega) (fun j hj => h j (by omega))
    have h4 : 10 ^ k ≤ 10 ^ 3 := Nat.pow_le_pow_right (by decide) (by omega)
    have h2 : 48 ≤ I (t (b + k)) ∧ I (t (b + k)) ≤ 57 := of_decide_eq_true (h k (by omega))
    obtain ⟨m, hm, hm2, hm3⟩ := nI_ofI (x := t (b + k)) (by omega)
    have e : ix (t (b + k)) = m := by rw [hm]; exact ix_nI (by omega)
    show (if 10000 ≤ I (pxc t b k) then pxc t b k else 10 * pxc t b k + t (b + k) - 48) = nI (10 * pxN t b k + (ix (t (b + k)) - 48))
    rw [h1, I_nI (by omega), if_neg (by omega), e, hm, show (10 : Int32) = nI 10 from rfl, show (48 : Int32) = nI 48 from rfl, mul_nI, nI_add, nI_sub (by omega)]
    congr 1
    omega
theorem xd90 (d a n : Nat) (f : Nat → FA) (hn : n ≤ 400) : ∀ k s, s + k = n → a < s → ∀ z q, z 12 = nI n → z 13 = nI s → z 14 = nI a → z 15 = 1 → z 16 = pxc (f 8) a (s - a) → ∃ z', RC (mcall (d + 2)) (mP 269) 90 [some (vR 0), q] [] (LR z f) (none, LR z' f) ∧ RDZ z z' ∧ z' 14 = nI a ∧ z' 13 = nI (pxE pxD (f 8) n s) ∧ z' 16 = pxc (f 8) a (pxE pxD (f 8) n s - a) ∧ z' 15 = if pxE pxD (f 8) n s ≤ a + 4 then 3 else 1 := by
  intro k
  induction k with
  | zero =>
    intro s hs has z q z12 z13 z14 z15 z16
    have i12 : I (z 12) = n := by rw [z12]; exact I_nI (by omega)
    have hr := raw_r (d + 1) s z f (by omega) (by omega)
    have hv0 : rawv z f s = -1 := if_neg (by omega)
    have e : pxE pxD (f 8) n s = s := pxE_f (fun c => by have := c.1; omega)
    have c : ¬ (48 ≤ I (rawv z f s) ∧ I (rawv z f s) ≤ 57) := by rw [hv0]; decide
    rw [e]
    exact (by
      have e9 : z 13 - z 14 = nI (s - a) := by rw [z13, z14]; exact nI_sub (by omega)
      have e8 : I (z 13 - z 14) = ((s - a : Nat) : Int) := by rw [e9]; exact I_nI (by omega)
      by_cases c3 : s ≤ a + 4
      · rw [if_pos c3]
        refine ⟨uZ z 15 3, vcc90_269_90 _ _ _ _ _ ⟨rawv z f s, z, f, by rw [z13]; exact hr, fun h => absurd h c, fun _ => ⟨fun h => by omega, fun _ => rfl⟩⟩, RDZ.u (by omega), ?_, ?_, ?_, uZ_s⟩
        · rw [uZ_n (by decide)]; exact z14
        · rw [uZ_n (by decide)]; exact z13
        · rw [uZ_n (by decide)]; exact z16
      · rw [if_neg c3]
        exact ⟨z, vcc90_269_90 _ _ _ _ _ ⟨rawv z f s, z, f, by rw [z13]; exact hr, fun h => absurd h c, fun _ => ⟨fun _ => rfl, fun h => by omega⟩⟩, RDZ.refl z, z14, z13, z16, z15⟩)
  | succ k ih =>
    intro s hs has z q z12 z13 z14 z15 z16
    have i12 : I (z 12) = n := by rw [z12]; exact I_nI (by omega)
    have hr := raw_r (d + 1) s z f (by omega) (by omega)
    have hv0 : rawv z f s = f 8 s := if_pos (by omega)
    by_cases c : 48 ≤ I (rawv z f s) ∧ I (rawv z f s) ≤ 57
    · have cq : pxD (f 8 s) = true := decide_eq_true (by rw [hv0] at c; exact c)
      rw [pxE_t (by omega) cq]
      have ec : pxc (f 8) a (s + 1 - a) = if 10000 ≤ I (z 16) then z 16 else 10 * z 16 + rawv z f s - 48 := by
        rw [show s + 1 - a = (s - a) + 1 by omega]
        show (if 10000 ≤ I (pxc (f 8) a (s - a)) then pxc (f 8) a (s - a) else 10 * pxc (f 8) a (s - a) + f 8 (a + (s - a)) - 48) = _
        rw [← z16, hv0, show a + (s - a) = s by omega]
      have key : ∀ x, x = pxc (f 8) a (s + 1 - a) → ∃ z', RC (mcall (d + 2)) (mP 269) 90 [some (vR 0), q] [] (LR (uZ (uZ z 16 x) 13 (nI (s + 1))) f) (none, LR z' f) ∧ RDZ z z' ∧ z' 14 = nI a ∧ z' 13 = nI (pxE pxD (f 8) n (s + 1)) ∧ z' 16 = pxc (f 8) a (pxE pxD (f 8) n (s + 1) - a) ∧ z' 15 = if pxE pxD (f 8) n (s + 1) ≤ a + 4 then 3 else 1 := by
        intro x hx
        obtain ⟨z', h1, h2, h3⟩ := ih (s + 1) (by omega) (by omega) (uZ (uZ z 16 x) 13 (nI (s + 1))) q (by rw [uZ_n (by decide), uZ_n (by decide)]; exact z12) uZ_s (by rw [uZ_n (by decide), uZ_n (by decide)]; exact z14) (by rw [uZ_n (by decide), uZ_n (by decide)]; exact z15) (by rw [uZ_n (by decide), uZ_s]; exact hx)
        exact ⟨z', h1, ((RDZ.u (by omega)).trans (RDZ.u (Or.inl rfl))).trans h2, h3⟩
      by_cases c3 : 10000 ≤ I (z 16)
      · obtain ⟨z', h1, h2⟩ := key (z 16) (by rw [ec, if_pos c3])
        refine ⟨z', vcc90_269_90 _ _ _ _ _ ⟨rawv z f s, z, f, by rw [z13]; exact hr, fun _ => ⟨fun _ => ?_, fun h => by omega⟩, fun h => absurd c h⟩, h2⟩
        rw [z13, show nI s + 1 = nI (s + 1) from nI_add s 1]
        exact h1
      · obtain ⟨z', h1, h2⟩ := key (10 * z 16 + rawv z f s - 48) (by rw [ec, if_neg c3])
        refine ⟨z', vcc90_269_90 _ _ _ _ _ ⟨rawv z f s, z, f, by rw [z13]; exact hr, fun _ => ⟨fun h => absurd h c3, fun _ => ⟨rawv z f s, z, f, by rw [z13]; exact hr, ?_⟩⟩, fun h => absurd c h⟩, h2⟩
        rw [z13, show nI s + 1 = nI (s + 1) from nI_add s 1]
        exact h1
    · have e : pxE pxD (f 8) n s = s := pxE_f (fun q => c (by rw [hv0]; exact of_decide_eq_true q.2))
      rw [e]
      exact (by
      have e9 : z 13 - z 14 = nI (s - a) := by rw [z13, z14]; exact nI_sub (by omega)
      have e8 : I (z 13 - z 14) = ((s - a : Nat) : Int) := by rw [e9]; exact I_nI (by omega)
      by_cases c3 : s ≤ a + 4
      · rw [if_pos c3]
        refine ⟨uZ z 15 3, vcc90_269_90 _ _ _ _ _ ⟨rawv z f s, z, f, by rw [z13]; exact hr, fun h => absurd h c, fun _ => ⟨fun h => by omega, fun _ => rfl⟩⟩, RDZ.u (by omega), ?_, ?_, ?_, uZ_s⟩
        · rw [uZ_n (by decide)]; exact z14
        · rw [uZ_n (by decide)]; exact z13
        · rw [uZ_n (by decide)]; exact z16
      · rw [if_neg c3]
        exact ⟨z, vcc90_269_90 _ _ _ _ _ ⟨rawv z f s, z, f, by rw [z13]; exact hr, fun h => absurd h c, fun _ => ⟨fun _ => rfl, fun h => by omega⟩⟩, RDZ.refl z, z14, z13, z16, z15⟩)
theorem xd0 (d n : Nat) (f : Nat → FA) (hY : pxY (f 9) 0 pxV = true) (hn : n ≤ 400) (hm8 : ∀ j, j < n → ¬ f 8 j = -1) : ∀ k s, s + k = n → ∀ z q, z 12 = nI n → z 13 = nI s → ∃ z', RC (mcall (d + 2)) (mP 269) 0 [some (vR 0), q] [] (LR z f) (none, LR z' f) ∧ RDZ z z' ∧ pxRt (f 8) z' (pxT (f 8) n s) := by
  intro k
  induction k with
  | zero =>
    intro s hs z q z12 z13
    have i12 : I (z 12) = n := by rw [z12]; exact I_nI (by omega)
    have hr := raw_r (d + 1) s z f (by omega) (by omega)
    have hv0 : rawv z f s = -1 := if_neg (by omega)
    have n1 : ¬ rawv z f s = 32 := by rw [hv0]; decide
    have n2 : ¬ rawv z f s = 10 := by rw [hv0]; decide
    have eb : pxE pxB (f 8) n s = s := pxE_f (fun c => by have := c.1; omega)
    have eT : pxT (f 8) n s = (s, s, 2, 0) := by
      unfold pxT
      rw [eb]
      exact if_pos (by omega)
    rw [eT]
    exact (by
      have e13 : z 13 + 1 = nI (s + 1) := by rw [z13]; exact nI_add s 1
      have hr2 : mcall (d + 2) 250 [vR 0, vI (z 13)] (LR (uZ (uZ z 14 (z 13)) 15 1) f) = some (some (vI (rawv z f s)), LR (uZ (uZ z 14 (z 13)) 15 1) f) := by
        rw [z13]
        have := raw_r (d + 1) s (uZ (uZ z 14 (nI s)) 15 1) f (by omega) (by rw [uZ_n (by decide), uZ_n (by decide)]; omega)
        exact this
      refine ⟨uZ (uZ (uZ z 14 (z 13)) 15 1) 15 0, vc269_0 _ _ _ _ _ ⟨rawv z f s, z, f, by rw [z13]; exact hr, fun h => absurd h n1, fun _ => ⟨rawv z f s, z, f, by rw [z13]; exact hr, fun _ => ⟨rawv z f s, uZ (uZ z 14 (z 13)) 15 1, f, hr2, fun h => absurd hv0 h, fun _ => rfl⟩, fun h => absurd h n2⟩⟩, ((RDZ.u (by omega)).trans (RDZ.u (by omega))).trans (RDZ.u (by omega)), ?_, ?_, fun _ => uZ_s, fun h => absurd (show (2 : Nat) = 3 from h) (by decide), fun h => absurd (show (2 : Nat) = 1 from h) (by decide), fun h => absurd (show 40 ≤ 2 from h) (by decide), fun h => absurd (show 300 ≤ 2 from h) (by decide)⟩
      · rw [uZ_n (by decide), uZ_n (by decide), uZ_s]; exact z13
      · rw [uZ_n (by decide), uZ_n (by decide), uZ_n (by decide)]; exact z13)
  | succ k ih =>
    intro s hs z q z12 z13
    have i12 : I (z 12) = n := by rw [z12]; exact I_nI (by omega)
    have hr := raw_r (d + 1) s z f (by omega) (by omega)
    have e13 : z 13 + 1 = nI (s + 1) := by rw [z13]; exact nI_add s 1
    have hv0 : rawv z f s = f 8 s := if_pos (by omega)
    by_cases c : rawv z f s = 32 ∨ rawv z f s = 10
    · have cq : pxB (f 8 s) = true := decide_eq_true (by rw [hv0] at c; exact c)
      have eT : pxT (f 8) n s = pxT (f 8) n (s + 1) := by
        unfold pxT
        rw [pxE_t (by omega) cq]
      rw [eT]
      obtain ⟨z', h1, h2, h3⟩ := ih (s + 1) (by omega) (uZ z 13 (nI (s + 1))) q (by rw [uZ_n (by decide)]; exact z12) uZ_s
      refine ⟨z', vc269_0 _ _ _ _ _ ⟨rawv z f s, z, f, by rw [z13]; exact hr, fun _ => ?_, fun h => ⟨rawv z f s, z, f, by rw [z13]; exact hr, fun h8 => absurd c (fun q => q.elim h h8), fun _ => ?_⟩⟩, (RDZ.u (Or.inl rfl)).trans h2, h3⟩
      · rw [e13]; exact h1
      · rw [e13]; exact h1
    · have n1 : ¬ rawv z f s = 32 := fun h => c (Or.inl h)
      have n2 : ¬ rawv z f s = 10 := fun h => c (Or.inr h)
      have eb : pxE pxB (f 8) n s = s := pxE_f (fun q => c (by rw [hv0]; exact of_decide_eq_true q.2))
      -- the token begins here
      have hr2 : mcall (d + 2) 250 [vR 0, vI (z 13)] (LR (uZ (uZ z 14 (z 13)) 15 1) f) = some (some (vI (rawv z f s)), LR (uZ (uZ z 14 (z 13)) 15 1) f) := by
        rw [z13]
        have := raw_r (d + 1) s (uZ (uZ z 14 (nI s)) 15 1) f (by omega) (by rw [uZ_n (by decide), uZ_n (by decide)]; omega)
        exact this
      exact (by
      have hst : s < n := by omega
      have z0 : RDZ z (uZ (uZ (uZ (uZ z 14 (z 13)) 15 1) 13 (nI (s + 1))) 16 (rawv z f s)) := (((RDZ.u (by omega)).trans (RDZ.u (by omega))).trans (RDZ.u (by omega))).trans (RDZ.u (by omega))
      have eT : pxT (f 8) n s = (if pxL (f 8 s) = true then (s, pxE pxL (f 8) n s, pxw (f 8) s (pxE pxL (f 8) n s), 0) else if pxD (f 8 s) = true then (s, pxE pxD (f 8) n s, if pxE pxD (f 8) n s ≤ s + 4 then 1 else 3, pxN (f 8) s (pxE pxD (f 8) n s - s)) else (s, s + 1, if pxS (f 8 s) = true then ix (f 8 s) else 3, 0)) := by
        unfold pxT
        rw [eb]
        exact if_neg (by omega)
      rw [eT]
      have pre : ∀ res, (¬ rawv z f s = -1 ∧ ((pxL (f 8 s) = true → RC (mcall (d + 2)) (mP 269) 51 [some (vR 0), some (vI (rawv z f s))] [] (LR (uZ (uZ (uZ (uZ z 14 (z 13)) 15 1) 13 (nI (s + 1))) 16 (rawv z f s)) f) res) ∧ (¬ pxL (f 8 s) = true → (pxD (f 8 s) = true → RC (mcall (d + 2)) (mP 269) 90 [some (vR 0), some (vI (rawv z f s))] [] (LR (uZ (uZ (uZ (uZ (uZ z 14 (z 13)) 15 1) 13 (nI (s + 1))) 16 (rawv z f s)) 16 (rawv z f s - 48)) f) res) ∧ (¬ pxD (f 8 s) = true → (pxS (f 8 s) = true → res = (none, LR (uZ (uZ (uZ (uZ (uZ z 14 (z 13)) 15 1) 13 (nI (s + 1))) 16 (rawv z f s)) 15 4) f)) ∧ (¬ pxS (f 8 s) = true → res = (none, LR (uZ (uZ (uZ (uZ z 14 (z 13)) 15 1) 13 (nI (s + 1))) 16 (rawv z f s)) f)))))) → RC (mcall (d + 2)) (mP 269) 0 [some (vR 0), q] [] (LR z f) res := by
        intro res H
        obtain ⟨g1, H⟩ := H
        refine vc269_0 _ _ _ _ _ ⟨rawv z f s, z, f, by rw [z13]; exact hr, fun h => absurd h n1, fun _ => ⟨rawv z f s, z, f, by rw [z13]; exact hr, fun _ => ⟨rawv z f s, uZ (uZ z 14 (z 13)) 15 1, f, hr2, ?_⟩, fun h => absurd h n2⟩⟩
        rw [show (uZ (uZ z 14 (z 13)) 15 1 13) + 1 = nI (s + 1) by rw [uZ_n (by decide), uZ_n (by decide)]; exact e13]
        refine ⟨fun _ => ⟨fun h => H.1 (decide_eq_true (by rw [hv0] at h; exact h)), fun h => ?_⟩, fun h => absurd h g1⟩
        have H := H.2 (fun k => h (by rw [hv0]; exact of_decide_eq_true k))
        refine ⟨fun h => H.1 (decide_eq_true (by rw [hv0] at h; exact h)), fun h => ?_⟩
        have H := H.2 (fun k => h (by rw [hv0]; exact of_decide_eq_true k))
        exact ⟨fun h => H.1 (decide_eq_true (by rw [hv0] at h; exact h)), fun h => H.2 (fun k => h (by rw [hv0]; exact of_decide_eq_true k))⟩
      have m1 : ¬ rawv z f s = -1 := by rw [hv0]; exact hm8 s hst
      by_cases m2 : pxL (f 8 s) = true
      · obtain ⟨z', h1, h2, h3, h4, h5, h6⟩ := xd51 d s n f hY hn (n - (s + 1)) (s + 1) (by omega) (by omega) (uZ (uZ (uZ (uZ z 14 (z 13)) 15 1) 13 (nI (s + 1))) 16 (rawv z f s)) (some (vI (rawv z f s))) (by rw [uZ_n (by decide), uZ_n (by decide), uZ_n (by decide), uZ_n (by decide)]; exact z12) (by rw [uZ_n (by decide), uZ_s]) (by rw [uZ_n (by decide), uZ_n (by decide), uZ_n (by decide), uZ_s]; exact z13) (by rw [uZ_n (by decide), uZ_n (by decide), uZ_s]) (fun j h1 h2 => by
          obtain rfl : j = s := by omega
          rw [← hv0]
          exact n1)
        rw [if_pos m2]
        rw [← pxE_t hst m2] at h4 h5 h6
        refine ⟨z', pre _ ⟨m1, fun _ => h1, fun h => absurd m2 h⟩, z0.trans h2, h3, h4, ?_⟩
        have hl := pxw_lt (f 8) s (pxE pxL (f 8) n s)
        show pxR z' (pxw (f 8) s (pxE pxL (f 8) n s)) 0
        generalize pxw (f 8) s (pxE pxL (f 8) n s) = tk at h5 h6 hl
        refine ⟨fun h => by omega, fun h => ?_, fun h => by omega, fun h h' => by omega, fun h => ?_⟩
        · rw [h6, if_pos h]
        · rw [h6, h5, if_neg (by omega)]
          exact ⟨rfl, if_neg (by omega)⟩
      · rw [if_neg m2]
        by_cases m3 : pxD (f 8 s) = true
        · obtain ⟨z', h1, h2, h3, h4, h5, h6⟩ := xd90 d s n f hn (n - (s + 1)) (s + 1) (by omega) (by omega) (uZ (uZ (uZ (uZ (uZ z 14 (z 13)) 15 1) 13 (nI (s + 1))) 16 (rawv z f s)) 16 (rawv z f s - 48)) (some (vI (rawv z f s))) (by rw [uZ_n (by decide), uZ_n (by decide), uZ_n (by decide), uZ_n (by decide), uZ_n (by decide)]; exact z12) (by rw [uZ_n (by decide), uZ_n (by decide), uZ_s]) (by rw [uZ_n (by decide), uZ_n (by decide), uZ_n (by decide), uZ_n (by decide), uZ_s]; exact z13) (by rw [uZ_n (by decide), uZ_n (by decide), uZ_n (by decide), uZ_s]) (by
            rw [uZ_s, show s + 1 - s = 0 + 1 by omega]
            show rawv z f s - 48 = if 10000 ≤ I (0 : Int32) then 0 else 10 * 0 + f 8 (s + 0) - 48
            rw [if_neg (by decide), hv0, Nat.add_zero, show (10 : Int32) * 0 = 0 from by decide, Int32.zero_add])
          rw [if_pos m3]
          obtain ⟨e1, e2, e3, e4⟩ := pxE_all pxD (f 8) n (n - s) s rfl
          rw [← pxE_t hst m3] at h4 h5 h6
          refine ⟨z', pre _ ⟨m1, fun h => absurd h m2, fun _ => ⟨fun _ => h1, fun h => absurd m3 h⟩⟩, (z0.trans (RDZ.u (by omega))).trans h2, h3, h4, ?_⟩
          by_cases c4 : pxE pxD (f 8) n s ≤ s + 4
          · rw [if_pos c4] at h6 ⊢
            refine ⟨fun h => absurd (show (1 : Nat) = 2 from h) (by decide), fun h => absurd (show (1 : Nat) = 3 from h) (by decide), fun _ => ⟨h6, ?_⟩, fun h => absurd (show 40 ≤ 1 from h) (by decide), fun h => absurd (show 300 ≤ 1 from h) (by decide)⟩
            rw [h5]
            exact pxc_N _ (by omega) (fun j hj => (e4 (s + j) (by omega) (by omega)).2)
          · rw [if_neg c4] at h6 ⊢
            exact ⟨fun h => absurd (show (3 : Nat) = 2 from h) (by decide), fun _ => h6, fun h => absurd (show (3 : Nat) = 1 from h) (by decide), fun h => absurd (show 40 ≤ 3 from h) (by decide), fun h => absurd (show 300 ≤ 3 from h) (by decide)⟩
        · rw [if_neg m3]
          by_cases m4 : pxS (f 8 s) = true
          · rw [if_pos m4]
            have hb := pxS_ix m4
            refine ⟨_, pre _ ⟨m1, fun h => absurd h m2, fun _ => ⟨fun h => absurd h m3, fun _ => ⟨fun _ => rfl, fun h => absurd m4 h⟩⟩⟩, z0.trans (RDZ.u (by omega)), ?_, ?_, fun h => ?_, fun h => ?_, fun h => ?_, fun _ _ => ⟨uZ_s, ?_⟩, fun h => ?_⟩
            · rw [uZ_n (by decide), uZ_n (by decide), uZ_n (by decide), uZ_n (by decide), uZ_s]; exact z13
            · rw [uZ_n (by decide), uZ_n (by decide), uZ_s]
            · have h : ix (f 8 s) = 2 := h
              omega
            · have h : ix (f 8 s) = 3 := h
              omega
            · have h : ix (f 8 s) = 1 := h
              omega
            · rw [uZ_n (by decide), uZ_s, hv0]
              exact pos_nI
            · have h : 300 ≤ ix (f 8 s) := h
              omega
          · rw [if_neg m4]
            refine ⟨_, pre _ ⟨m1, fun h => absurd h m2, fun _ => ⟨fun h => absurd h m3, fun _ => ⟨fun h => absurd h m4, fun _ => rfl⟩⟩⟩, z0, ?_, ?_, fun h => absurd (show (3 : Nat) = 2 from h) (by decide), fun _ => ?_, fun h => absurd (show (3 : Nat) = 1 from h) (by decide), fun h => absurd (show 40 ≤ 3 from h) (by decide), fun h => absurd (show 300 ≤ 3 from h) (by decide)⟩
            · rw [uZ_n (by decide), uZ_n (by decide), uZ_n (by decide), uZ_s]; exact z13
            · rw [uZ_n (by decide), uZ_s]
            · rw [uZ_n (by decide), uZ_n (by decide), uZ_s])
theorem reads_x (d : Nat) {n s : Nat} {z : Nat → Int32} {f : Nat → FA} (hY : pxY (f 9) 0 pxV = true) (hn : n ≤ 400) (hm8 : ∀ j, j < n → ¬ f 8 j = -1) (hs : s ≤ n) (z12 : z 12 = nI n) (z13 : z 13 = nI s) : ∃ z', mcall (d + 3) 269 [vR 0] (LR z f) = some (none, LR z' f) ∧ RDZ z z' ∧ pxRt (f 8) z' (pxT (f 8) n s) := by
  obtain ⟨z', h1, h2⟩ := xd0 d n f hY hn hm8 (n - s) s (by omega) z none z12 z13
  exact ⟨z', mcall_i (mq269 (cu := [])).2.2 rfl h1, h2⟩
