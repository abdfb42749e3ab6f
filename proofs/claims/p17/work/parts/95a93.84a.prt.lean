/-! what hangs together -/
def adjW (c d : Nat) : Prop := d = c + 12 ∨ c = d + 12 ∨ (d = c + 1 ∧ c % 12 < 11) ∨ (c = d + 1 ∧ d % 12 < 11)
theorem adjW_s {c d : Nat} (h : adjW c d) : adjW d c := by
  rcases h with h | h | h | h
  · exact Or.inr (Or.inl h)
  · exact Or.inl h
  · exact Or.inr (Or.inr (Or.inr h))
  · exact Or.inr (Or.inr (Or.inl h))
def clsW (mk : Nat → Bool) (S : Nat → Prop) : Prop := ∀ c d, c < 144 → d < 144 → adjW c d → mk c = mk d → S c → S d
theorem clsW_i {mk : Nat → Bool} {S : Nat → Prop} (h : clsW mk S) {c d : Nat} (hc : c < 144) (hd : d < 144) (ha : adjW c d) (he : mk c = mk d) : S c ↔ S d := ⟨h c d hc hd ha he, h d c hd hc (adjW_s ha) he.symm⟩
/-- labels: of one's own part, and not above oneself -/
def LBI (mk : Nat → Bool) (M : Nat → Nat) : Prop := (∀ c, c < 144 → M c ≤ c) ∧ (∀ S, clsW mk S → ∀ c, c < 144 → (S c ↔ S (M c)))
/-- labels that are the same all over a part -/
def LBZ (mk : Nat → Bool) (M : Nat → Nat) : Prop := LBI mk M ∧ ∀ c d, c < 144 → d < 144 → adjW c d → mk c = mk d → M c = M d
theorem LBZ.idem {mk : Nat → Bool} {M : Nat → Nat} (h : LBZ mk M) {c : Nat} (hc : c < 144) : M (M c) = M c :=
  (h.1.2 (fun x => M x = M c) (fun a b ha hb hab he q => (h.2 a b ha hb hab he).symm.trans q) c hc).mp rfl
theorem LBZ.col {mk : Nat → Bool} {M : Nat → Nat} (h : LBZ mk M) {c : Nat} (hc : c < 144) : mk (M c) = mk c :=
  (h.1.2 (fun x => mk x = mk c) (fun _ _ _ _ _ he q => he.symm.trans q) c hc).mp rfl
theorem updN_s (p : Nat → Nat) (b x : Nat) : updN p b x b = x := if_pos rfl
theorem updN_n {p : Nat → Nat} {b x j : Nat} (h : j ≠ b) : updN p b x j = p j := if_neg h
def smW (M : Nat → Nat) : Nat → Nat
  | 0 => 0
  | n + 1 => smW M n + M n
theorem smW_upd {M : Nat → Nat} {c v : Nat} (hv : v < M c) : ∀ n, smW (updN M c v) n ≤ smW M n ∧ (c < n → smW (updN M c v) n < smW M n) := by
  intro n
  induction n with
  | zero => exact ⟨Nat.le_refl _, fun h => absurd h (Nat.not_lt_zero _)⟩
  | succ n ih =>
    show smW (updN M c v) n + updN M c v n ≤ smW M n + M n ∧ (c < n + 1 → smW (updN M c v) n + updN M c v n < smW M n + M n)
    by_cases e : n = c
    · rw [e] at ih ⊢
      rw [updN_s]
      exact ⟨by omega, fun _ => by omega⟩
    · rw [updN_n e]
      exact ⟨by omega, fun h => by have := ih.2 (by omega); omega⟩
def mnN (a b : Nat) : Nat := if a < b then a else b
theorem mnN_l (a b : Nat) : mnN a b ≤ a := by
  unfold mnN
  split <;> omega
theorem mnN_r (a b : Nat) : mnN a b ≤ b := by
  unfold mnN
  split <;> omega
theorem mnN_o (a b : Nat) : mnN a b = a ∨ mnN a b = b := by
  unfold mnN
  split
  · exact Or.inl rfl
  · exact Or.inr rfl
def mnS (b : Prop) [Decidable b] (x y : Nat) : Nat := if b then mnN x y else x
theorem mnS_t {b : Prop} [Decidable b] {x y : Nat} (h : b) : mnS b x y = mnN x y := if_pos h
theorem mnS_f {b : Prop} [Decidable b] {x y : Nat} (h : ¬ b) : mnS b x y = x := if_neg h
theorem mnS_le (b : Prop) [Decidable b] (x y : Nat) : mnS b x y ≤ x := by
  by_cases h : b
  · rw [mnS_t h]
    exact mnN_l _ _
  · rw [mnS_f h]
    exact Nat.le_refl _
theorem mnS_b {b : Prop} [Decidable b] {x y : Nat} (h : b) : mnS b x y ≤ y := by
  rw [mnS_t h]
  exact mnN_r _ _
theorem mnS_o (b : Prop) [Decidable b] (x y : Nat) : mnS b x y = x ∨ (b ∧ mnS b x y = y) := by
  by_cases h : b
  · rw [mnS_t h]
    rcases mnN_o x y with q | q
    · exact Or.inl q
    · exact Or.inr ⟨h, q⟩
  · exact Or.inl (mnS_f h)
def l1W (mk : Nat → Bool) (M : Nat → Nat) (c : Nat) : Nat := mnS (12 ≤ c ∧ mk c = mk (c - 12)) (M c) (M (c - 12))
def l2W (mk : Nat → Bool) (M : Nat → Nat) (c : Nat) : Nat := mnS (c < 132 ∧ mk c = mk (c + 12)) (l1W mk M c) (M (c + 12))
def l3W (mk : Nat → Bool) (M : Nat → Nat) (c : Nat) : Nat := mnS (0 < c % 12 ∧ mk c = mk (c - 1)) (l2W mk M c) (M (c - 1))
def l4W (mk : Nat → Bool) (M : Nat → Nat) (c : Nat) : Nat := mnS (c % 12 < 11 ∧ mk c = mk (c + 1)) (l3W mk M c) (M (c + 1))
theorem l1W_le (mk : Nat → Bool) (M : Nat → Nat) (c : Nat) : l1W mk M c ≤ M c := mnS_le _ _ _
theorem l2W_le (mk : Nat → Bool) (M : Nat → Nat) (c : Nat) : l2W mk M c ≤ M c := Nat.le_trans (mnS_le _ _ _) (l1W_le mk M c)
theorem l3W_le (mk : Nat → Bool) (M : Nat → Nat) (c : Nat) : l3W mk M c ≤ M c := Nat.le_trans (mnS_le _ _ _) (l2W_le mk M c)
theorem l4W_le (mk : Nat → Bool) (M : Nat → Nat) (c : Nat) : l4W mk M c ≤ M c := Nat.le_trans (mnS_le _ _ _) (l3W_le mk M c)
theorem l4W_o (mk : Nat → Bool) (M : Nat → Nat) {c : Nat} (hc : c < 144) : l4W mk M c = M c ∨ ∃ j, j < 144 ∧ adjW c j ∧ mk c = mk j ∧ l4W mk M c = M j := by
  rcases mnS_o (c % 12 < 11 ∧ mk c = mk (c + 1)) (l3W mk M c) (M (c + 1)) with q4 | ⟨b, q4⟩
  · rcases mnS_o (0 < c % 12 ∧ mk c = mk (c - 1)) (l2W mk M c) (M (c - 1)) with q3 | ⟨b, q3⟩
    · rcases mnS_o (c < 132 ∧ mk c = mk (c + 12)) (l1W mk M c) (M (c + 12)) with q2 | ⟨b, q2⟩
      · rcases mnS_o (12 ≤ c ∧ mk c = mk (c - 12)) (M c) (M (c - 12)) with q1 | ⟨b, q1⟩
        · exact Or.inl (q4.trans (q3.trans (q2.trans q1)))
        · exact Or.inr ⟨c - 12, by omega, Or.inr (Or.inl (by omega)), b.2, q4.trans (q3.trans (q2.trans q1))⟩
      · exact Or.inr ⟨c + 12, by omega, Or.inl rfl, b.2, q4.trans (q3.trans q2)⟩
    · exact Or.inr ⟨c - 1, by omega, Or.inr (Or.inr (Or.inr ⟨by omega, by omega⟩)), b.2, q4.trans q3⟩
  · exact Or.inr ⟨c + 1, by omega, Or.inr (Or.inr (Or.inl ⟨rfl, b.1⟩)), b.2, q4⟩
theorem l4W_ad (mk : Nat → Bool) (M : Nat → Nat) {c j : Nat} (hc : c < 144) (hj : j < 144) (ha : adjW c j) (he : mk c = mk j) : l4W mk M c ≤ M j := by
  rcases ha with h | h | h | h
  · subst h
    exact Nat.le_trans (mnS_le _ _ _) (Nat.le_trans (mnS_le _ _ _) (mnS_b ⟨by omega, he⟩))
  · have e : c - 12 = j := by omega
    have q : l1W mk M c ≤ M (c - 12) := mnS_b ⟨by omega, by rw [e]; exact he⟩
    rw [e] at q
    exact Nat.le_trans (mnS_le _ _ _) (Nat.le_trans (mnS_le _ _ _) (Nat.le_trans (mnS_le _ _ _) q))
  · obtain ⟨h1, h2⟩ := h
    subst h1
    exact mnS_b ⟨h2, he⟩
  · have e : c - 1 = j := by omega
    have q : l3W mk M c ≤ M (c - 1) := mnS_b ⟨by omega, by rw [e]; exact he⟩
    rw [e] at q
    exact Nat.le_trans (mnS_le _ _ _) q
theorem LBI.step {mk : Nat → Bool} {M : Nat → Nat} (h : LBI mk M) {c : Nat} (hc : c < 144) : LBI mk (updN M c (l4W mk M c)) := by
  refine ⟨fun i hi => ?_, fun S hS i hi => ?_⟩
  · by_cases e : i = c
    · rw [e, updN_s]
      exact Nat.le_trans (l4W_le mk M c) (h.1 c hc)
    · rw [updN_n e]
      exact h.1 i hi
  · by_cases e : i = c
    · rw [e, updN_s]
      rcases l4W_o mk M hc with q | ⟨j, hj, ha, he, q⟩
      · rw [q]
        exact h.2 S hS c hc
      · rw [q]
        exact (clsW_i hS hc hj ha he).trans (h.2 S hS j hj)
    · rw [updN_n e]
      exact h.2 S hS i hi
theorem LBZ_of {mk : Nat → Bool} {M : Nat → Nat} (h : LBI mk M) (hs : ∀ i, i < 144 → l4W mk M i = M i) : LBZ mk M := by
  refine ⟨h, fun c d hc hd ha he => ?_⟩
  have a := l4W_ad mk M hc hd ha he
  have b := l4W_ad mk M hd hc (adjW_s ha) he.symm
  rw [hs c hc] at a
  rw [hs d hd] at b
  omega
def edW (c : Nat) : Bool := decide (c < 12 ∨ 132 ≤ c ∨ c % 12 = 0 ∨ c % 12 = 11)
def mxN (a b : Nat) : Nat := if a < b then b else a
def nBl (mk : Nat → Bool) (b : Bool) (M : Nat → Nat) : Nat → Nat
  | 0 => 0
  | c + 1 => if M c = c ∧ mk c = b then nBl mk b M c + 1 else nBl mk b M c
def gBl (mk : Nat → Bool) (b : Bool) (M : Nat → Nat) : Nat → Nat
  | 0 => 0
  | c + 1 => if M c = c ∧ mk c = b then mxN (gBl mk b M c) (ctN M c 144) else gBl mk b M c
def aEd (M : Nat → Nat) (w : Nat) : Nat → Bool
  | 0 => false
  | c + 1 => if M c = w ∧ edW c = true then true else aEd M w c
def iBl (mk : Nat → Bool) (b : Bool) (M : Nat → Nat) : Nat → Nat
  | 0 => 0
  | c + 1 => if (M c = c ∧ mk c = b) ∧ aEd M c 144 = false then iBl mk b M c + 1 else iBl mk b M c
theorem aEd_i (M : Nat → Nat) (w : Nat) : ∀ n, aEd M w n = true ↔ ∃ c, c < n ∧ M c = w ∧ edW c = true := by
  intro n
  induction n with
  | zero => exact ⟨fun q => absurd (show false = true from q) (by decide), fun ⟨c, h, _⟩ => absurd h (Nat.not_lt_zero c)⟩
  | succ n ih =>
    show (if M n = w ∧ edW n = true then true else aEd M w n) = true ↔ _
    by_cases q : M n = w ∧ edW n = true
    · rw [if_pos q]
      exact ⟨fun _ => ⟨n, by omega, q.1, q.2⟩, fun _ => rfl⟩
    · rw [if_neg q, ih]
      refine ⟨fun ⟨c, h, r⟩ => ⟨c, by omega, r⟩, fun ⟨c, h, r⟩ => ⟨c, ?_, r⟩⟩
      by_cases e : c = n
      · rw [e] at r
        exact absurd r q
      · omega
theorem gBl_le (mk : Nat → Bool) (b : Bool) (M : Nat → Nat) : ∀ n, gBl mk b M n ≤ 144 := by
  intro n
  induction n with
  | zero => exact Nat.zero_le _
  | succ n ih =>
    have := ctN_le M n 144
    show (if M n = n ∧ mk n = b then mxN (gBl mk b M n) (ctN M n 144) else gBl mk b M n) ≤ 144
    unfold mxN
    split
    · split <;> omega
    · exact ih
/-- numbers of a mark or none -/
def mkV (mk : Nat → Bool) (i : Nat) : Int32 := if mk i = true then 1 else 0
theorem mkV_e {mk : Nat → Bool} {i j : Nat} : mkV mk i = mkV mk j ↔ mk i = mk j := by
  unfold mkV
  cases hi : mk i <;> cases hj : mk j <;> decide
theorem mkV_1 {mk : Nat → Bool} {i : Nat} (h : mk i = true) : mkV mk i = 1 := if_pos h
theorem mkV_0 {mk : Nat → Bool} {i : Nat} (h : mk i = false) : mkV mk i = 0 := if_neg (by rw [h]; decide)
theorem mkV_p {mk : Nat → Bool} {i : Nat} {P : Prop} [Decidable P] (h : mk i = true ↔ P) : mk1 P = mkV mk i := by
  by_cases q : P
  · rw [mk1_t q, mkV_1 (h.mpr q)]
  · rw [mk1_f q]
    exact (if_neg (fun w => q (h.mp w))).symm
theorem mn2_nI {a b : Nat} (ha : a < 2147483648) (hb : b < 2147483648) : mn2 (nI a) (nI b) = nI (mnN a b) := by
  unfold mn2 mnN
  rw [I_nI ha, I_nI hb]
  by_cases q : a < b
  · rw [if_pos q, if_pos (by omega)]
  · rw [if_neg q, if_neg (by omega)]
/-! the reference -/
set_option maxRecDepth 100000 in
theorem b63_1 (call : QC FA) (o1 : Option PV) (o2 : Option PV) (o3 : Option PV) (L : QH FA) (F : Nat) : rnG call 63 (F + 2) 0 [some (vR 0), o1, o2, o3] [] L = rnG call 63 F 2 [some (vR 0), some (vI 0), o2, o3] [] L := rfl
theorem vc63_0 (d : Nat) (o1 : Option PV) (o2 : Option PV) (o3 : Option PV) (z : Nat → Int32) (f : Nat → FA) (res : Option PV × QH FA) (H : RC (mcall (d + 5)) (mP 63) 2 [some (vR 0), some (vI 0), o2, o3] [] (LR z f) res) : RC (mcall (d + 5)) (mP 63) 0 [some (vR 0), o1, o2, o3] [] (LR z f) res := by
  refine rc_b (i' := 2) (ls' := [some (vR 0), some (vI 0), o2, o3]) (st' := []) (L' := LR z f) 2 (b63_1 (mcall (d + 5)) o1 o2 o3 _) ?_
  exact H
set_option maxRecDepth 100000 in
theorem bc2_63_1 (call : QC FA) (x1 : Int32) (o2 : Option PV) (o3 : Option PV) (L : QH FA) (F : Nat) : rnG call 63 (F + 2) 2 [some (vR 0), some (vI x1), o2, o3] [] L = rnG call 63 F 4 [some (vR 0), some (vI x1), o2, o3] [vI 144, vI x1] L := rfl
set_option maxRecDepth 100000 in
theorem bc2_63_2 (call : QC FA) (x y : Int32) (ls : List (Option PV)) (L : QH FA) (F : Nat) : rnG call 63 (F + 1) 4 ls [vI y, vI x] L = bif pcmp 3 x y then rnG call 63 F 12 ls [] L else rnG call 63 F 5 ls [] L := rfl
set_option maxRecDepth 100000 in
theorem bc2_63_3 (call : QC FA) (x1 : Int32) (o2 : Option PV) (o3 : Option PV) (L : QH FA) (F : Nat) : rnG call 63 (F + 2) 12 [some (vR 0), some (vI x1), o2, o3] [] L = rnG call 63 F 14 [some (vR 0), some (vI 1), o2, o3] [] L := rfl
set_option maxRecDepth 100000 in
theorem bc2_63_4 (call : QC FA) (x1 : Int32) (o2 : Option PV) (o3 : Option PV) (z : Nat → Int32) (f : Nat → FA) (F : Nat) : rnG call 63 (F + 4) 5 [some (vR 0), some (vI x1), o2, o3] [] (LR z f) = rnG call 63 F 9 [some (vR 0), some (vI x1), o2, o3] [vI x1, vI x1, vR 23] (LR z f) := rfl
set_option maxRecDepth 100000 in
theorem bc2_63_5 (call : QC FA) (x y : Int32) (ls : List (Option PV)) (z : Nat → Int32) (f : Nat → FA) (F : Nat) : rnG call 63 (F + 1) 9 ls [vI y, vI x, vR 23] (LR z f) = bif (Nat.beq 0 0 && pin x 144) then rnG call 63 F 10 ls [] (LR z (uA f 23 (upd (f 23) (ix x) y))) else none := rfl
set_option maxRecDepth 100000 in
theorem bc2_63_6 (call : QC FA) (x1 : Int32) (o2 : Option PV) (o3 : Option PV) (L : QH FA) (F : Nat) : rnG call 63 (F + 1) 10 [some (vR 0), some (vI x1), o2, o3] [] L = rnG call 63 F 11 [some (vR 0), some (vI (x1 + 1)), o2, o3] [] L := rfl
set_option maxRecDepth 100000 in
theorem bc2_63_7 (call : QC FA) (x1 : Int32) (o2 : Option PV) (o3 : Option PV) (L : QH FA) (F : Nat) : rnG call 63 (F + 1) 11 [some (vR 0), some (vI x1), o2, o3] [] L = rnG call 63 F 2 [some (vR 0), some (vI x1), o2, o3] [] L := rfl
theorem vcc2_63_2 (d : Nat) (x1 : Int32) (o2 : Option PV) (o3 : Option PV) (z : Nat → Int32) (f : Nat → FA) (res : Option PV × QH FA) (H : ((144 ≤ I x1 → RC (mcall (d + 5)) (mP 63) 14 [some (vR 0), some (vI 1), o2, o3] [] (LR z f) res) ∧ (I x1 < 144 → (pin x1 144 = true ∧ RC (mcall (d + 5)) (mP 63) 2 [some (vR 0), some (vI (x1 + 1)), o2, o3] [] (LR z (uA f 23 (upd (f 23) (ix x1) x1))) res)))) : RC (mcall (d + 5)) (mP 63) 2 [some (vR 0), some (vI x1), o2, o3] [] (LR z f) res := by
  refine rc_b (i' := 4) (ls' := [some (vR 0), some (vI x1), o2, o3]) (st' := [vI 144, vI x1]) (L' := LR z f) 2 (bc2_63_1 (mcall (d + 5)) x1 o2 o3 _) ?_
  refine rc_if (it := 12) (ie := 5) (ls' := [some (vR 0), some (vI x1), o2, o3]) (st' := []) (bc2_63_2 (mcall (d + 5)) x1 144 _ _) (fun q1 => ?_) (fun q1 => ?_)
  · have H := H.1 (cI3t q1 rfl rfl)
    refine rc_b (i' := 14) (ls' := [some (vR 0), some (vI 1), o2, o3]) (st' := []) (L' := LR z f) 2 (bc2_63_3 (mcall (d + 5)) x1 o2 o3 _) ?_
    exact H
  · have H := H.2 (cI3f q1 rfl rfl)
    refine rc_b (i' := 9) (ls' := [some (vR 0), some (vI x1), o2, o3]) (st' := [vI x1, vI x1, vR 23]) (L' := LR z f) 4 (bc2_63_4 (mcall (d + 5)) x1 o2 o3 z f) ?_
    obtain ⟨g1, H⟩ := H
    refine rc_g (i' := 10) (ls' := [some (vR 0), some (vI x1), o2, o3]) (st' := []) (L' := LR z (uA f 23 (upd (f 23) (ix x1) x1))) (bc2_63_5 (mcall (d + 5)) x1 x1 _ z f) (pinG g1) ?_
    refine rc_b (i' := 11) (ls' := [some (vR 0), some (vI (x1 + 1)), o2, o3]) (st' := []) (L' := LR z (uA f 23 (upd (f 23) (ix x1) x1))) 1 (bc2_63_6 (mcall (d + 5)) x1 o2 o3 _) ?_
    refine rc_b (i' := 2) (ls' := [some (vR 0), some (vI (x1 + 1)), o2, o3]) (st' := []) (L' := LR z (uA f 23 (upd (f 23) (ix x1) x1))) 1 (bc2_63_7 (mcall (d + 5)) (x1 + 1) o2 o3 _) ?_
    exact H
set_option maxRecDepth 100000 in
theorem bc14_63_1 (call : QC FA) (x1 : Int32) (o2 : Option PV) (o3 : Option PV) (L : QH FA) (F : Nat) : rnG call 63 (F + 1) 14 [some (vR 0), some (vI x1), o2, o3] [] L = rnG call 63 F 15 [some (vR 0), some (vI x1), o2, o3] [vI x1] L := rfl
set_option maxRecDepth 100000 in
theorem bc14_63_2 (call : QC FA) (x : Int32) (ls : List (Option PV)) (L : QH FA) (F : Nat) : rnG call 63 (F + 1) 15 ls [vI x] L = bif pcmp 0 x 0 then rnG call 63 F 136 ls [] L else rnG call 63 F 16 ls [] L := rfl
set_option maxRecDepth 100000 in
theorem bc14_63_3 (call : QC FA) (ls : List (Option PV)) (L : QH FA) (F : Nat) : rnG call 63 (F + 1) 136 ls [] L = some (none, L) := rfl
set_option maxRecDepth 100000 in
theorem bc14_63_4 (call : QC FA) (x1 : Int32) (o2 : Option PV) (o3 : Option PV) (L : QH FA) (F : Nat) : rnG call 63 (F + 4) 16 [some (vR 0), some (vI x1), o2, o3] [] L = rnG call 63 F 20 [some (vR 0), some (vI 0), some (vI 0), o3] [] L := rfl
theorem vcc14_63_14 (d : Nat) (x1 : Int32) (o2 : Option PV) (o3 : Option PV) (z : Nat → Int32) (f : Nat → FA) (res : Option PV × QH FA) (H : ((x1 = 0 → res = (none, LR z f)) ∧ (¬ x1 = 0 → RC (mcall (d + 5)) (mP 63) 20 [some (vR 0), some (vI 0), some (vI 0), o3] [] (LR z f) res))) : RC (mcall (d + 5)) (mP 63) 14 [some (vR 0), some (vI x1), o2, o3] [] (LR z f) res := by
  refine rc_b (i' := 15) (ls' := [some (vR 0), some (vI x1), o2, o3]) (st' := [vI x1]) (L' := LR z f) 1 (bc14_63_1 (mcall (d + 5)) x1 o2 o3 _) ?_
  refine rc_if (it := 136) (ie := 16) (ls' := [some (vR 0), some (vI x1), o2, o3]) (st' := []) (bc14_63_2 (mcall (d + 5)) x1 _ _) (fun q1 => ?_) (fun q1 => ?_)
  · have H := H.1 (cI0t q1)
    subst H
    exact rc_ret (bc14_63_3 (mcall (d + 5)) _ _)
  · have H := H.2 (cI0f q1)
    refine rc_b (i' := 20) (ls' := [some (vR 0), some (vI 0), some (vI 0), o3]) (st' := []) (L' := LR z f) 4 (bc14_63_4 (mcall (d + 5)) x1 o2 o3 _) ?_
    exact H
set_option maxRecDepth 100000 in
theorem bc20_63_1 (call : QC FA) (x1 : Int32) (x2 : Int32) (o3 : Option PV) (L : QH FA) (F : Nat) : rnG call 63 (F + 2) 20 [some (vR 0), some (vI x1), some (vI x2), o3] [] L = rnG call 63 F 22 [some (vR 0), some (vI x1), some (vI x2), o3] [vI 144, vI x2] L := rfl
set_option maxRecDepth 100000 in
theorem bc20_63_2 (call : QC FA) (x y : Int32) (ls : List (Option PV)) (L : QH FA) (F : Nat) : rnG call 63 (F + 1) 22 ls [vI y, vI x] L = bif pcmp 3 x y then rnG call 63 F 135 ls [] L else rnG call 63 F 23 ls [] L := rfl
set_option maxRecDepth 100000 in
theorem bc20_63_3 (call : QC FA) (x1 : Int32) (x2 : Int32) (o3 : Option PV) (L : QH FA) (F : Nat) : rnG call 63 (F + 1) 135 [some (vR 0), some (vI x1), some (vI x2), o3] [] L = rnG call 63 F 14 [some (vR 0), some (vI x1), some (vI x2), o3] [] L := rfl
set_option maxRecDepth 100000 in
theorem bc20_63_4 (call : QC FA) (x1 : Int32) (x2 : Int32) (o3 : Option PV) (z : Nat → Int32) (f : Nat → FA) (F : Nat) : rnG call 63 (F + 3) 23 [some (vR 0), some (vI x1), some (vI x2), o3] [] (LR z f) = rnG call 63 F 26 [some (vR 0), some (vI x1), some (vI x2), o3] [vI x2, vR 23] (LR z f) := rfl
set_option maxRecDepth 100000 in
theorem bc20_63_5 (call : QC FA) (x : Int32) (ls : List (Option PV)) (z : Nat → Int32) (f : Nat → FA) (F : Nat) : rnG call 63 (F + 1) 26 ls [vI x, vR 23] (LR z f) = bif (Nat.beq 0 0 && pin x 144) then rnG call 63 F 27 ls [vI (f 23 (ix x))] (LR z f) else none := rfl
set_option maxRecDepth 100000 in
theorem bc20_63_6 (call : QC FA) (x1 : Int32) (x2 : Int32) (o3 : Option PV) (s0 : Int32) (L : QH FA) (F : Nat) : rnG call 63 (F + 3) 27 [some (vR 0), some (vI x1), some (vI x2), o3] [vI s0] L = rnG call 63 F 30 [some (vR 0), some (vI x1), some (vI x2), some (vI s0)] [vI 12, vI x2] L := rfl
set_option maxRecDepth 100000 in
theorem bc20_63_7 (call : QC FA) (x y : Int32) (ls : List (Option PV)) (L : QH FA) (F : Nat) : rnG call 63 (F + 1) 30 ls [vI y, vI x] L = bif pcmp 2 x y then rnG call 63 F 50 ls [] L else rnG call 63 F 31 ls [] L := rfl
set_option maxRecDepth 100000 in
theorem bc20_63_8 (call : QC FA) (x1 : Int32) (x2 : Int32) (x3 : Int32) (L : QH FA) (F : Nat) : rnG call 63 (F + 2) 31 [some (vR 0), some (vI x1), some (vI x2), some (vI x3)] [] L = rnG call 63 F 33 [some (vR 0), some (vI x1), some (vI x2), some (vI x3)] [vI x2, vR 0] L := rfl
set_option maxRecDepth 100000 in
theorem bc20_63_9 (call : QC FA) (a0 : Int32) (ls : List (Option PV)) (z : Nat → Int32) (f : Nat → FA) (F : Nat) : rnG call 63 (F + 1) 33 ls [vI a0, vR 0] (LR z f) = cbd (call 49 [vR 0, vI a0] (LR z f)) (fun r L' => rnG call 63 F 34 ls (r.toList ++ []) L') := pcY (ih := rnG call 63 F) (call := call) (a := 49) (b := 1) (v := 12) (t := 34) (x := 0) (ls := ls) (As := [vI a0]) (st' := []) (L := LR z f) rfl rfl rfl
set_option maxRecDepth 100000 in
theorem bc20_63_10 (call : QC FA) (x1 : Int32) (x2 : Int32) (x3 : Int32) (s0 : Int32) (L : QH FA) (F : Nat) : rnG call 63 (F + 4) 34 [some (vR 0), some (vI x1), some (vI x2), some (vI x3)] [vI s0] L = rnG call 63 F 38 [some (vR 0), some (vI x1), some (vI x2), some (vI x3)] [vI (x2 - 12), vR 0, vI s0] L := rfl
set_option maxRecDepth 100000 in
theorem bc20_63_11 (call : QC FA) (a0 : Int32) (s0 : Int32) (ls : List (Option PV)) (z : Nat → Int32) (f : Nat → FA) (F : Nat) : rnG call 63 (F + 1) 38 ls [vI a0, vR 0, vI s0] (LR z f) = cbd (call 49 [vR 0, vI a0] (LR z f)) (fun r L' => rnG call 63 F 39 ls (r.toList ++ [vI s0]) L') := pcY (ih := rnG call 63 F) (call := call) (a := 49) (b := 1) (v := 12) (t := 39) (x := 0) (ls := ls) (As := [vI a0]) (st' := [vI s0]) (L := LR z f) rfl rfl rfl
set_option maxRecDepth 100000 in
theorem bc20_63_12 (call : QC FA) (x y : Int32) (ls : List (Option PV)) (L : QH FA) (F : Nat) : rnG call 63 (F + 1) 39 ls [vI y, vI x] L = bif pcmp 1 x y then rnG call 63 F 50 ls [] L else rnG call 63 F 40 ls [] L := rfl
set_option maxRecDepth 100000 in
theorem bc20_63_13 (call : QC FA) (x1 : Int32) (x2 : Int32) (x3 : Int32) (z : Nat → Int32) (f : Nat → FA) (F : Nat) : rnG call 63 (F + 7) 40 [some (vR 0), some (vI x1), some (vI x2), some (vI x3)] [] (LR z f) = rnG call 63 F 47 [some (vR 0), some (vI x1), some (vI x2), some (vI x3)] [vI (x2 - 12), vR 23, vI x3, vR 0] (LR z f) := rfl
set_option maxRecDepth 100000 in
theorem bc20_63_14 (call : QC FA) (x : Int32) (s0 : Int32) (ls : List (Option PV)) (z : Nat → Int32) (f : Nat → FA) (F : Nat) : rnG call 63 (F + 1) 47 ls [vI x, vR 23, vI s0, vR 0] (LR z f) = bif (Nat.beq 0 0 && pin x 144) then rnG call 63 F 48 ls [vI (f 23 (ix x)), vI s0, vR 0] (LR z f) else none := rfl
set_option maxRecDepth 100000 in
theorem bc20_63_15 (call : QC FA) (a0 : Int32) (a1 : Int32) (ls : List (Option PV)) (z : Nat → Int32) (f : Nat → FA) (F : Nat) : rnG call 63 (F + 1) 48 ls [vI a1, vI a0, vR 0] (LR z f) = cbd (call 62 [vR 0, vI a0, vI a1] (LR z f)) (fun r L' => rnG call 63 F 49 ls (r.toList ++ []) L') := pcY (ih := rnG call 63 F) (call := call) (a := 62) (b := 2) (v := 12) (t := 49) (x := 0) (ls := ls) (As := [vI a0, vI a1]) (st' := []) (L := LR z f) rfl rfl rfl
set_option maxRecDepth 100000 in
theorem bc20_63_16 (call : QC FA) (x1 : Int32) (x2 : Int32) (x3 : Int32) (s0 : Int32) (L : QH FA) (F : Nat) : rnG call 63 (F + 1) 49 [some (vR 0), some (vI x1), some (vI x2), some (vI x3)] [vI s0] L = rnG call 63 F 50 [some (vR 0), some (vI x1), some (vI x2), some (vI s0)] [] L := rfl
theorem vcc20_63_20 (d : Nat) (x1 : Int32) (x2 : Int32) (o3 : Option PV) (z : Nat → Int32) (f : Nat → FA) (res : Option PV × QH FA) (H : ((144 ≤ I x2 → RC (mcall (d + 5)) (mP 63) 14 [some (vR 0), some (vI x1), some (vI x2), o3] [] (LR z f) res) ∧ (I x2 < 144 → (pin x2 144 = true ∧ ((I x2 < 12 → RC (mcall (d + 5)) (mP 63) 50 [some (vR 0), some (vI x1), some (vI x2), some (vI (f 23 (ix x2)))] [] (LR z f) res) ∧ (12 ≤ I x2 → (∃ (r1 : Int32) (z1 : Nat → Int32) (f1 : Nat → FA), (mcall (d + 5)) 49 [vR 0, vI x2] (LR z f) = some (some (vI r1), LR z1 f1) ∧ (∃ (r2 : Int32) (z2 : Nat → Int32) (f2 : Nat → FA), (mcall (d + 5)) 49 [vR 0, vI (x2 - 12)] (LR z1 f1) = some (some (vI r2), LR z2 f2) ∧ ((¬ r1 = r2 → RC (mcall (d + 5)) (mP 63) 50 [some (vR 0), some (vI x1), some (vI x2), some (vI (f 23 (ix x2)))] [] (LR z2 f2) res) ∧ (r1 = r2 → (pin (x2 - 12) 144 = true ∧ (∃ (r3 : Int32) (z3 : Nat → Int32) (f3 : Nat → FA), (mcall (d + 5)) 62 [vR 0, vI (f 23 (ix x2)), vI (f2 23 (ix (x2 - 12)))] (LR z2 f2) = some (some (vI r3), LR z3 f3) ∧ RC (mcall (d + 5)) (mP 63) 50 [some (vR 0), some (vI x1), some (vI x2), some (vI r3)] [] (LR z3 f3) res)))))))))))) : RC (mcall (d + 5)) (mP 63) 20 [some (vR 0), some (vI x1), some (vI x2), o3] [] (LR z f) res := by
  refine rc_b (i' := 22) (ls' := [some (vR 0), some (vI x1), some (vI x2), o3]) (st' := [vI 144, vI x2]) (L' := LR z f) 2 (bc20_63_1 (mcall (d + 5)) x1 x2 o3 _) ?_
  refine rc_if (it := 135) (ie := 23) (ls' := [some (vR 0), some (vI x1), some (vI x2), o3]) (st' := []) (bc20_63_2 (mcall (d + 5)) x2 144 _ _) (fun q1 => ?_) (fun q1 => ?_)
  · have H := H.1 (cI3t q1 rfl rfl)
    refine rc_b (i' := 14) (ls' := [some (vR 0), some (vI x1), some (vI x2), o3]) (st' := []) (L' := LR z f) 1 (bc20_63_3 (mcall (d + 5)) x1 x2 o3 _) ?_
    exact H
  · have H := H.2 (cI3f q1 rfl rfl)
    refine rc_b (i' := 26) (ls' := [some (vR 0), some (vI x1), some (vI x2), o3]) (st' := [vI x2, vR 23]) (L' := LR z f) 3 (bc20_63_4 (mcall (d + 5)) x1 x2 o3 z f) ?_
    obtain ⟨g1, H⟩ := H
    refine rc_g (i' := 27) (ls' := [some (vR 0), some (vI x1), some (vI x2), o3]) (st' := [vI (f 23 (ix x2))]) (L' := LR z f) (bc20_63_5 (mcall (d + 5)) x2 _ z f) (pinG g1) ?_
    refine rc_b (i' := 30) (ls' := [some (vR 0), some (vI x1), some (vI x2), some (vI (f 23 (ix x2)))]) (st' := [vI 12, vI x2]) (L' := LR z f) 3 (bc20_63_6 (mcall (d + 5)) x1 x2 o3 (f 23 (ix x2)) _) ?_
    refine rc_if (it := 50) (ie := 31) (ls' := [some (vR 0), some (vI x1), some (vI x2), some (vI (f 23 (ix x2)))]) (st' := []) (bc20_63_7 (mcall (d + 5)) x2 12 _ _) (fun q2 => ?_) (fun q2 => ?_)
    · have H := H.1 (cI2t q2 rfl rfl)
      exact H
    · have H := H.2 (cI2f q2 rfl rfl)
      refine rc_b (i' := 33) (ls' := [some (vR 0), some (vI x1), some (vI x2), some (vI (f 23 (ix x2)))]) (st' := [vI x2, vR 0]) (L' := LR z f) 2 (bc20_63_8 (mcall (d + 5)) x1 x2 (f 23 (ix x2)) _) ?_
      obtain ⟨r1, z1, f1, hc, H⟩ := H
      refine rc_call (t := 34) (ls' := [some (vR 0), some (vI x1), some (vI x2), some (vI (f 23 (ix x2)))]) (st' := []) (bc20_63_9 (mcall (d + 5)) x2 _ z f) hc ?_
      show RC (mcall (d + 5)) (mP 63) 34 [some (vR 0), some (vI x1), some (vI x2), some (vI (f 23 (ix x2)))] [vI r1] (LR z1 f1) res
      refine rc_b (i' := 38) (ls' := [some (vR 0), some (vI x1), some (vI x2), some (vI (f 23 (ix x2)))]) (st' := [vI (x2 - 12), vR 0, vI r1]) (L' := LR z1 f1) 4 (bc20_63_10 (mcall (d + 5)) x1 x2 (f 23 (ix x2)) r1 _) ?_
      obtain ⟨r2, z2, f2, hc, H⟩ := H
      refine rc_call (t := 39) (ls' := [some (vR 0), some (vI x1), some (vI x2), some (vI (f 23 (ix x2)))]) (st' := [vI r1]) (bc20_63_11 (mcall (d + 5)) (x2 - 12) r1 _ z1 f1) hc ?_
      show RC (mcall (d + 5)) (mP 63) 39 [some (vR 0), some (vI x1), some (vI x2), some (vI (f 23 (ix x2)))] [vI r2, vI r1] (LR z2 f2) res
      refine rc_if (it := 50) (ie := 40) (ls' := [some (vR 0), some (vI x1), some (vI x2), some (vI (f 23 (ix x2)))]) (st' := []) (bc20_63_12 (mcall (d + 5)) r1 r2 _ _) (fun q3 => ?_) (fun q3 => ?_)
      · have H := H.1 (cI1t q3)
        exact H
      · have H := H.2 (cI1f q3)
        refine rc_b (i' := 47) (ls' := [some (vR 0), some (vI x1), some (vI x2), some (vI (f 23 (ix x2)))]) (st' := [vI (x2 - 12), vR 23, vI (f 23 (ix x2)), vR 0]) (L' := LR z2 f2) 7 (bc20_63_13 (mcall (d + 5)) x1 x2 (f 23 (ix x2)) z2 f2) ?_
        obtain ⟨g1, H⟩ := H
        refine rc_g (i' := 48) (ls' := [some (vR 0), some (vI x1), some (vI x2), some (vI (f 23 (ix x2)))]) (st' := [vI (f2 23 (ix (x2 - 12))), vI (f 23 (ix x2)), vR 0]) (L' := LR z2 f2) (bc20_63_14 (mcall (d + 5)) (x2 - 12) (f 23 (ix x2)) _ z2 f2) (pinG g1) ?_
        obtain ⟨r3, z3, f3, hc, H⟩ := H
        refine rc_call (t := 49) (ls' := [some (vR 0), some (vI x1), some (vI x2), some (vI (f 23 (ix x2)))]) (st' := []) (bc20_63_15 (mcall (d + 5)) (f 23 (ix x2)) (f2 23 (ix (x2 - 12))) _ z2 f2) hc ?_
        show RC (mcall (d + 5)) (mP 63) 49 [some (vR 0), some (vI x1), some (vI x2), some (vI (f 23 (ix x2)))] [vI r3] (LR z3 f3) res
        refine rc_b (i' := 50) (ls' := [some (vR 0), some (vI x1), some (vI x2), some (vI r3)]) (st' := []) (L' := LR z3 f3) 1 (bc20_63_16 (mcall (d + 5)) x1 x2 (f 23 (ix x2)) r3 _) ?_
        exact H
set_option maxRecDepth 100000 in
theorem bc50_63_1 (call : QC FA) (x1 : Int32) (x2 : Int32) (x3 : Int32) (L : QH FA) (F : Nat) : rnG call 63 (F + 2) 50 [some (vR 0), some (vI x1), some (vI x2), some (vI x3)] [] L = rnG call 63 F 52 [some (vR 0), some (vI x1), some (vI x2), some (vI x3)] [vI 132, vI x2] L := rfl
set_option maxRecDepth 100000 in
theorem bc50_63_2 (call : QC FA) (x y : Int32) (ls : List (Option PV)) (L : QH FA) (F : Nat) : rnG call 63 (F + 1) 52 ls [vI y, vI x] L = bif pcmp 3 x y then rnG call 63 F 72 ls [] L else rnG call 63 F 53 ls [] L := rfl
set_option maxRecDepth 100000 in
theorem bc50_63_3 (call : QC FA) (x1 : Int32) (x2 : Int32) (x3 : Int32) (L : QH FA) (F : Nat) : rnG call 63 (F + 2) 53 [some (vR 0), some (vI x1), some (vI x2), some (vI x3)] [] L = rnG call 63 F 55 [some (vR 0), some (vI x1), some (vI x2), some (vI x3)] [vI x2, vR 0] L := rfl
set_option maxRecDepth 100000 in
theorem bc50_63_4 (call : QC FA) (a0 : Int32) (ls : List (Option PV)) (z : Nat → Int32) (f : Nat → FA) (F : Nat) : rnG call 63 (F + 1) 55 ls [vI a0, vR 0] (LR z f) = cbd (call 49 [vR 0, vI a0] (LR z f)) (fun r L' => rnG call 63 F 56 ls (r.toList ++ []) L') := pcY (ih := rnG call 63 F) (call := call) (a := 49) (b := 1) (v := 12) (t := 56) (x := 0) (ls := ls) (As := [vI a0]) (st' := []) (L := LR z f) rfl rfl rfl
set_option maxRecDepth 100000 in
theorem bc50_63_5 (call : QC FA) (x1 : Int32) (x2 : Int32) (x3 : Int32) (s0 : Int32) (L : QH FA) (F : Nat) : rnG call 63 (F + 4) 56 [some (vR 0), some (vI x1), some (vI x2), some (vI x3)] [vI s0] L = rnG call 63 F 60 [some (vR 0), some (vI x1), some (vI x2), some (vI x3)] [vI (x2 + 12), vR 0, vI s0] L := rfl
set_option maxRecDepth 100000 in
theorem bc50_63_6 (call : QC FA) (a0 : Int32) (s0 : Int32) (ls : List (Option PV)) (z : Nat → Int32) (f : Nat → FA) (F : Nat) : rnG call 63 (F + 1) 60 ls [vI a0, vR 0, vI s0] (LR z f) = cbd (call 49 [vR 0, vI a0] (LR z f)) (fun r L' => rnG call 63 F 61 ls (r.toList ++ [vI s0]) L') := pcY (ih := rnG call 63 F) (call := call) (a := 49) (b := 1) (v := 12) (t := 61) (x := 0) (ls := ls) (As := [vI a0]) (st' := [vI s0]) (L := LR z f) rfl rfl rfl
set_option maxRecDepth 100000 in
theorem bc50_63_7 (call : QC FA) (x y : Int32) (ls : List (Option PV)) (L : QH FA) (F : Nat) : rnG call 63 (F + 1) 61 ls [vI y, vI x] L = bif pcmp 1 x y then rnG call 63 F 72 ls [] L else rnG call 63 F 62 ls [] L := rfl
set_option maxRecDepth 100000 in
theorem bc50_63_8 (call : QC FA) (x1 : Int32) (x2 : Int32) (x3 : Int32) (z : Nat → Int32) (f : Nat → FA) (F : Nat) : rnG call 63 (F + 7) 62 [some (vR 0), some (vI x1), some (vI x2), some (vI x3)] [] (LR z f) = rnG call 63 F 69 [some (vR 0), some (vI x1), some (vI x2), some (vI x3)] [vI (x2 + 12), vR 23, vI x3, vR 0] (LR z f) := rfl
set_option maxRecDepth 100000 in
theorem bc50_63_9 (call : QC FA) (x : Int32) (s0 : Int32) (ls : List (Option PV)) (z : Nat → Int32) (f : Nat → FA) (F : Nat) : rnG call 63 (F + 1) 69 ls [vI x, vR 23, vI s0, vR 0] (LR z f) = bif (Nat.beq 0 0 && pin x 144) then rnG call 63 F 70 ls [vI (f 23 (ix x)), vI s0, vR 0] (LR z f) else none := rfl
set_option maxRecDepth 100000 in
theorem bc50_63_10 (call : QC FA) (a0 : Int32) (a1 : Int32) (ls : List (Option PV)) (z : Nat → Int32) (f : Nat → FA) (F : Nat) : rnG call 63 (F + 1) 70 ls [vI a1, vI a0, vR 0] (LR z f) = cbd (call 62 [vR 0, vI a0, vI a1] (LR z f)) (fun r L' => rnG call 63 F 71 ls (r.toList ++ []) L') := pcY (ih := rnG call 63 F) (call := call) (a := 62) (b := 2) (v := 12) (t := 71) (x := 0) (ls := ls) (As := [vI a0, vI a1]) (st' := []) (L := LR z f) rfl rfl rfl
set_option maxRecDepth 100000 in
theorem bc50_63_11 (call : QC FA) (x1 : Int32) (x2 : Int32) (x3 : Int32) (s0 : Int32) (L : QH FA) (F : Nat) : rnG call 63 (F + 1) 71 [some (vR 0), some (vI x1), some (vI x2), some (vI x3)] [vI s0] L = rnG call 63 F 72 [some (vR 0), some (vI x1), some (vI x2), some (vI s0)] [] L := rfl
theorem vcc50_63_50 (d : Nat) (x1 : Int32) (x2 : Int32) (x3 : Int32) (z : Nat → Int32) (f : Nat → FA) (res : Option PV × QH FA) (H : ((132 ≤ I x2 → RC (mcall (d + 5)) (mP 63) 72 [some (vR 0), some (vI x1), some (vI x2), some (vI x3)] [] (LR z f) res) ∧ (I x2 < 132 → (∃ (r1 : Int32) (z1 : Nat → Int32) (f1 : Nat → FA), (mcall (d + 5)) 49 [vR 0, vI x2] (LR z f) = some (some (vI r1), LR z1 f1) ∧ (∃ (r2 : Int32) (z2 : Nat → Int32) (f2 : Nat → FA), (mcall (d + 5)) 49 [vR 0, vI (x2 + 12)] (LR z1 f1) = some (some (vI r2), LR z2 f2) ∧ ((¬ r1 = r2 → RC (mcall (d + 5)) (mP 63) 72 [some (vR 0), some (vI x1), some (vI x2), some (vI x3)] [] (LR z2 f2) res) ∧ (r1 = r2 → (pin (x2 + 12) 144 = true ∧ (∃ (r3 : Int32) (z3 : Nat → Int32) (f3 : Nat → FA), (mcall (d + 5)) 62 [vR 0, vI x3, vI (f2 23 (ix (x2 + 12)))] (LR z2 f2) = some (some (vI r3), LR z3 f3) ∧ RC (mcall (d + 5)) (mP 63) 72 [some (vR 0), some (vI x1), some (vI x2), some (vI r3)] [] (LR z3 f3) res))))))))) : RC (mcall (d + 5)) (mP 63) 50 [some (vR 0), some (vI x1), some (vI x2), some (vI x3)] [] (LR z f) res := by
  refine rc_b (i' := 52) (ls' := [some (vR 0), some (vI x1), some (vI x2), some (vI x3)]) (st' := [vI 132, vI x2]) (L' := LR z f) 2 (bc50_63_1 (mcall (d + 5)) x1 x2 x3 _) ?_
  refine rc_if (it := 72) (ie := 53) (ls' := [some (vR 0), some (vI x1), some (vI x2), some (vI x3)]) (st' := []) (bc50_63_2 (mcall (d + 5)) x2 132 _ _) (fun q1 => ?_) (fun q1 => ?_)
  · have H := H.1 (cI3t q1 rfl rfl)
    exact H
  · have H := H.2 (cI3f q1 rfl rfl)
    refine rc_b (i' := 55) (ls' := [some (vR 0), some (vI x1), some (vI x2), some (vI x3)]) (st' := [vI x2, vR 0]) (L' := LR z f) 2 (bc50_63_3 (mcall (d + 5)) x1 x2 x3 _) ?_
    obtain ⟨r1, z1, f1, hc, H⟩ := H
    refine rc_call (t := 56) (ls' := [some (vR 0), some (vI x1), some (vI x2), some (vI x3)]) (st' := []) (bc50_63_4 (mcall (d + 5)) x2 _ z f) hc ?_
    show RC (mcall (d + 5)) (mP 63) 56 [some (vR 0), some (vI x1), some (vI x2), some (vI x3)] [vI r1] (LR z1 f1) res
    refine rc_b (i' := 60) (ls' := [some (vR 0), some (vI x1), some (vI x2), some (vI x3)]) (st' := [vI (x2 + 12), vR 0, vI r1]) (L' := LR z1 f1) 4 (bc50_63_5 (mcall (d + 5)) x1 x2 x3 r1 _) ?_
    obtain ⟨r2, z2, f2, hc, H⟩ := H
    refine rc_call (t := 61) (ls' := [some (vR 0), some (vI x1), some (vI x2), some (vI x3)]) (st' := [vI r1]) (bc50_63_6 (mcall (d + 5)) (x2 + 12) r1 _ z1 f1) hc ?_
    show RC (mcall (d + 5)) (mP 63) 61 [some (vR 0), some (vI x1), some (vI x2), some (vI x3)] [vI r2, vI r1] (LR z2 f2) res
    refine rc_if (it := 72) (ie := 62) (ls' := [some (vR 0), some (vI x1), some (vI x2), some (vI x3)]) (st' := []) (bc50_63_7 (mcall (d + 5)) r1 r2 _ _) (fun q2 => ?_) (fun q2 => ?_)
    · have H := H.1 (cI1t q2)
      exact H
    · have H := H.2 (cI1f q2)
      refine rc_b (i' := 69) (ls' := [some (vR 0), some (vI x1), some (vI x2), some (vI x3)]) (st' := [vI (x2 + 12), vR 23, vI x3, vR 0]) (L' := LR z2 f2) 7 (bc50_63_8 (mcall (d + 5)) x1 x2 x3 z2 f2) ?_
      obtain ⟨g1, H⟩ := H
      refine rc_g (i' := 70) (ls' := [some (vR 0), some (vI x1), some (vI x2), some (vI x3)]) (st' := [vI (f2 23 (ix (x2 + 12))), vI x3, vR 0]) (L' := LR z2 f2) (bc50_63_9 (mcall (d + 5)) (x2 + 12) x3 _ z2 f2) (pinG g1) ?_
      obtain ⟨r3, z3, f3, hc, H⟩ := H
      refine rc_call (t := 71) (ls' := [some (vR 0), some (vI x1), some (vI x2), some (vI x3)]) (st' := []) (bc50_63_10 (mcall (d + 5)) x3 (f2 23 (ix (x2 + 12))) _ z2 f2) hc ?_
      show RC (mcall (d + 5)) (mP 63) 71 [some (vR 0), some (vI x1), some (vI x2), some (vI x3)] [vI r3] (LR z3 f3) res
      refine rc_b (i' := 72) (ls' := [some (vR 0), some (vI x1), some (vI x2), some (vI r3)]) (st' := []) (L' := LR z3 f3) 1 (bc50_63_11 (mcall (d + 5)) x1 x2 x3 r3 _) ?_
      exact H
set_option maxRecDepth 100000 in
theorem bc72_63_1 (call : QC FA) (x1 : Int32) (x2 : Int32) (x3 : Int32) (L : QH FA) (F : Nat) : rnG call 63 (F + 2) 72 [some (vR 0), some (vI x1), some (vI x2), some (vI x3)] [] L = rnG call 63 F 74 [some (vR 0), some (vI x1), some (vI x2), some (vI x3)] [vI 12, vI x2] L := rfl
set_option maxRecDepth 100000 in
theorem bc72_63_2 (call : QC FA) (x y : Int32) (ls : List (Option PV)) (L : QH FA) (F : Nat) : rnG call 63 (F + 1) 74 ls [vI y, vI x] L = bif pcmp 1 y 0 then rnG call 63 F 75 ls [vI (x - x / y * y)] L else none := rfl
set_option maxRecDepth 100000 in
theorem bc72_63_3 (call : QC FA) (x : Int32) (ls : List (Option PV)) (L : QH FA) (F : Nat) : rnG call 63 (F + 1) 75 ls [vI x] L = bif pcmp 5 x 0 then rnG call 63 F 95 ls [] L else rnG call 63 F 76 ls [] L := rfl
set_option maxRecDepth 100000 in
theorem bc72_63_4 (call : QC FA) (x1 : Int32) (x2 : Int32) (x3 : Int32) (L : QH FA) (F : Nat) : rnG call 63 (F + 2) 76 [some (vR 0), some (vI x1), some (vI x2), some (vI x3)] [] L = rnG call 63 F 78 [some (vR 0), some (vI x1), some (vI x2), some (vI x3)] [vI x2, vR 0] L := rfl
set_option maxRecDepth 100000 in
theorem bc72_63_5 (call : QC FA) (a0 : Int32) (ls : List (Option PV)) (z : Nat → Int32) (f : Nat → FA) (F : Nat) : rnG call 63 (F + 1) 78 ls [vI a0, vR 0] (LR z f) = cbd (call 49 [vR 0, vI a0] (LR z f)) (fun r L' => rnG call 63 F 79 ls (r.toList ++ []) L') := pcY (ih := rnG call 63 F) (call := call) (a := 49) (b := 1) (v := 12) (t := 79) (x := 0) (ls := ls) (As := [vI a0]) (st' := []) (L := LR z f) rfl rfl rfl
set_option maxRecDepth 100000 in
theorem bc72_63_6 (call : QC FA) (x1 : Int32) (x2 : Int32) (x3 : Int32) (s0 : Int32) (L : QH FA) (F : Nat) : rnG call 63 (F + 4) 79 [some (vR 0), some (vI x1), some (vI x2), some (vI x3)] [vI s0] L = rnG call 63 F 83 [some (vR 0), some (vI x1), some (vI x2), some (vI x3)] [vI (x2 - 1), vR 0, vI s0] L := rfl
set_option maxRecDepth 100000 in
theorem bc72_63_7 (call : QC FA) (a0 : Int32) (s0 : Int32) (ls : List (Option PV)) (z : Nat → Int32) (f : Nat → FA) (F : Nat) : rnG call 63 (F + 1) 83 ls [vI a0, vR 0, vI s0] (LR z f) = cbd (call 49 [vR 0, vI a0] (LR z f)) (fun r L' => rnG call 63 F 84 ls (r.toList ++ [vI s0]) L') := pcY (ih := rnG call 63 F) (call := call) (a := 49) (b := 1) (v := 12) (t := 84) (x := 0) (ls := ls) (As := [vI a0]) (st' := [vI s0]) (L := LR z f) rfl rfl rfl
set_option maxRecDepth 100000 in
theorem bc72_63_8 (call : QC FA) (x y : Int32) (ls : List (Option PV)) (L : QH FA) (F : Nat) : rnG call 63 (F + 1) 84 ls [vI y, vI x] L = bif pcmp 1 x y then rnG call 63 F 95 ls [] L else rnG call 63 F 85 ls [] L := rfl
set_option maxRecDepth 100000 in
theorem bc72_63_9 (call : QC FA) (x1 : Int32) (x2 : Int32) (x3 : Int32) (z : Nat → Int32) (f : Nat → FA) (F : Nat) : rnG call 63 (F + 7) 85 [some (vR 0), some (vI x1), some (vI x2), some (vI x3)] [] (LR z f) = rnG call 63 F 92 [some (vR 0), some (vI x1), some (vI x2), some (vI x3)] [vI (x2 - 1), vR 23, vI x3, vR 0] (LR z f) := rfl
set_option maxRecDepth 100000 in
theorem bc72_63_10 (call : QC FA) (x : Int32) (s0 : Int32) (ls : List (Option PV)) (z : Nat → Int32) (f : Nat → FA) (F : Nat) : rnG call 63 (F + 1) 92 ls [vI x, vR 23, vI s0, vR 0] (LR z f) = bif (Nat.beq 0 0 && pin x 144) then rnG call 63 F 93 ls [vI (f 23 (ix x)), vI s0, vR 0] (LR z f) else none := rfl
set_option maxRecDepth 100000 in
theorem bc72_63_11 (call : QC FA) (a0 : Int32) (a1 : Int32) (ls : List (Option PV)) (z : Nat → Int32) (f : Nat → FA) (F : Nat) : rnG call 63 (F + 1) 93 ls [vI a1, vI a0, vR 0] (LR z f) = cbd (call 62 [vR 0, vI a0, vI a1] (LR z f)) (fun r L' => rnG call 63 F 94 ls (r.toList ++ []) L') := pcY (ih := rnG call 63 F) (call := call) (a := 62) (b := 2) (v := 12) (t := 94) (x := 0) (ls := ls) (As := [vI a0, vI a1]) (st' := []) (L := LR z f) rfl rfl rfl
set_option maxRecDepth 100000 in
theorem bc72_63_12 (call : QC FA) (x1 : Int32) (x2 : Int32) (x3 : Int32) (s0 : Int32) (L : QH FA) (F : Nat) : rnG call 63 (F + 1) 94 [some (vR 0), some (vI x1), some (vI x2), some (vI x3)] [vI s0] L = rnG call 63 F 95 [some (vR 0), some (vI x1), some (vI x2), some (vI s0)] [] L := rfl
theorem vcc72_63_72 (d : Nat) (x1 : Int32) (x2 : Int32) (x3 : Int32) (z : Nat → Int32) (f : Nat → FA) (res : Option PV × QH FA) (H : (¬ (12 : Int32) = 0 ∧ ((I (x2 - x2 / 12 * 12) ≤ 0 → RC (mcall (d + 5)) (mP 63) 95 [some (vR 0), some (vI x1), some (vI x2), some (vI x3)] [] (LR z f) res) ∧ (0 < I (x2 - x2 / 12 * 12) → (∃ (r1 : Int32) (z1 : Nat → Int32) (f1 : Nat → FA), (mcall (d + 5)) 49 [vR 0, vI x2] (LR z f) = some (some (vI r1), LR z1 f1) ∧ (∃ (r2 : Int32) (z2 : Nat → Int32) (f2 : Nat → FA), (mcall (d + 5)) 49 [vR 0, vI (x2 - 1)] (LR z1 f1) = some (some (vI r2), LR z2 f2) ∧ ((¬ r1 = r2 → RC (mcall (d + 5)) (mP 63) 95 [some (vR 0), some (vI x1), some (vI x2), some (vI x3)] [] (LR z2 f2) res) ∧ (r1 = r2 → (pin (x2 - 1) 144 = true ∧ (∃ (r3 : Int32) (z3 : Nat → Int32) (f3 : Nat → FA), (mcall (d + 5)) 62 [vR 0, vI x3, vI (f2 23 (ix (x2 - 1)))] (LR z2 f2) = some (some (vI r3), LR z3 f3) ∧ RC (mcall (d + 5)) (mP 63) 95 [some (vR 0), some (vI x1), some (vI x2), some (vI r3)] [] (LR z3 f3) res)))))))))) : RC (mcall (d + 5)) (mP 63) 72 [some (vR 0), some (vI x1), some (vI x2), some (vI x3)] [] (LR z f) res := by
  refine rc_b (i' := 74) (ls' := [some (vR 0), some (vI x1), some (vI x2), some (vI x3)]) (st' := [vI 12, vI x2]) (L' := LR z f) 2 (bc72_63_1 (mcall (d + 5)) x1 x2 x3 _) ?_
  obtain ⟨g1, H⟩ := H
  refine rc_g (i' := 75) (ls' := [some (vR 0), some (vI x1), some (vI x2), some (vI x3)]) (st' := [vI (x2 - x2 / 12 * 12)]) (L' := LR z f) (bc72_63_2 (mcall (d + 5)) x2 12 _ _) (cmp_ne.trans (decide_eq_true g1)) ?_
  refine rc_if (it := 95) (ie := 76) (ls' := [some (vR 0), some (vI x1), some (vI x2), some (vI x3)]) (st' := []) (bc72_63_3 (mcall (d + 5)) (x2 - x2 / 12 * 12) _ _) (fun q1 => ?_) (fun q1 => ?_)
  · have H := H.1 (cI5t q1 rfl rfl)
    exact H
  · have H := H.2 (cI5f q1 rfl rfl)
    refine rc_b (i' := 78) (ls' := [some (vR 0), some (vI x1), some (vI x2), some (vI x3)]) (st' := [vI x2, vR 0]) (L' := LR z f) 2 (bc72_63_4 (mcall (d + 5)) x1 x2 x3 _) ?_
    obtain ⟨r1, z1, f1, hc, H⟩ := H
    refine rc_call (t := 79) (ls' := [some (vR 0), some (vI x1), some (vI x2), some (vI x3)]) (st' := []) (bc72_63_5 (mcall (d + 5)) x2 _ z f) hc ?_
    show RC (mcall (d + 5)) (mP 63) 79 [some (vR 0), some (vI x1), some (vI x2), some (vI x3)] [vI r1] (LR z1 f1) res
    refine rc_b (i' := 83) (ls' := [some (vR 0), some (vI x1), some (vI x2), some (vI x3)]) (st' := [vI (x2 - 1), vR 0, vI r1]) (L' := LR z1 f1) 4 (bc72_63_6 (mcall (d + 5)) x1 x2 x3 r1 _) ?_
    obtain ⟨r2, z2, f2, hc, H⟩ := H
    refine rc_call (t := 84) (ls' := [some (vR 0), some (vI x1), some (vI x2), some (vI x3)]) (st' := [vI r1]) (bc72_63_7 (mcall (d + 5)) (x2 - 1) r1 _ z1 f1) hc ?_
    show RC (mcall (d + 5)) (mP 63) 84 [some (vR 0), some (vI x1), some (vI x2), some (vI x3)] [vI r2, vI r1] (LR z2 f2) res
    refine rc_if (it := 95) (ie := 85) (ls' := [some (vR 0), some (vI x1), some (vI x2), some (vI x3)]) (st' := []) (bc72_63_8 (mcall (d + 5)) r1 r2 _ _) (fun q2 => ?_) (fun q2 => ?_)
    · have H := H.1 (cI1t q2)
      exact H
    · have H := H.2 (cI1f q2)
      refine rc_b (i' := 92) (ls' := [some (vR 0), some (vI x1), some (vI x2), some (vI x3)]) (st' := [vI (x2 - 1), vR 23, vI x3, vR 0]) (L' := LR z2 f2) 7 (bc72_63_9 (mcall (d + 5)) x1 x2 x3 z2 f2) ?_
      obtain ⟨g1, H⟩ := H
      refine rc_g (i' := 93) (ls' := [some (vR 0), some (vI x1), some (vI x2), some (vI x3)]) (st' := [vI (f2 23 (ix (x2 - 1))), vI x3, vR 0]) (L' := LR z2 f2) (bc72_63_10 (mcall (d + 5)) (x2 - 1) x3 _ z2 f2) (pinG g1) ?_
      obtain ⟨r3, z3, f3, hc, H⟩ := H
      refine rc_call (t := 94) (ls' := [some (vR 0), some (vI x1), some (vI x2), some (vI x3)]) (st' := []) (bc72_63_11 (mcall (d + 5)) x3 (f2 23 (ix (x2 - 1))) _ z2 f2) hc ?_
      show RC (mcall (d + 5)) (mP 63) 94 [some (vR 0), some (vI x1), some (vI x2), some (vI x3)] [vI r3] (LR z3 f3) res
      refine rc_b (i' := 95) (ls' := [some (vR 0), some (vI x1), some (vI x2), some (vI r3)]) (st' := []) (L' := LR z3 f3) 1 (bc72_63_12 (mcall (d + 5)) x1 x2 x3 r3 _) ?_
      exact H
set_option maxRecDepth 100000 in
theorem bc95_63_1 (call : QC FA) (x1 : Int32) (x2 : Int32) (x3 : Int32) (L : QH FA) (F : Nat) : rnG call 63 (F + 2) 95 [some (vR 0), some (vI x1), some (vI x2), some (vI x3)] [] L = rnG call 63 F 97 [some (vR 0), some (vI x1), some (vI x2), some (vI x3)] [vI 12, vI x2] L := rfl
set_option maxRecDepth 100000 in
theorem bc95_63_2 (call : QC FA) (x y : Int32) (ls : List (Option PV)) (L : QH FA) (F : Nat) : rnG call 63 (F + 1) 97 ls [vI y, vI x] L = bif pcmp 1 y 0 then rnG call 63 F 98 ls [vI (x - x / y * y)] L else none := rfl
set_option maxRecDepth 100000 in
theorem bc95_63_3 (call : QC FA) (x1 : Int32) (x2 : Int32) (x3 : Int32) (s0 : Int32) (L : QH FA) (F : Nat) : rnG call 63 (F + 1) 98 [some (vR 0), some (vI x1), some (vI x2), some (vI x3)] [vI s0] L = rnG call 63 F 99 [some (vR 0), some (vI x1), some (vI x2), some (vI x3)] [vI 11, vI s0] L := rfl
set_option maxRecDepth 100000 in
theorem bc95_63_4 (call : QC FA) (x y : Int32) (ls : List (Option PV)) (L : QH FA) (F : Nat) : rnG call 63 (F + 1) 99 ls [vI y, vI x] L = bif pcmp 3 x y then rnG call 63 F 119 ls [] L else rnG call 63 F 100 ls [] L := rfl
set_option maxRecDepth 100000 in
theorem bc95_63_5 (call : QC FA) (x1 : Int32) (x2 : Int32) (x3 : Int32) (L : QH FA) (F : Nat) : rnG call 63 (F + 2) 100 [some (vR 0), some (vI x1), some (vI x2), some (vI x3)] [] L = rnG call 63 F 102 [some (vR 0), some (vI x1), some (vI x2), some (vI x3)] [vI x2, vR 0] L := rfl
set_option maxRecDepth 100000 in
theorem bc95_63_6 (call : QC FA) (a0 : Int32) (ls : List (Option PV)) (z : Nat → Int32) (f : Nat → FA) (F : Nat) : rnG call 63 (F + 1) 102 ls [vI a0, vR 0] (LR z f) = cbd (call 49 [vR 0, vI a0] (LR z f)) (fun r L' => rnG call 63 F 103 ls (r.toList ++ []) L') := pcY (ih := rnG call 63 F) (call := call) (a := 49) (b := 1) (v := 12) (t := 103) (x := 0) (ls := ls) (As := [vI a0]) (st' := []) (L := LR z f) rfl rfl rfl
set_option maxRecDepth 100000 in
theorem bc95_63_7 (call : QC FA) (x1 : Int32) (x2 : Int32) (x3 : Int32) (s0 : Int32) (L : QH FA) (F : Nat) : rnG call 63 (F + 4) 103 [some (vR 0), some (vI x1), some (vI x2), some (vI x3)] [vI s0] L = rnG call 63 F 107 [some (vR 0), some (vI x1), some (vI x2), some (vI x3)] [vI (x2 + 1), vR 0, vI s0] L := rfl
set_option maxRecDepth 100000 in
theorem bc95_63_8 (call : QC FA) (a0 : Int32) (s0 : Int32) (ls : List (Option PV)) (z : Nat → Int32) (f : Nat → FA) (F : Nat) : rnG call 63 (F + 1) 107 ls [vI a0, vR 0, vI s0] (LR z f) = cbd (call 49 [vR 0, vI a0] (LR z f)) (fun r L' => rnG call 63 F 108 ls (r.toList ++ [vI s0]) L') := pcY (ih := rnG call 63 F) (call := call) (a := 49) (b := 1) (v := 12) (t := 108) (x := 0) (ls := ls) (As := [vI a0]) (st' := [vI s0]) (L := LR z f) rfl rfl rfl
set_option maxRecDepth 100000 in
theorem bc95_63_9 (call : QC FA) (x y : Int32) (ls : List (Option PV)) (L : QH FA) (F : Nat) : rnG call 63 (F + 1) 108 ls [vI y, vI x] L = bif pcmp 1 x y then rnG call 63 F 119 ls [] L else rnG call 63 F 109 ls [] L := rfl
set_option maxRecDepth 100000 in
theorem bc95_63_10 (call : QC FA) (x1 : Int32) (x2 : Int32) (x3 : Int32) (z : Nat → Int32) (f : Nat → FA) (F : Nat) : rnG call 63 (F + 7) 109 [some (vR 0), some (vI x1), some (vI x2), some (vI x3)] [] (LR z f) = rnG call 63 F 116 [some (vR 0), some (vI x1), some (vI x2), some (vI x3)] [vI (x2 + 1), vR 23, vI x3, vR 0] (LR z f) := rfl
set_option maxRecDepth 100000 in
theorem bc95_63_11 (call : QC FA) (x : Int32) (s0 : Int32) (ls : List (Option PV)) (z : Nat → Int32) (f : Nat → FA) (F : Nat) : rnG call 63 (F + 1) 116 ls [vI x, vR 23, vI s0, vR 0] (LR z f) = bif (Nat.beq 0 0 && pin x 144) then rnG call 63 F 117 ls [vI (f 23 (ix x)), vI s0, vR 0] (LR z f) else none := rfl
set_option maxRecDepth 100000 in
theorem bc95_63_12 (call : QC FA) (a0 : Int32) (a1 : Int32) (ls : List (Option PV)) (z : Nat → Int32) (f : Nat → FA) (F : Nat) : rnG call 63 (F + 1) 117 ls [vI a1, vI a0, vR 0] (LR z f) = cbd (call 62 [vR 0, vI a0, vI a1] (LR z f)) (fun r L' => rnG call 63 F 118 ls (r.toList ++ []) L') := pcY (ih := rnG call 63 F) (call := call) (a := 62) (b := 2) (v := 12) (t := 118) (x := 0) (ls := ls) (As := [vI a0, vI a1]) (st' := []) (L := LR z f) rfl rfl rfl
set_option maxRecDepth 100000 in
theorem bc95_63_13 (call : QC FA) (x1 : Int32) (x2 : Int32) (x3 : Int32) (s0 : Int32) (L : QH FA) (F : Nat) : rnG call 63 (F + 1) 118 [some (vR 0), some (vI x1), some (vI x2), some (vI x3)] [vI s0] L = rnG call 63 F 119 [some (vR 0), some (vI x1), some (vI x2), some (vI s0)] [] L := rfl
theorem vcc95_63_95 (d : Nat) (x1 : Int32) (x2 : Int32) (x3 : Int32) (z : Nat → Int32) (f : Nat → FA) (res : Option PV × QH FA) (H : (¬ (12 : Int32) = 0 ∧ ((11 ≤ I (x2 - x2 / 12 * 12) → RC (mcall (d + 5)) (mP 63) 119 [some (vR 0), some (vI x1), some (vI x2), some (vI x3)] [] (LR z f) res) ∧ (I (x2 - x2 / 12 * 12) < 11 → (∃ (r1 : Int32) (z1 : Nat → Int32) (f1 : Nat → FA), (mcall (d + 5)) 49 [vR 0, vI x2] (LR z f) = some (some (vI r1), LR z1 f1) ∧ (∃ (r2 : Int32) (z2 : Nat → Int32) (f2 : Nat → FA), (mcall (d + 5)) 49 [vR 0, vI (x2 + 1)] (LR z1 f1) = some (some (vI r2), LR z2 f2) ∧ ((¬ r1 = r2 → RC (mcall (d + 5)) (mP 63) 119 [some (vR 0), some (vI x1), some (vI x2), some (vI x3)] [] (LR z2 f2) res) ∧ (r1 = r2 → (pin (x2 + 1) 144 = true ∧ (∃ (r3 : Int32) (z3 : Nat → Int32) (f3 : Nat → FA), (mcall (d + 5)) 62 [vR 0, vI x3, vI (f2 23 (ix (x2 + 1)))] (LR z2 f2) = some (some (vI r3), LR z3 f3) ∧ RC (mcall (d + 5)) (mP 63) 119 [some (vR 0), some (vI x1), some (vI x2), some (vI r3)] [] (LR z3 f3) res)))))))))) : RC (mcall (d + 5)) (mP 63) 95 [some (vR 0), some (vI x1), some (vI x2), some (vI x3)] [] (LR z f) res := by
  refine rc_b (i' := 97) (ls' := [some (vR 0), some (vI x1), some (vI x2), some (vI x3)]) (st' := [vI 12, vI x2]) (L' := LR z f) 2 (bc95_63_1 (mcall (d + 5)) x1 x2 x3 _) ?_
  obtain ⟨g1, H⟩ := H
  refine rc_g (i' := 98) (ls' := [some (vR 0), some (vI x1), some (vI x2), some (vI x3)]) (st' := [vI (x2 - x2 / 12 * 12)]) (L' := LR z f) (bc95_63_2 (mcall (d + 5)) x2 12 _ _) (cmp_ne.trans (decide_eq_true g1)) ?_
  refine rc_b (i' := 99) (ls' := [some (vR 0), some (vI x1), some (vI x2), some (vI x3)]) (st' := [vI 11, vI (x2 - x2 / 12 * 12)]) (L' := LR z f) 1 (bc95_63_3 (mcall (d + 5)) x1 x2 x3 (x2 - x2 / 12 * 12) _) ?_
  refine rc_if (it := 119) (ie := 100) (ls' := [some (vR 0), some (vI x1), some (vI x2), some (vI x3)]) (st' := []) (bc95_63_4 (mcall (d + 5)) (x2 - x2 / 12 * 12) 11 _ _) (fun q1 => ?_) (fun q1 => ?_)
  · have H := H.1 (cI3t q1 rfl rfl)
    exact H
  · have H := H.2 (cI3f q1 rfl rfl)
    refine rc_b (i' := 102) (ls' := [some (vR 0), some (vI x1), some (vI x2), some (vI x3)]) (st' := [vI x2, vR 0]) (L' := LR z f) 2 (bc95_63_5 (mcall (d + 5)) x1 x2 x3 _) ?_
    obtain ⟨r1, z1, f1, hc, H⟩ := H
    refine rc_call (t := 103) (ls' := [some (vR 0), some (vI x1), some (vI x2), some (vI x3)]) (st' := []) (bc95_63_6 (mcall (d + 5)) x2 _ z f) hc ?_
    show RC (mcall (d + 5)) (mP 63) 103 [some (vR 0), some (vI x1), some (vI x2), some (vI x3)] [vI r1] (LR z1 f1) res
    refine rc_b (i' := 107) (ls' := [some (vR 0), some (vI x1), some (vI x2), some (vI x3)]) (st' := [vI (x2 + 1), vR 0, vI r1]) (L' := LR z1 f1) 4 (bc95_63_7 (mcall (d + 5)) x1 x2 x3 r1 _) ?_
    obtain ⟨r2, z2, f2, hc, H⟩ := H
    refine rc_call (t := 108) (ls' := [some (vR 0), some (vI x1), some (vI x2), some (vI x3)]) (st' := [vI r1]) (bc95_63_8 (mcall (d + 5)) (x2 + 1) r1 _ z1 f1) hc ?_
    show RC (mcall (d + 5)) (mP 63) 108 [some (vR 0), some (vI x1), some (vI x2), some (vI x3)] [vI r2, vI r1] (LR z2 f2) res
    refine rc_if (it := 119) (ie := 109) (ls' := [some (vR 0), some (vI x1), some (vI x2), some (vI x3)]) (st' := []) (bc95_63_9 (mcall (d + 5)) r1 r2 _ _) (fun q2 => ?_) (fun q2 => ?_)
    · have H := H.1 (cI1t q2)
      exact H
    · have H := H.2 (cI1f q2)
      refine rc_b (i' := 116) (ls' := [some (vR 0), some (vI x1), some (vI x2), some (vI x3)]) (st' := [vI (x2 + 1), vR 23, vI x3, vR 0]) (L' := LR z2 f2) 7 (bc95_63_10 (mcall (d + 5)) x1 x2 x3 z2 f2) ?_
      obtain ⟨g1, H⟩ := H
      refine rc_g (i' := 117) (ls' := [some (vR 0), some (vI x1), some (vI x2), some (vI x3)]) (st' := [vI (f2 23 (ix (x2 + 1))), vI x3, vR 0]) (L' := LR z2 f2) (bc95_63_11 (mcall (d + 5)) (x2 + 1) x3 _ z2 f2) (pinG g1) ?_
      obtain ⟨r3, z3, f3, hc, H⟩ := H
      refine rc_call (t := 118) (ls' := [some (vR 0), some (vI x1), some (vI x2), some (vI x3)]) (st' := []) (bc95_63_12 (mcall (d + 5)) x3 (f2 23 (ix (x2 + 1))) _ z2 f2) hc ?_
      show RC (mcall (d + 5)) (mP 63) 118 [some (vR 0), some (vI x1), some (vI x2), some (vI x3)] [vI r3] (LR z3 f3) res
      refine rc_b (i' := 119) (ls' := [some (vR 0), some (vI x1), some (vI x2), some (vI r3)]) (st' := []) (L' := LR z3 f3) 1 (bc95_63_13 (mcall (d + 5)) x1 x2 x3 r3 _) ?_
      exact H
set_option maxRecDepth 100000 in
theorem bc119_63_1 (call : QC FA) (x1 : Int32) (x2 : Int32) (x3 : Int32) (z : Nat → Int32) (f : Nat → FA) (F : Nat) : rnG call 63 (F + 4) 119 [some (vR 0), some (vI x1), some (vI x2), some (vI x3)] [] (LR z f) = rnG call 63 F 123 [some (vR 0), some (vI x1), some (vI x2), some (vI x3)] [vI x2, vR 23, vI x3] (LR z f) := rfl
set_option maxRecDepth 100000 in
theorem bc119_63_2 (call : QC FA) (x : Int32) (s0 : Int32) (ls : List (Option PV)) (z : Nat → Int32) (f : Nat → FA) (F : Nat) : rnG call 63 (F + 1) 123 ls [vI x, vR 23, vI s0] (LR z f) = bif (Nat.beq 0 0 && pin x 144) then rnG call 63 F 124 ls [vI (f 23 (ix x)), vI s0] (LR z f) else none := rfl
set_option maxRecDepth 100000 in
theorem bc119_63_3 (call : QC FA) (x y : Int32) (ls : List (Option PV)) (L : QH FA) (F : Nat) : rnG call 63 (F + 1) 124 ls [vI y, vI x] L = bif pcmp 1 x y then rnG call 63 F 126 ls [] L else rnG call 63 F 125 ls [] L := rfl
set_option maxRecDepth 100000 in
theorem bc119_63_4 (call : QC FA) (x1 : Int32) (x2 : Int32) (x3 : Int32) (z : Nat → Int32) (f : Nat → FA) (F : Nat) : rnG call 63 (F + 4) 126 [some (vR 0), some (vI x1), some (vI x2), some (vI x3)] [] (LR z f) = rnG call 63 F 130 [some (vR 0), some (vI x1), some (vI x2), some (vI x3)] [vI x3, vI x2, vR 23] (LR z f) := rfl
set_option maxRecDepth 100000 in
theorem bc119_63_5 (call : QC FA) (x y : Int32) (ls : List (Option PV)) (z : Nat → Int32) (f : Nat → FA) (F : Nat) : rnG call 63 (F + 1) 130 ls [vI y, vI x, vR 23] (LR z f) = bif (Nat.beq 0 0 && pin x 144) then rnG call 63 F 131 ls [] (LR z (uA f 23 (upd (f 23) (ix x) y))) else none := rfl
set_option maxRecDepth 100000 in
theorem bc119_63_6 (call : QC FA) (x1 : Int32) (x2 : Int32) (x3 : Int32) (L : QH FA) (F : Nat) : rnG call 63 (F + 2) 131 [some (vR 0), some (vI x1), some (vI x2), some (vI x3)] [] L = rnG call 63 F 133 [some (vR 0), some (vI 1), some (vI x2), some (vI x3)] [] L := rfl
set_option maxRecDepth 100000 in
theorem bc119_63_7 (call : QC FA) (x1 : Int32) (x2 : Int32) (x3 : Int32) (L : QH FA) (F : Nat) : rnG call 63 (F + 1) 133 [some (vR 0), some (vI x1), some (vI x2), some (vI x3)] [] L = rnG call 63 F 134 [some (vR 0), some (vI x1), some (vI (x2 + 1)), some (vI x3)] [] L := rfl
set_option maxRecDepth 100000 in
theorem bc119_63_8 (call : QC FA) (x1 : Int32) (x2 : Int32) (x3 : Int32) (L : QH FA) (F : Nat) : rnG call 63 (F + 1) 134 [some (vR 0), some (vI x1), some (vI x2), some (vI x3)] [] L = rnG call 63 F 20 [some (vR 0), some (vI x1), some (vI x2), some (vI x3)] [] L := rfl
set_option maxRecDepth 100000 in
theorem bc119_63_9 (call : QC FA) (x1 : Int32) (x2 : Int32) (x3 : Int32) (L : QH FA) (F : Nat) : rnG call 63 (F + 1) 125 [some (vR 0), some (vI x1), some (vI x2), some (vI x3)] [] L = rnG call 63 F 133 [some (vR 0), some (vI x1), some (vI x2), some (vI x3)] [] L := rfl
theorem vcc119_63_119 (d : Nat) (x1 : Int32) (x2 : Int32) (x3 : Int32) (z : Nat → Int32) (f : Nat → FA) (res : Option PV × QH FA) (H : (pin x2 144 = true ∧ ((¬ x3 = f 23 (ix x2) → (pin x2 144 = true ∧ RC (mcall (d + 5)) (mP 63) 20 [some (vR 0), some (vI 1), some (vI (x2 + 1)), some (vI x3)] [] (LR z (uA f 23 (upd (f 23) (ix x2) x3))) res)) ∧ (x3 = f 23 (ix x2) → RC (mcall (d + 5)) (mP 63) 20 [some (vR 0), some (vI x1), some (vI (x2 + 1)), some (vI x3)] [] (LR z f) res)))) : RC (mcall (d + 5)) (mP 63) 119 [some (vR 0), some (vI x1), some (vI x2), some (vI x3)] [] (LR z f) res := by
  refine rc_b (i' := 123) (ls' := [some (vR 0), some (vI x1), some (vI x2), some (vI x3)]) (st' := [vI x2, vR 23, vI x3]) (L' := LR z f) 4 (bc119_63_1 (mcall (d + 5)) x1 x2 x3 z f) ?_
  obtain ⟨g1, H⟩ := H
  refine rc_g (i' := 124) (ls' := [some (vR 0), some (vI x1), some (vI x2), some (vI x3)]) (st' := [vI (f 23 (ix x2)), vI x3]) (L' := LR z f) (bc119_63_2 (mcall (d + 5)) x2 x3 _ z f) (pinG g1) ?_
  refine rc_if (it := 126) (ie := 125) (ls' := [some (vR 0), some (vI x1), some (vI x2), some (vI x3)]) (st' := []) (bc119_63_3 (mcall (d + 5)) x3 (f 23 (ix x2)) _ _) (fun q1 => ?_) (fun q1 => ?_)
  · have H := H.1 (cI1t q1)
    refine rc_b (i' := 130) (ls' := [some (vR 0), some (vI x1), some (vI x2), some (vI x3)]) (st' := [vI x3, vI x2, vR 23]) (L' := LR z f) 4 (bc119_63_4 (mcall (d + 5)) x1 x2 x3 z f) ?_
    obtain ⟨g1, H⟩ := H
    refine rc_g (i' := 131) (ls' := [some (vR 0), some (vI x1), some (vI x2), some (vI x3)]) (st' := []) (L' := LR z (uA f 23 (upd (f 23) (ix x2) x3))) (bc119_63_5 (mcall (d + 5)) x2 x3 _ z f) (pinG g1) ?_
    refine rc_b (i' := 133) (ls' := [some (vR 0), some (vI 1), some (vI x2), some (vI x3)]) (st' := []) (L' := LR z (uA f 23 (upd (f 23) (ix x2) x3))) 2 (bc119_63_6 (mcall (d + 5)) x1 x2 x3 _) ?_
    refine rc_b (i' := 134) (ls' := [some (vR 0), some (vI 1), some (vI (x2 + 1)), some (vI x3)]) (st' := []) (L' := LR z (uA f 23 (upd (f 23) (ix x2) x3))) 1 (bc119_63_7 (mcall (d + 5)) 1 x2 x3 _) ?_
    refine rc_b (i' := 20) (ls' := [some (vR 0), some (vI 1), some (vI (x2 + 1)), some (vI x3)]) (st' := []) (L' := LR z (uA f 23 (upd (f 23) (ix x2) x3))) 1 (bc119_63_8 (mcall (d + 5)) 1 (x2 + 1) x3 _) ?_
    exact H
  · have H := H.2 (cI1f q1)
    refine rc_b (i' := 133) (ls' := [some (vR 0), some (vI x1), some (vI x2), some (vI x3)]) (st' := []) (L' := LR z f) 1 (bc119_63_9 (mcall (d + 5)) x1 x2 x3 _) ?_
    refine rc_b (i' := 134) (ls' := [some (vR 0), some (vI x1), some (vI (x2 + 1)), some (vI x3)]) (st' := []) (L' := LR z f) 1 (bc119_63_7 (mcall (d + 5)) x1 x2 x3 _) ?_
    refine rc_b (i' := 20) (ls' := [some (vR 0), some (vI x1), some (vI (x2 + 1)), some (vI x3)]) (st' := []) (L' := LR z f) 1 (bc119_63_8 (mcall (d + 5)) x1 (x2 + 1) x3 _) ?_
    exact H
set_option maxRecDepth 100000 in
theorem b64_1 (call : QC FA) (o1 : Option PV) (o2 : Option PV) (o3 : Option PV) (o4 : Option PV) (L : QH FA) (F : Nat) : rnG call 64 (F + 4) 0 [some (vR 0), o1, o2, o3, o4] [] L = rnG call 64 F 4 [some (vR 0), some (vI 0), some (vI 0), o3, o4] [] L := rfl
theorem vc64_0 (d : Nat) (o1 : Option PV) (o2 : Option PV) (o3 : Option PV) (o4 : Option PV) (z : Nat → Int32) (f : Nat → FA) (res : Option PV × QH FA) (H : RC (mcall (d + 5)) (mP 64) 4 [some (vR 0), some (vI 0), some (vI 0), o3, o4] [] (LR z f) res) : RC (mcall (d + 5)) (mP 64) 0 [some (vR 0), o1, o2, o3, o4] [] (LR z f) res := by
  refine rc_b (i' := 4) (ls' := [some (vR 0), some (vI 0), some (vI 0), o3, o4]) (st' := []) (L' := LR z f) 4 (b64_1 (mcall (d + 5)) o1 o2 o3 o4 _) ?_
  exact H
set_option maxRecDepth 100000 in
theorem bc4_64_1 (call : QC FA) (x1 : Int32) (x2 : Int32) (o3 : Option PV) (o4 : Option PV) (L : QH FA) (F : Nat) : rnG call 64 (F + 2) 4 [some (vR 0), some (vI x1), some (vI x2), o3, o4] [] L = rnG call 64 F 6 [some (vR 0), some (vI x1), some (vI x2), o3, o4] [vI 144, vI x2] L := rfl
set_option maxRecDepth 100000 in
theorem bc4_64_2 (call : QC FA) (x y : Int32) (ls : List (Option PV)) (L : QH FA) (F : Nat) : rnG call 64 (F + 1) 6 ls [vI y, vI x] L = bif pcmp 3 x y then rnG call 64 F 47 ls [] L else rnG call 64 F 7 ls [] L := rfl
set_option maxRecDepth 100000 in
theorem bc4_64_3 (call : QC FA) (x1 : Int32) (x2 : Int32) (o3 : Option PV) (o4 : Option PV) (L : QH FA) (F : Nat) : rnG call 64 (F + 1) 47 [some (vR 0), some (vI x1), some (vI x2), o3, o4] [] L = rnG call 64 F 48 [some (vR 0), some (vI x1), some (vI x2), o3, o4] [vI x1] L := rfl
set_option maxRecDepth 100000 in
theorem bc4_64_4 (call : QC FA) (x : Int32) (ls : List (Option PV)) (L : QH FA) (F : Nat) : rnG call 64 (F + 1) 48 ls [vI x] L = some (some (vI x), L) := rfl
set_option maxRecDepth 100000 in
theorem bc4_64_5 (call : QC FA) (x1 : Int32) (x2 : Int32) (o3 : Option PV) (o4 : Option PV) (z : Nat → Int32) (f : Nat → FA) (F : Nat) : rnG call 64 (F + 3) 7 [some (vR 0), some (vI x1), some (vI x2), o3, o4] [] (LR z f) = rnG call 64 F 10 [some (vR 0), some (vI x1), some (vI x2), o3, o4] [vI x2, vR 23] (LR z f) := rfl
set_option maxRecDepth 100000 in
theorem bc4_64_6 (call : QC FA) (x : Int32) (ls : List (Option PV)) (z : Nat → Int32) (f : Nat → FA) (F : Nat) : rnG call 64 (F + 1) 10 ls [vI x, vR 23] (LR z f) = bif (Nat.beq 0 0 && pin x 144) then rnG call 64 F 11 ls [vI (f 23 (ix x))] (LR z f) else none := rfl
set_option maxRecDepth 100000 in
theorem bc4_64_7 (call : QC FA) (x1 : Int32) (x2 : Int32) (o3 : Option PV) (o4 : Option PV) (s0 : Int32) (L : QH FA) (F : Nat) : rnG call 64 (F + 1) 11 [some (vR 0), some (vI x1), some (vI x2), o3, o4] [vI s0] L = rnG call 64 F 12 [some (vR 0), some (vI x1), some (vI x2), o3, o4] [vI x2, vI s0] L := rfl
set_option maxRecDepth 100000 in
theorem bc4_64_8 (call : QC FA) (x y : Int32) (ls : List (Option PV)) (L : QH FA) (F : Nat) : rnG call 64 (F + 1) 12 ls [vI y, vI x] L = bif pcmp 1 x y then rnG call 64 F 45 ls [] L else rnG call 64 F 13 ls [] L := rfl
set_option maxRecDepth 100000 in
theorem bc4_64_9 (call : QC FA) (x1 : Int32) (x2 : Int32) (o3 : Option PV) (o4 : Option PV) (L : QH FA) (F : Nat) : rnG call 64 (F + 1) 45 [some (vR 0), some (vI x1), some (vI x2), o3, o4] [] L = rnG call 64 F 46 [some (vR 0), some (vI x1), some (vI (x2 + 1)), o3, o4] [] L := rfl
set_option maxRecDepth 100000 in
theorem bc4_64_10 (call : QC FA) (x1 : Int32) (x2 : Int32) (o3 : Option PV) (o4 : Option PV) (L : QH FA) (F : Nat) : rnG call 64 (F + 1) 46 [some (vR 0), some (vI x1), some (vI x2), o3, o4] [] L = rnG call 64 F 4 [some (vR 0), some (vI x1), some (vI x2), o3, o4] [] L := rfl
set_option maxRecDepth 100000 in
theorem bc4_64_11 (call : QC FA) (x1 : Int32) (x2 : Int32) (o3 : Option PV) (o4 : Option PV) (L : QH FA) (F : Nat) : rnG call 64 (F + 2) 13 [some (vR 0), some (vI x1), some (vI x2), o3, o4] [] L = rnG call 64 F 15 [some (vR 0), some (vI x1), some (vI x2), o3, o4] [vI x2, vR 0] L := rfl
set_option maxRecDepth 100000 in
theorem bc4_64_12 (call : QC FA) (a0 : Int32) (ls : List (Option PV)) (z : Nat → Int32) (f : Nat → FA) (F : Nat) : rnG call 64 (F + 1) 15 ls [vI a0, vR 0] (LR z f) = cbd (call 49 [vR 0, vI a0] (LR z f)) (fun r L' => rnG call 64 F 16 ls (r.toList ++ []) L') := pcY (ih := rnG call 64 F) (call := call) (a := 49) (b := 1) (v := 12) (t := 16) (x := 0) (ls := ls) (As := [vI a0]) (st' := []) (L := LR z f) rfl rfl rfl
set_option maxRecDepth 100000 in
theorem bc4_64_13 (call : QC FA) (x : Int32) (ls : List (Option PV)) (L : QH FA) (F : Nat) : rnG call 64 (F + 1) 16 ls [vI x] L = bif pcmp 0 x 0 then rnG call 64 F 18 ls [] L else rnG call 64 F 17 ls [] L := rfl
set_option maxRecDepth 100000 in
theorem bc4_64_14 (call : QC FA) (x1 : Int32) (x2 : Int32) (o3 : Option PV) (o4 : Option PV) (L : QH FA) (F : Nat) : rnG call 64 (F + 4) 18 [some (vR 0), some (vI x1), some (vI x2), o3, o4] [] L = rnG call 64 F 22 [some (vR 0), some (vI x1), some (vI x2), some (vI 1), some (vI 0)] [] L := rfl
set_option maxRecDepth 100000 in
theorem bc4_64_15 (call : QC FA) (x1 : Int32) (x2 : Int32) (o3 : Option PV) (o4 : Option PV) (L : QH FA) (F : Nat) : rnG call 64 (F + 1) 17 [some (vR 0), some (vI x1), some (vI x2), o3, o4] [] L = rnG call 64 F 45 [some (vR 0), some (vI x1), some (vI x2), o3, o4] [] L := rfl
theorem vcc4_64_4 (d : Nat) (x1 : Int32) (x2 : Int32) (o3 : Option PV) (o4 : Option PV) (z : Nat → Int32) (f : Nat → FA) (res : Option PV × QH FA) (H : ((144 ≤ I x2 → res = (some (vI x1), LR z f)) ∧ (I x2 < 144 → (pin x2 144 = true ∧ ((¬ f 23 (ix x2) = x2 → RC (mcall (d + 5)) (mP 64) 4 [some (vR 0), some (vI x1), some (vI (x2 + 1)), o3, o4] [] (LR z f) res) ∧ (f 23 (ix x2) = x2 → (∃ (r1 : Int32) (z1 : Nat → Int32) (f1 : Nat → FA), (mcall (d + 5)) 49 [vR 0, vI x2] (LR z f) = some (some (vI r1), LR z1 f1) ∧ ((r1 = 0 → RC (mcall (d + 5)) (mP 64) 22 [some (vR 0), some (vI x1), some (vI x2), some (vI 1), some (vI 0)] [] (LR z1 f1) res) ∧ (¬ r1 = 0 → RC (mcall (d + 5)) (mP 64) 4 [some (vR 0), some (vI x1), some (vI (x2 + 1)), o3, o4] [] (LR z1 f1) res))))))))) : RC (mcall (d + 5)) (mP 64) 4 [some (vR 0), some (vI x1), some (vI x2), o3, o4] [] (LR z f) res := by
  refine rc_b (i' := 6) (ls' := [some (vR 0), some (vI x1), some (vI x2), o3, o4]) (st' := [vI 144, vI x2]) (L' := LR z f) 2 (bc4_64_1 (mcall (d + 5)) x1 x2 o3 o4 _) ?_
  refine rc_if (it := 47) (ie := 7) (ls' := [some (vR 0), some (vI x1), some (vI x2), o3, o4]) (st' := []) (bc4_64_2 (mcall (d + 5)) x2 144 _ _) (fun q1 => ?_) (fun q1 => ?_)
  · have H := H.1 (cI3t q1 rfl rfl)
    refine rc_b (i' := 48) (ls' := [some (vR 0), some (vI x1), some (vI x2), o3, o4]) (st' := [vI x1]) (L' := LR z f) 1 (bc4_64_3 (mcall (d + 5)) x1 x2 o3 o4 _) ?_
    subst H
    exact rc_ret (bc4_64_4 (mcall (d + 5)) _ _ _)
  · have H := H.2 (cI3f q1 rfl rfl)
    refine rc_b (i' := 10) (ls' := [some (vR 0), some (vI x1), some (vI x2), o3, o4]) (st' := [vI x2, vR 23]) (L' := LR z f) 3 (bc4_64_5 (mcall (d + 5)) x1 x2 o3 o4 z f) ?_
    obtain ⟨g1, H⟩ := H
    refine rc_g (i' := 11) (ls' := [some (vR 0), some (vI x1), some (vI x2), o3, o4]) (st' := [vI (f 23 (ix x2))]) (L' := LR z f) (bc4_64_6 (mcall (d + 5)) x2 _ z f) (pinG g1) ?_
    refine rc_b (i' := 12) (ls' := [some (vR 0), some (vI x1), some (vI x2), o3, o4]) (st' := [vI x2, vI (f 23 (ix x2))]) (L' := LR z f) 1 (bc4_64_7 (mcall (d + 5)) x1 x2 o3 o4 (f 23 (ix x2)) _) ?_
    refine rc_if (it := 45) (ie := 13) (ls' := [some (vR 0), some (vI x1), some (vI x2), o3, o4]) (st' := []) (bc4_64_8 (mcall (d + 5)) (f 23 (ix x2)) x2 _ _) (fun q2 => ?_) (fun q2 => ?_)
    · have H := H.1 (cI1t q2)
      refine rc_b (i' := 46) (ls' := [some (vR 0), some (vI x1), some (vI (x2 + 1)), o3, o4]) (st' := []) (L' := LR z f) 1 (bc4_64_9 (mcall (d + 5)) x1 x2 o3 o4 _) ?_
      refine rc_b (i' := 4) (ls' := [some (vR 0), some (vI x1), some (vI (x2 + 1)), o3, o4]) (st' := []) (L' := LR z f) 1 (bc4_64_10 (mcall (d + 5)) x1 (x2 + 1) o3 o4 _) ?_
      exact H
    · have H := H.2 (cI1f q2)
      refine rc_b (i' := 15) (ls' := [some (vR 0), some (vI x1), some (vI x2), o3, o4]) (st' := [vI x2, vR 0]) (L' := LR z f) 2 (bc4_64_11 (mcall (d + 5)) x1 x2 o3 o4 _) ?_
      obtain ⟨r1, z1, f1, hc, H⟩ := H
      refine rc_call (t := 16) (ls' := [some (vR 0), some (vI x1), some (vI x2), o3, o4]) (st' := []) (bc4_64_12 (mcall (d + 5)) x2 _ z f) hc ?_
      show RC (mcall (d + 5)) (mP 64) 16 [some (vR 0), some (vI x1), some (vI x2), o3, o4] [vI r1] (LR z1 f1) res
      refine rc_if (it := 18) (ie := 17) (ls' := [some (vR 0), some (vI x1), some (vI x2), o3, o4]) (st' := []) (bc4_64_13 (mcall (d + 5)) r1 _ _) (fun q3 => ?_) (fun q3 => ?_)
      · have H := H.1 (cI0t q3)
        refine rc_b (i' := 22) (ls' := [some (vR 0), some (vI x1), some (vI x2), some (vI 1), some (vI 0)]) (st' := []) (L' := LR z1 f1) 4 (bc4_64_14 (mcall (d + 5)) x1 x2 o3 o4 _) ?_
        exact H
      · have H := H.2 (cI0f q3)
        refine rc_b (i' := 45) (ls' := [some (vR 0), some (vI x1), some (vI x2), o3, o4]) (st' := []) (L' := LR z1 f1) 1 (bc4_64_15 (mcall (d + 5)) x1 x2 o3 o4 _) ?_
        refine rc_b (i' := 46) (ls' := [some (vR 0), some (vI x1), some (vI (x2 + 1)), o3, o4]) (st' := []) (L' := LR z1 f1) 1 (bc4_64_9 (mcall (d + 5)) x1 x2 o3 o4 _) ?_
        refine rc_b (i' := 4) (ls' := [some (vR 0), some (vI x1), some (vI (x2 + 1)), o3, o4]) (st' := []) (L' := LR z1 f1) 1 (bc4_64_10 (mcall (d + 5)) x1 (x2 + 1) o3 o4 _) ?_
        exact H
set_option maxRecDepth 100000 in
theorem bc22_64_1 (call : QC FA) (x1 : Int32) (x2 : Int32) (x3 : Int32) (x4 : Int32) (L : QH FA) (F : Nat) : rnG call 64 (F + 2) 22 [some (vR 0), some (vI x1), some (vI x2), some (vI x3), some (vI x4)] [] L = rnG call 64 F 24 [some (vR 0), some (vI x1), some (vI x2), some (vI x3), some (vI x4)] [vI 144, vI x4] L := rfl
set_option maxRecDepth 100000 in
theorem bc22_64_2 (call : QC FA) (x y : Int32) (ls : List (Option PV)) (L : QH FA) (F : Nat) : rnG call 64 (F + 1) 24 ls [vI y, vI x] L = bif pcmp 3 x y then rnG call 64 F 39 ls [] L else rnG call 64 F 25 ls [] L := rfl
set_option maxRecDepth 100000 in
theorem bc22_64_3 (call : QC FA) (x1 : Int32) (x2 : Int32) (x3 : Int32) (x4 : Int32) (L : QH FA) (F : Nat) : rnG call 64 (F + 1) 39 [some (vR 0), some (vI x1), some (vI x2), some (vI x3), some (vI x4)] [] L = rnG call 64 F 40 [some (vR 0), some (vI x1), some (vI x2), some (vI x3), some (vI x4)] [vI x3] L := rfl
set_option maxRecDepth 100000 in
theorem bc22_64_4 (call : QC FA) (x : Int32) (ls : List (Option PV)) (L : QH FA) (F : Nat) : rnG call 64 (F + 1) 40 ls [vI x] L = bif pcmp 0 x 0 then rnG call 64 F 45 ls [] L else rnG call 64 F 41 ls [] L := rfl
set_option maxRecDepth 100000 in
theorem bc22_64_5 (call : QC FA) (x1 : Int32) (x2 : Int32) (x3 : Int32) (x4 : Int32) (L : QH FA) (F : Nat) : rnG call 64 (F + 1) 45 [some (vR 0), some (vI x1), some (vI x2), some (vI x3), some (vI x4)] [] L = rnG call 64 F 46 [some (vR 0), some (vI x1), some (vI (x2 + 1)), some (vI x3), some (vI x4)] [] L := rfl
set_option maxRecDepth 100000 in
theorem bc22_64_6 (call : QC FA) (x1 : Int32) (x2 : Int32) (x3 : Int32) (x4 : Int32) (L : QH FA) (F : Nat) : rnG call 64 (F + 1) 46 [some (vR 0), some (vI x1), some (vI x2), some (vI x3), some (vI x4)] [] L = rnG call 64 F 4 [some (vR 0), some (vI x1), some (vI x2), some (vI x3), some (vI x4)] [] L := rfl
set_option maxRecDepth 100000 in
theorem bc22_64_7 (call : QC FA) (x1 : Int32) (x2 : Int32) (x3 : Int32) (x4 : Int32) (L : QH FA) (F : Nat) : rnG call 64 (F + 4) 41 [some (vR 0), some (vI x1), some (vI x2), some (vI x3), some (vI x4)] [] L = rnG call 64 F 45 [some (vR 0), some (vI (x1 + 1)), some (vI x2), some (vI x3), some (vI x4)] [] L := rfl
set_option maxRecDepth 100000 in
theorem bc22_64_8 (call : QC FA) (x1 : Int32) (x2 : Int32) (x3 : Int32) (x4 : Int32) (z : Nat → Int32) (f : Nat → FA) (F : Nat) : rnG call 64 (F + 3) 25 [some (vR 0), some (vI x1), some (vI x2), some (vI x3), some (vI x4)] [] (LR z f) = rnG call 64 F 28 [some (vR 0), some (vI x1), some (vI x2), some (vI x3), some (vI x4)] [vI x4, vR 23] (LR z f) := rfl
set_option maxRecDepth 100000 in
theorem bc22_64_9 (call : QC FA) (x : Int32) (ls : List (Option PV)) (z : Nat → Int32) (f : Nat → FA) (F : Nat) : rnG call 64 (F + 1) 28 ls [vI x, vR 23] (LR z f) = bif (Nat.beq 0 0 && pin x 144) then rnG call 64 F 29 ls [vI (f 23 (ix x))] (LR z f) else none := rfl
set_option maxRecDepth 100000 in
theorem bc22_64_10 (call : QC FA) (x1 : Int32) (x2 : Int32) (x3 : Int32) (x4 : Int32) (s0 : Int32) (L : QH FA) (F : Nat) : rnG call 64 (F + 1) 29 [some (vR 0), some (vI x1), some (vI x2), some (vI x3), some (vI x4)] [vI s0] L = rnG call 64 F 30 [some (vR 0), some (vI x1), some (vI x2), some (vI x3), some (vI x4)] [vI x2, vI s0] L := rfl
set_option maxRecDepth 100000 in
theorem bc22_64_11 (call : QC FA) (x y : Int32) (ls : List (Option PV)) (L : QH FA) (F : Nat) : rnG call 64 (F + 1) 30 ls [vI y, vI x] L = bif pcmp 1 x y then rnG call 64 F 37 ls [] L else rnG call 64 F 31 ls [] L := rfl
set_option maxRecDepth 100000 in
theorem bc22_64_12 (call : QC FA) (x1 : Int32) (x2 : Int32) (x3 : Int32) (x4 : Int32) (L : QH FA) (F : Nat) : rnG call 64 (F + 1) 37 [some (vR 0), some (vI x1), some (vI x2), some (vI x3), some (vI x4)] [] L = rnG call 64 F 38 [some (vR 0), some (vI x1), some (vI x2), some (vI x3), some (vI (x4 + 1))] [] L := rfl
set_option maxRecDepth 100000 in
theorem bc22_64_13 (call : QC FA) (x1 : Int32) (x2 : Int32) (x3 : Int32) (x4 : Int32) (L : QH FA) (F : Nat) : rnG call 64 (F + 1) 38 [some (vR 0), some (vI x1), some (vI x2), some (vI x3), some (vI x4)] [] L = rnG call 64 F 22 [some (vR 0), some (vI x1), some (vI x2), some (vI x3), some (vI x4)] [] L := rfl
set_option maxRecDepth 100000 in
theorem bc22_64_14 (call : QC FA) (x1 : Int32) (x2 : Int32) (x3 : Int32) (x4 : Int32) (L : QH FA) (F : Nat) : rnG call 64 (F + 2) 31 [some (vR 0), some (vI x1), some (vI x2), some (vI x3), some (vI x4)] [] L = rnG call 64 F 33 [some (vR 0), some (vI x1), some (vI x2), some (vI x3), some (vI x4)] [vI x4, vR 0] L := rfl
set_option maxRecDepth 100000 in
theorem bc22_64_15 (call : QC FA) (a0 : Int32) (ls : List (Option PV)) (z : Nat → Int32) (f : Nat → FA) (F : Nat) : rnG call 64 (F + 1) 33 ls [vI a0, vR 0] (LR z f) = cbd (call 65 [vR 0, vI a0] (LR z f)) (fun r L' => rnG call 64 F 34 ls (r.toList ++ []) L') := pcY (ih := rnG call 64 F) (call := call) (a := 65) (b := 1) (v := 12) (t := 34) (x := 0) (ls := ls) (As := [vI a0]) (st' := []) (L := LR z f) rfl rfl rfl
set_option maxRecDepth 100000 in
theorem bc22_64_16 (call : QC FA) (x : Int32) (ls : List (Option PV)) (L : QH FA) (F : Nat) : rnG call 64 (F + 1) 34 ls [vI x] L = bif pcmp 0 x 0 then rnG call 64 F 37 ls [] L else rnG call 64 F 35 ls [] L := rfl
set_option maxRecDepth 100000 in
theorem bc22_64_17 (call : QC FA) (x1 : Int32) (x2 : Int32) (x3 : Int32) (x4 : Int32) (L : QH FA) (F : Nat) : rnG call 64 (F + 2) 35 [some (vR 0), some (vI x1), some (vI x2), some (vI x3), some (vI x4)] [] L = rnG call 64 F 37 [some (vR 0), some (vI x1), some (vI x2), some (vI 0), some (vI x4)] [] L := rfl
theorem vcc22_64_22 (d : Nat) (x1 : Int32) (x2 : Int32) (x3 : Int32) (x4 : Int32) (z : Nat → Int32) (f : Nat → FA) (res : Option PV × QH FA) (H : ((144 ≤ I x4 → ((x3 = 0 → RC (mcall (d + 5)) (mP 64) 4 [some (vR 0), some (vI x1), some (vI (x2 + 1)), some (vI x3), some (vI x4)] [] (LR z f) res) ∧ (¬ x3 = 0 → RC (mcall (d + 5)) (mP 64) 4 [some (vR 0), some (vI (x1 + 1)), some (vI (x2 + 1)), some (vI x3), some (vI x4)] [] (LR z f) res))) ∧ (I x4 < 144 → (pin x4 144 = true ∧ ((¬ f 23 (ix x4) = x2 → RC (mcall (d + 5)) (mP 64) 22 [some (vR 0), some (vI x1), some (vI x2), some (vI x3), some (vI (x4 + 1))] [] (LR z f) res) ∧ (f 23 (ix x4) = x2 → (∃ (r1 : Int32) (z1 : Nat → Int32) (f1 : Nat → FA), (mcall (d + 5)) 65 [vR 0, vI x4] (LR z f) = some (some (vI r1), LR z1 f1) ∧ ((r1 = 0 → RC (mcall (d + 5)) (mP 64) 22 [some (vR 0), some (vI x1), some (vI x2), some (vI x3), some (vI (x4 + 1))] [] (LR z1 f1) res) ∧ (¬ r1 = 0 → RC (mcall (d + 5)) (mP 64) 22 [some (vR 0), some (vI x1), some (vI x2), some (vI 0), some (vI (x4 + 1))] [] (LR z1 f1) res))))))))) : RC (mcall (d + 5)) (mP 64) 22 [some (vR 0), some (vI x1), some (vI x2), some (vI x3), some (vI x4)] [] (LR z f) res := by
  refine rc_b (i' := 24) (ls' := [some (vR 0), some (vI x1), some (vI x2), some (vI x3), some (vI x4)]) (st' := [vI 144, vI x4]) (L' := LR z f) 2 (bc22_64_1 (mcall (d + 5)) x1 x2 x3 x4 _) ?_
  refine rc_if (it := 39) (ie := 25) (ls' := [some (vR 0), some (vI x1), some (vI x2), some (vI x3), some (vI x4)]) (st' := []) (bc22_64_2 (mcall (d + 5)) x4 144 _ _) (fun q1 => ?_) (fun q1 => ?_)
  · have H := H.1 (cI3t q1 rfl rfl)
    refine rc_b (i' := 40) (ls' := [some (vR 0), some (vI x1), some (vI x2), some (vI x3), some (vI x4)]) (st' := [vI x3]) (L' := LR z f) 1 (bc22_64_3 (mcall (d + 5)) x1 x2 x3 x4 _) ?_
    refine rc_if (it := 45) (ie := 41) (ls' := [some (vR 0), some (vI x1), some (vI x2), some (vI x3), some (vI x4)]) (st' := []) (bc22_64_4 (mcall (d + 5)) x3 _ _) (fun q2 => ?_) (fun q2 => ?_)
    · have H := H.1 (cI0t q2)
      refine rc_b (i' := 46) (ls' := [some (vR 0), some (vI x1), some (vI (x2 + 1)), some (vI x3), some (vI x4)]) (st' := []) (L' := LR z f) 1 (bc22_64_5 (mcall (d + 5)) x1 x2 x3 x4 _) ?_
      refine rc_b (i' := 4) (ls' := [some (vR 0), some (vI x1), some (vI (x2 + 1)), some (vI x3), some (vI x4)]) (st' := []) (L' := LR z f) 1 (bc22_64_6 (mcall (d + 5)) x1 (x2 + 1) x3 x4 _) ?_
      exact H
    · have H := H.2 (cI0f q2)
      refine rc_b (i' := 45) (ls' := [some (vR 0), some (vI (x1 + 1)), some (vI x2), some (vI x3), some (vI x4)]) (st' := []) (L' := LR z f) 4 (bc22_64_7 (mcall (d + 5)) x1 x2 x3 x4 _) ?_
      refine rc_b (i' := 46) (ls' := [some (vR 0), some (vI (x1 + 1)), some (vI (x2 + 1)), some (vI x3), some (vI x4)]) (st' := []) (L' := LR z f) 1 (bc22_64_5 (mcall (d + 5)) (x1 + 1) x2 x3 x4 _) ?_
      refine rc_b (i' := 4) (ls' := [some (vR 0), some (vI (x1 + 1)), some (vI (x2 + 1)), some (vI x3), some (vI x4)]) (st' := []) (L' := LR z f) 1 (bc22_64_6 (mcall (d + 5)) (x1 + 1) (x2 + 1) x3 x4 _) ?_
      exact H
  · have H := H.2 (cI3f q1 rfl rfl)
    refine rc_b (i' := 28) (ls' := [some (vR 0), some (vI x1), some (vI x2), some (vI x3), some (vI x4)]) (st' := [vI x4, vR 23]) (L' := LR z f) 3 (bc22_64_8 (mcall (d + 5)) x1 x2 x3 x4 z f) ?_
    obtain ⟨g1, H⟩ := H
    refine rc_g (i' := 29) (ls' := [some (vR 0), some (vI x1), some (vI x2), some (vI x3), some (vI x4)]) (st' := [vI (f 23 (ix x4))]) (L' := LR z f) (bc22_64_9 (mcall (d + 5)) x4 _ z f) (pinG g1) ?_
    refine rc_b (i' := 30) (ls' := [some (vR 0), some (vI x1), some (vI x2), some (vI x3), some (vI x4)]) (st' := [vI x2, vI (f 23 (ix x4))]) (L' := LR z f) 1 (bc22_64_10 (mcall (d + 5)) x1 x2 x3 x4 (f 23 (ix x4)) _) ?_
    refine rc_if (it := 37) (ie := 31) (ls' := [some (vR 0), some (vI x1), some (vI x2), some (vI x3), some (vI x4)]) (st' := []) (bc22_64_11 (mcall (d + 5)) (f 23 (ix x4)) x2 _ _) (fun q3 => ?_) (fun q3 => ?_)
    · have H := H.1 (cI1t q3)
      refine rc_b (i' := 38) (ls' := [some (vR 0), some (vI x1), some (vI x2), some (vI x3), some (vI (x4 + 1))]) (st' := []) (L' := LR z f) 1 (bc22_64_12 (mcall (d + 5)) x1 x2 x3 x4 _) ?_
      refine rc_b (i' := 22) (ls' := [some (vR 0), some (vI x1), some (vI x2), some (vI x3), some (vI (x4 + 1))]) (st' := []) (L' := LR z f) 1 (bc22_64_13 (mcall (d + 5)) x1 x2 x3 (x4 + 1) _) ?_
      exact H
    · have H := H.2 (cI1f q3)
      refine rc_b (i' := 33) (ls' := [some (vR 0), some (vI x1), some (vI x2), some (vI x3), some (vI x4)]) (st' := [vI x4, vR 0]) (L' := LR z f) 2 (bc22_64_14 (mcall (d + 5)) x1 x2 x3 x4 _) ?_
      obtain ⟨r1, z1, f1, hc, H⟩ := H
      refine rc_call (t := 34) (ls' := [some (vR 0), some (vI x1), some (vI x2), some (vI x3), some (vI x4)]) (st' := []) (bc22_64_15 (mcall (d + 5)) x4 _ z f) hc ?_
      show RC (mcall (d + 5)) (mP 64) 34 [some (vR 0), some (vI x1), some (vI x2), some (vI x3), some (vI x4)] [vI r1] (LR z1 f1) res
      refine rc_if (it := 37) (ie := 35) (ls' := [some (vR 0), some (vI x1), some (vI x2), some (vI x3), some (vI x4)]) (st' := []) (bc22_64_16 (mcall (d + 5)) r1 _ _) (fun q4 => ?_) (fun q4 => ?_)
      · have H := H.1 (cI0t q4)
        refine rc_b (i' := 38) (ls' := [some (vR 0), some (vI x1), some (vI x2), some (vI x3), some (vI (x4 + 1))]) (st' := []) (L' := LR z1 f1) 1 (bc22_64_12 (mcall (d + 5)) x1 x2 x3 x4 _) ?_
        refine rc_b (i' := 22) (ls' := [some (vR 0), some (vI x1), some (vI x2), some (vI x3), some (vI (x4 + 1))]) (st' := []) (L' := LR z1 f1) 1 (bc22_64_13 (mcall (d + 5)) x1 x2 x3 (x4 + 1) _) ?_
        exact H
      · have H := H.2 (cI0f q4)
        refine rc_b (i' := 37) (ls' := [some (vR 0), some (vI x1), some (vI x2), some (vI 0), some (vI x4)]) (st' := []) (L' := LR z1 f1) 2 (bc22_64_17 (mcall (d + 5)) x1 x2 x3 x4 _) ?_
        refine rc_b (i' := 38) (ls' := [some (vR 0), some (vI x1), some (vI x2), some (vI 0), some (vI (x4 + 1))]) (st' := []) (L' := LR z1 f1) 1 (bc22_64_12 (mcall (d + 5)) x1 x2 0 x4 _) ?_
        refine rc_b (i' := 22) (ls' := [some (vR 0), some (vI x1), some (vI x2), some (vI 0), some (vI (x4 + 1))]) (st' := []) (L' := LR z1 f1) 1 (bc22_64_13 (mcall (d + 5)) x1 x2 0 (x4 + 1) _) ?_
        exact H
set_option maxRecDepth 100000 in
theorem b65_1 (call : QC FA) (x1 : Int32) (L : QH FA) (F : Nat) : rnG call 65 (F + 2) 0 [some (vR 0), some (vI x1)] [] L = rnG call 65 F 2 [some (vR 0), some (vI x1)] [vI 12, vI x1] L := rfl
set_option maxRecDepth 100000 in
theorem b65_2 (call : QC FA) (x y : Int32) (ls : List (Option PV)) (L : QH FA) (F : Nat) : rnG call 65 (F + 1) 2 ls [vI y, vI x] L = bif pcmp 2 x y then rnG call 65 F 15 ls [] L else rnG call 65 F 3 ls [] L := rfl
set_option maxRecDepth 100000 in
theorem b65_3 (call : QC FA) (x1 : Int32) (L : QH FA) (F : Nat) : rnG call 65 (F + 2) 15 [some (vR 0), some (vI x1)] [] L = rnG call 65 F 18 [some (vR 0), some (vI x1)] [vI 1] L := rfl
set_option maxRecDepth 100000 in
theorem b65_4 (call : QC FA) (ls : List (Option PV)) (L : QH FA) (F : Nat) : rnG call 65 (F + 1) 18 ls [vI 1] L = some (some (vI 1), L) := rfl
set_option maxRecDepth 100000 in
theorem b65_5 (call : QC FA) (x1 : Int32) (L : QH FA) (F : Nat) : rnG call 65 (F + 2) 3 [some (vR 0), some (vI x1)] [] L = rnG call 65 F 5 [some (vR 0), some (vI x1)] [vI 132, vI x1] L := rfl
set_option maxRecDepth 100000 in
theorem b65_6 (call : QC FA) (x y : Int32) (ls : List (Option PV)) (L : QH FA) (F : Nat) : rnG call 65 (F + 1) 5 ls [vI y, vI x] L = bif pcmp 3 x y then rnG call 65 F 15 ls [] L else rnG call 65 F 6 ls [] L := rfl
set_option maxRecDepth 100000 in
theorem b65_7 (call : QC FA) (x1 : Int32) (L : QH FA) (F : Nat) : rnG call 65 (F + 2) 6 [some (vR 0), some (vI x1)] [] L = rnG call 65 F 8 [some (vR 0), some (vI x1)] [vI 12, vI x1] L := rfl
set_option maxRecDepth 100000 in
theorem b65_8 (call : QC FA) (x y : Int32) (ls : List (Option PV)) (L : QH FA) (F : Nat) : rnG call 65 (F + 1) 8 ls [vI y, vI x] L = bif pcmp 1 y 0 then rnG call 65 F 9 ls [vI (x - x / y * y)] L else none := rfl
set_option maxRecDepth 100000 in
theorem b65_9 (call : QC FA) (x : Int32) (ls : List (Option PV)) (L : QH FA) (F : Nat) : rnG call 65 (F + 1) 9 ls [vI x] L = bif pcmp 0 x 0 then rnG call 65 F 15 ls [] L else rnG call 65 F 10 ls [] L := rfl
set_option maxRecDepth 100000 in
theorem b65_10 (call : QC FA) (x1 : Int32) (L : QH FA) (F : Nat) : rnG call 65 (F + 2) 10 [some (vR 0), some (vI x1)] [] L = rnG call 65 F 12 [some (vR 0), some (vI x1)] [vI 12, vI x1] L := rfl
set_option maxRecDepth 100000 in
theorem b65_11 (call : QC FA) (x y : Int32) (ls : List (Option PV)) (L : QH FA) (F : Nat) : rnG call 65 (F + 1) 12 ls [vI y, vI x] L = bif pcmp 1 y 0 then rnG call 65 F 13 ls [vI (x - x / y * y)] L else none := rfl
set_option maxRecDepth 100000 in
theorem b65_12 (call : QC FA) (x1 : Int32) (s0 : Int32) (L : QH FA) (F : Nat) : rnG call 65 (F + 1) 13 [some (vR 0), some (vI x1)] [vI s0] L = rnG call 65 F 14 [some (vR 0), some (vI x1)] [vI 11, vI s0] L := rfl
set_option maxRecDepth 100000 in
theorem b65_13 (call : QC FA) (x y : Int32) (ls : List (Option PV)) (L : QH FA) (F : Nat) : rnG call 65 (F + 1) 14 ls [vI y, vI x] L = bif pcmp 1 x y then rnG call 65 F 17 ls [] L else rnG call 65 F 15 ls [] L := rfl
set_option maxRecDepth 100000 in
theorem b65_14 (call : QC FA) (x1 : Int32) (L : QH FA) (F : Nat) : rnG call 65 (F + 1) 17 [some (vR 0), some (vI x1)] [] L = rnG call 65 F 18 [some (vR 0), some (vI x1)] [vI 0] L := rfl
set_option maxRecDepth 100000 in
theorem b65_15 (call : QC FA) (ls : List (Option PV)) (L : QH FA) (F : Nat) : rnG call 65 (F + 1) 18 ls [vI 0] L = some (some (vI 0), L) := rfl
theorem vc65_0 (d : Nat) (x1 : Int32) (z : Nat → Int32) (f : Nat → FA) (res : Option PV × QH FA) (H : ((I x1 < 12 → res = (some (vI 1), LR z f)) ∧ (12 ≤ I x1 → ((132 ≤ I x1 → res = (some (vI 1), LR z f)) ∧ (I x1 < 132 → (¬ (12 : Int32) = 0 ∧ ((x1 - x1 / 12 * 12 = 0 → res = (some (vI 1), LR z f)) ∧ (¬ x1 - x1 / 12 * 12 = 0 → (¬ (12 : Int32) = 0 ∧ ((¬ x1 - x1 / 12 * 12 = 11 → res = (some (vI 0), LR z f)) ∧ (x1 - x1 / 12 * 12 = 11 → res = (some (vI 1), LR z f)))))))))))) : RC (mcall (d + 5)) (mP 65) 0 [some (vR 0), some (vI x1)] [] (LR z f) res := by
  refine rc_b (i' := 2) (ls' := [some (vR 0), some (vI x1)]) (st' := [vI 12, vI x1]) (L' := LR z f) 2 (b65_1 (mcall (d + 5)) x1 _) ?_
  refine rc_if (it := 15) (ie := 3) (ls' := [some (vR 0), some (vI x1)]) (st' := []) (b65_2 (mcall (d + 5)) x1 12 _ _) (fun q1 => ?_) (fun q1 => ?_)
  · have H := H.1 (cI2t q1 rfl rfl)
    refine rc_b (i' := 18) (ls' := [some (vR 0), some (vI x1)]) (st' := [vI 1]) (L' := LR z f) 2 (b65_3 (mcall (d + 5)) x1 _) ?_
    subst H
    exact rc_ret (b65_4 (mcall (d + 5)) _ _)
  · have H := H.2 (cI2f q1 rfl rfl)
    refine rc_b (i' := 5) (ls' := [some (vR 0), some (vI x1)]) (st' := [vI 132, vI x1]) (L' := LR z f) 2 (b65_5 (mcall (d + 5)) x1 _) ?_
    refine rc_if (it := 15) (ie := 6) (ls' := [some (vR 0), some (vI x1)]) (st' := []) (b65_6 (mcall (d + 5)) x1 132 _ _) (fun q2 => ?_) (fun q2 => ?_)
    · have H := H.1 (cI3t q2 rfl rfl)
      refine rc_b (i' := 18) (ls' := [some (vR 0), some (vI x1)]) (st' := [vI 1]) (L' := LR z f) 2 (b65_3 (mcall (d + 5)) x1 _) ?_
      subst H
      exact rc_ret (b65_4 (mcall (d + 5)) _ _)
    · have H := H.2 (cI3f q2 rfl rfl)
      refine rc_b (i' := 8) (ls' := [some (vR 0), some (vI x1)]) (st' := [vI 12, vI x1]) (L' := LR z f) 2 (b65_7 (mcall (d + 5)) x1 _) ?_
      obtain ⟨g1, H⟩ := H
      refine rc_g (i' := 9) (ls' := [some (vR 0), some (vI x1)]) (st' := [vI (x1 - x1 / 12 * 12)]) (L' := LR z f) (b65_8 (mcall (d + 5)) x1 12 _ _) (cmp_ne.trans (decide_eq_true g1)) ?_
      refine rc_if (it := 15) (ie := 10) (ls' := [some (vR 0), some (vI x1)]) (st' := []) (b65_9 (mcall (d + 5)) (x1 - x1 / 12 * 12) _ _) (fun q3 => ?_) (fun q3 => ?_)
      · have H := H.1 (cI0t q3)
        refine rc_b (i' := 18) (ls' := [some (vR 0), some (vI x1)]) (st' := [vI 1]) (L' := LR z f) 2 (b65_3 (mcall (d + 5)) x1 _) ?_
        subst H
        exact rc_ret (b65_4 (mcall (d + 5)) _ _)
      · have H := H.2 (cI0f q3)
        refine rc_b (i' := 12) (ls' := [some (vR 0), some (vI x1)]) (st' := [vI 12, vI x1]) (L' := LR z f) 2 (b65_10 (mcall (d + 5)) x1 _) ?_
        obtain ⟨g1, H⟩ := H
        refine rc_g (i' := 13) (ls' := [some (vR 0), some (vI x1)]) (st' := [vI (x1 - x1 / 12 * 12)]) (L' := LR z f) (b65_11 (mcall (d + 5)) x1 12 _ _) (cmp_ne.trans (decide_eq_true g1)) ?_
        refine rc_b (i' := 14) (ls' := [some (vR 0), some (vI x1)]) (st' := [vI 11, vI (x1 - x1 / 12 * 12)]) (L' := LR z f) 1 (b65_12 (mcall (d + 5)) x1 (x1 - x1 / 12 * 12) _) ?_
        refine rc_if (it := 17) (ie := 15) (ls' := [some (vR 0), some (vI x1)]) (st' := []) (b65_13 (mcall (d + 5)) (x1 - x1 / 12 * 12) 11 _ _) (fun q4 => ?_) (fun q4 => ?_)
        · have H := H.1 (cI1t q4)
          refine rc_b (i' := 18) (ls' := [some (vR 0), some (vI x1)]) (st' := [vI 0]) (L' := LR z f) 1 (b65_14 (mcall (d + 5)) x1 _) ?_
          subst H
          exact rc_ret (b65_15 (mcall (d + 5)) _ _)
        · have H := H.2 (cI1f q4)
          refine rc_b (i' := 18) (ls' := [some (vR 0), some (vI x1)]) (st' := [vI 1]) (L' := LR z f) 2 (b65_3 (mcall (d + 5)) x1 _) ?_
          subst H
          exact rc_ret (b65_4 (mcall (d + 5)) _ _)
set_option maxRecDepth 100000 in
theorem b66_1 (call : QC FA) (x1 : Int32) (o2 : Option PV) (o3 : Option PV) (o4 : Option PV) (L : QH FA) (F : Nat) : rnG call 66 (F + 6) 0 [some (vR 0), some (vI x1), o2, o3, o4] [] L = rnG call 66 F 6 [some (vR 0), some (vI x1), some (vI 0), some (vI 0), some (vI 0)] [] L := rfl
theorem vc66_0 (d : Nat) (x1 : Int32) (o2 : Option PV) (o3 : Option PV) (o4 : Option PV) (z : Nat → Int32) (f : Nat → FA) (res : Option PV × QH FA) (H : RC (mcall (d + 5)) (mP 66) 6 [some (vR 0), some (vI x1), some (vI 0), some (vI 0), some (vI 0)] [] (LR z f) res) : RC (mcall (d + 5)) (mP 66) 0 [some (vR 0), some (vI x1), o2, o3, o4] [] (LR z f) res := by
  refine rc_b (i' := 6) (ls' := [some (vR 0), some (vI x1), some (vI 0), some (vI 0), some (vI 0)]) (st' := []) (L' := LR z f) 6 (b66_1 (mcall (d + 5)) x1 o2 o3 o4 _) ?_
  exact H
set_option maxRecDepth 100000 in
theorem bc6_66_1 (call : QC FA) (x1 : Int32) (x2 : Int32) (x3 : Int32) (x4 : Int32) (L : QH FA) (F : Nat) : rnG call 66 (F + 2) 6 [some (vR 0), some (vI x1), some (vI x2), some (vI x3), some (vI x4)] [] L = rnG call 66 F 8 [some (vR 0), some (vI x1), some (vI x2), some (vI x3), some (vI x4)] [vI 144, vI x4] L := rfl
set_option maxRecDepth 100000 in
theorem bc6_66_2 (call : QC FA) (x y : Int32) (ls : List (Option PV)) (L : QH FA) (F : Nat) : rnG call 66 (F + 1) 8 ls [vI y, vI x] L = bif pcmp 3 x y then rnG call 66 F 33 ls [] L else rnG call 66 F 9 ls [] L := rfl
set_option maxRecDepth 100000 in
theorem bc6_66_3 (call : QC FA) (x1 : Int32) (x2 : Int32) (x3 : Int32) (x4 : Int32) (L : QH FA) (F : Nat) : rnG call 66 (F + 1) 33 [some (vR 0), some (vI x1), some (vI x2), some (vI x3), some (vI x4)] [] L = rnG call 66 F 34 [some (vR 0), some (vI x1), some (vI x2), some (vI x3), some (vI x4)] [vI x1] L := rfl
set_option maxRecDepth 100000 in
theorem bc6_66_4 (call : QC FA) (x : Int32) (ls : List (Option PV)) (L : QH FA) (F : Nat) : rnG call 66 (F + 1) 34 ls [vI x] L = bif pcmp 0 x 0 then rnG call 66 F 37 ls [] L else rnG call 66 F 35 ls [] L := rfl
set_option maxRecDepth 100000 in
theorem bc6_66_5 (call : QC FA) (x1 : Int32) (x2 : Int32) (x3 : Int32) (x4 : Int32) (L : QH FA) (F : Nat) : rnG call 66 (F + 1) 37 [some (vR 0), some (vI x1), some (vI x2), some (vI x3), some (vI x4)] [] L = rnG call 66 F 38 [some (vR 0), some (vI x1), some (vI x2), some (vI x3), some (vI x4)] [vI x2] L := rfl
set_option maxRecDepth 100000 in
theorem bc6_66_6 (call : QC FA) (x : Int32) (ls : List (Option PV)) (L : QH FA) (F : Nat) : rnG call 66 (F + 1) 38 ls [vI x] L = some (some (vI x), L) := rfl
set_option maxRecDepth 100000 in
theorem bc6_66_7 (call : QC FA) (x1 : Int32) (x2 : Int32) (x3 : Int32) (x4 : Int32) (L : QH FA) (F : Nat) : rnG call 66 (F + 2) 35 [some (vR 0), some (vI x1), some (vI x2), some (vI x3), some (vI x4)] [] L = rnG call 66 F 38 [some (vR 0), some (vI x1), some (vI x2), some (vI x3), some (vI x4)] [vI x3] L := rfl
set_option maxRecDepth 100000 in
theorem bc6_66_8 (call : QC FA) (x1 : Int32) (x2 : Int32) (x3 : Int32) (x4 : Int32) (z : Nat → Int32) (f : Nat → FA) (F : Nat) : rnG call 66 (F + 3) 9 [some (vR 0), some (vI x1), some (vI x2), some (vI x3), some (vI x4)] [] (LR z f) = rnG call 66 F 12 [some (vR 0), some (vI x1), some (vI x2), some (vI x3), some (vI x4)] [vI x4, vR 23] (LR z f) := rfl
set_option maxRecDepth 100000 in
theorem bc6_66_9 (call : QC FA) (x : Int32) (ls : List (Option PV)) (z : Nat → Int32) (f : Nat → FA) (F : Nat) : rnG call 66 (F + 1) 12 ls [vI x, vR 23] (LR z f) = bif (Nat.beq 0 0 && pin x 144) then rnG call 66 F 13 ls [vI (f 23 (ix x))] (LR z f) else none := rfl
set_option maxRecDepth 100000 in
theorem bc6_66_10 (call : QC FA) (x1 : Int32) (x2 : Int32) (x3 : Int32) (x4 : Int32) (s0 : Int32) (L : QH FA) (F : Nat) : rnG call 66 (F + 1) 13 [some (vR 0), some (vI x1), some (vI x2), some (vI x3), some (vI x4)] [vI s0] L = rnG call 66 F 14 [some (vR 0), some (vI x1), some (vI x2), some (vI x3), some (vI x4)] [vI x4, vI s0] L := rfl
set_option maxRecDepth 100000 in
theorem bc6_66_11 (call : QC FA) (x y : Int32) (ls : List (Option PV)) (L : QH FA) (F : Nat) : rnG call 66 (F + 1) 14 ls [vI y, vI x] L = bif pcmp 1 x y then rnG call 66 F 31 ls [] L else rnG call 66 F 15 ls [] L := rfl
set_option maxRecDepth 100000 in
theorem bc6_66_12 (call : QC FA) (x1 : Int32) (x2 : Int32) (x3 : Int32) (x4 : Int32) (L : QH FA) (F : Nat) : rnG call 66 (F + 1) 31 [some (vR 0), some (vI x1), some (vI x2), some (vI x3), some (vI x4)] [] L = rnG call 66 F 32 [some (vR 0), some (vI x1), some (vI x2), some (vI x3), some (vI (x4 + 1))] [] L := rfl
set_option maxRecDepth 100000 in
theorem bc6_66_13 (call : QC FA) (x1 : Int32) (x2 : Int32) (x3 : Int32) (x4 : Int32) (L : QH FA) (F : Nat) : rnG call 66 (F + 1) 32 [some (vR 0), some (vI x1), some (vI x2), some (vI x3), some (vI x4)] [] L = rnG call 66 F 6 [some (vR 0), some (vI x1), some (vI x2), some (vI x3), some (vI x4)] [] L := rfl
set_option maxRecDepth 100000 in
theorem bc6_66_14 (call : QC FA) (x1 : Int32) (x2 : Int32) (x3 : Int32) (x4 : Int32) (L : QH FA) (F : Nat) : rnG call 66 (F + 2) 15 [some (vR 0), some (vI x1), some (vI x2), some (vI x3), some (vI x4)] [] L = rnG call 66 F 17 [some (vR 0), some (vI x1), some (vI x2), some (vI x3), some (vI x4)] [vI x4, vR 0] L := rfl
set_option maxRecDepth 100000 in
theorem bc6_66_15 (call : QC FA) (a0 : Int32) (ls : List (Option PV)) (z : Nat → Int32) (f : Nat → FA) (F : Nat) : rnG call 66 (F + 1) 17 ls [vI a0, vR 0] (LR z f) = cbd (call 49 [vR 0, vI a0] (LR z f)) (fun r L' => rnG call 66 F 18 ls (r.toList ++ []) L') := pcY (ih := rnG call 66 F) (call := call) (a := 49) (b := 1) (v := 12) (t := 18) (x := 0) (ls := ls) (As := [vI a0]) (st' := []) (L := LR z f) rfl rfl rfl
set_option maxRecDepth 100000 in
theorem bc6_66_16 (call : QC FA) (x : Int32) (ls : List (Option PV)) (L : QH FA) (F : Nat) : rnG call 66 (F + 1) 18 ls [vI x] L = bif pcmp 1 x 0 then rnG call 66 F 20 ls [] L else rnG call 66 F 19 ls [] L := rfl
set_option maxRecDepth 100000 in
theorem bc6_66_17 (call : QC FA) (x1 : Int32) (x2 : Int32) (x3 : Int32) (x4 : Int32) (L : QH FA) (F : Nat) : rnG call 66 (F + 8) 20 [some (vR 0), some (vI x1), some (vI x2), some (vI x3), some (vI x4)] [] L = rnG call 66 F 28 [some (vR 0), some (vI x1), some (vI (x2 + 1)), some (vI x3), some (vI x4)] [vI x4, vR 0, vI x3, vR 0] L := rfl
set_option maxRecDepth 100000 in
theorem bc6_66_18 (call : QC FA) (a0 : Int32) (s0 : Int32) (ls : List (Option PV)) (z : Nat → Int32) (f : Nat → FA) (F : Nat) : rnG call 66 (F + 1) 28 ls [vI a0, vR 0, vI s0, vR 0] (LR z f) = cbd (call 67 [vR 0, vI a0] (LR z f)) (fun r L' => rnG call 66 F 29 ls (r.toList ++ [vI s0, vR 0]) L') := pcY (ih := rnG call 66 F) (call := call) (a := 67) (b := 1) (v := 12) (t := 29) (x := 0) (ls := ls) (As := [vI a0]) (st' := [vI s0, vR 0]) (L := LR z f) rfl rfl rfl
set_option maxRecDepth 100000 in
theorem bc6_66_19 (call : QC FA) (a0 : Int32) (a1 : Int32) (ls : List (Option PV)) (z : Nat → Int32) (f : Nat → FA) (F : Nat) : rnG call 66 (F + 1) 29 ls [vI a1, vI a0, vR 0] (LR z f) = cbd (call 68 [vR 0, vI a0, vI a1] (LR z f)) (fun r L' => rnG call 66 F 30 ls (r.toList ++ []) L') := pcY (ih := rnG call 66 F) (call := call) (a := 68) (b := 2) (v := 12) (t := 30) (x := 0) (ls := ls) (As := [vI a0, vI a1]) (st' := []) (L := LR z f) rfl rfl rfl
set_option maxRecDepth 100000 in
theorem bc6_66_20 (call : QC FA) (x1 : Int32) (x2 : Int32) (x3 : Int32) (x4 : Int32) (s0 : Int32) (L : QH FA) (F : Nat) : rnG call 66 (F + 1) 30 [some (vR 0), some (vI x1), some (vI x2), some (vI x3), some (vI x4)] [vI s0] L = rnG call 66 F 31 [some (vR 0), some (vI x1), some (vI x2), some (vI s0), some (vI x4)] [] L := rfl
set_option maxRecDepth 100000 in
theorem bc6_66_21 (call : QC FA) (x1 : Int32) (x2 : Int32) (x3 : Int32) (x4 : Int32) (L : QH FA) (F : Nat) : rnG call 66 (F + 1) 19 [some (vR 0), some (vI x1), some (vI x2), some (vI x3), some (vI x4)] [] L = rnG call 66 F 31 [some (vR 0), some (vI x1), some (vI x2), some (vI x3), some (vI x4)] [] L := rfl
theorem vcc6_66_6 (d : Nat) (x1 : Int32) (x2 : Int32) (x3 : Int32) (x4 : Int32) (z : Nat → Int32) (f : Nat → FA) (res : Option PV × QH FA) (H : ((144 ≤ I x4 → ((x1 = 0 → res = (some (vI x2), LR z f)) ∧ (¬ x1 = 0 → res = (some (vI x3), LR z f)))) ∧ (I x4 < 144 → (pin x4 144 = true ∧ ((¬ f 23 (ix x4) = x4 → RC (mcall (d + 5)) (mP 66) 6 [some (vR 0), some (vI x1), some (vI x2), some (vI x3), some (vI (x4 + 1))] [] (LR z f) res) ∧ (f 23 (ix x4) = x4 → (∃ (r1 : Int32) (z1 : Nat → Int32) (f1 : Nat → FA), (mcall (d + 5)) 49 [vR 0, vI x4] (LR z f) = some (some (vI r1), LR z1 f1) ∧ ((¬ r1 = 0 → (∃ (r2 : Int32) (z2 : Nat → Int32) (f2 : Nat → FA), (mcall (d + 5)) 67 [vR 0, vI x4] (LR z1 f1) = some (some (vI r2), LR z2 f2) ∧ (∃ (r3 : Int32) (z3 : Nat → Int32) (f3 : Nat → FA), (mcall (d + 5)) 68 [vR 0, vI x3, vI r2] (LR z2 f2) = some (some (vI r3), LR z3 f3) ∧ RC (mcall (d + 5)) (mP 66) 6 [some (vR 0), some (vI x1), some (vI (x2 + 1)), some (vI r3), some (vI (x4 + 1))] [] (LR z3 f3) res))) ∧ (r1 = 0 → RC (mcall (d + 5)) (mP 66) 6 [some (vR 0), some (vI x1), some (vI x2), some (vI x3), some (vI (x4 + 1))] [] (LR z1 f1) res))))))))) : RC (mcall (d + 5)) (mP 66) 6 [some (vR 0), some (vI x1), some (vI x2), some (vI x3), some (vI x4)] [] (LR z f) res := by
  refine rc_b (i' := 8) (ls' := [some (vR 0), some (vI x1), some (vI x2), some (vI x3), some (vI x4)]) (st' := [vI 144, vI x4]) (L' := LR z f) 2 (bc6_66_1 (mcall (d + 5)) x1 x2 x3 x4 _) ?_
  refine rc_if (it := 33) (ie := 9) (ls' := [some (vR 0), some (vI x1), some (vI x2), some (vI x3), some (vI x4)]) (st' := []) (bc6_66_2 (mcall (d + 5)) x4 144 _ _) (fun q1 => ?_) (fun q1 => ?_)
  · have H := H.1 (cI3t q1 rfl rfl)
    refine rc_b (i' := 34) (ls' := [some (vR 0), some (vI x1), some (vI x2), some (vI x3), some (vI x4)]) (st' := [vI x1]) (L' := LR z f) 1 (bc6_66_3 (mcall (d + 5)) x1 x2 x3 x4 _) ?_
    refine rc_if (it := 37) (ie := 35) (ls' := [some (vR 0), some (vI x1), some (vI x2), some (vI x3), some (vI x4)]) (st' := []) (bc6_66_4 (mcall (d + 5)) x1 _ _) (fun q2 => ?_) (fun q2 => ?_)
    · have H := H.1 (cI0t q2)
      refine rc_b (i' := 38) (ls' := [some (vR 0), some (vI x1), some (vI x2), some (vI x3), some (vI x4)]) (st' := [vI x2]) (L' := LR z f) 1 (bc6_66_5 (mcall (d + 5)) x1 x2 x3 x4 _) ?_
      subst H
      exact rc_ret (bc6_66_6 (mcall (d + 5)) _ _ _)
    · have H := H.2 (cI0f q2)
      refine rc_b (i' := 38) (ls' := [some (vR 0), some (vI x1), some (vI x2), some (vI x3), some (vI x4)]) (st' := [vI x3]) (L' := LR z f) 2 (bc6_66_7 (mcall (d + 5)) x1 x2 x3 x4 _) ?_
      subst H
      exact rc_ret (bc6_66_6 (mcall (d + 5)) _ _ _)
  · have H := H.2 (cI3f q1 rfl rfl)
    refine rc_b (i' := 12) (ls' := [some (vR 0), some (vI x1), some (vI x2), some (vI x3), some (vI x4)]) (st' := [vI x4, vR 23]) (L' := LR z f) 3 (bc6_66_8 (mcall (d + 5)) x1 x2 x3 x4 z f) ?_
    obtain ⟨g1, H⟩ := H
    refine rc_g (i' := 13) (ls' := [some (vR 0), some (vI x1), some (vI x2), some (vI x3), some (vI x4)]) (st' := [vI (f 23 (ix x4))]) (L' := LR z f) (bc6_66_9 (mcall (d + 5)) x4 _ z f) (pinG g1) ?_
    refine rc_b (i' := 14) (ls' := [some (vR 0), some (vI x1), some (vI x2), some (vI x3), some (vI x4)]) (st' := [vI x4, vI (f 23 (ix x4))]) (L' := LR z f) 1 (bc6_66_10 (mcall (d + 5)) x1 x2 x3 x4 (f 23 (ix x4)) _) ?_
    refine rc_if (it := 31) (ie := 15) (ls' := [some (vR 0), some (vI x1), some (vI x2), some (vI x3), some (vI x4)]) (st' := []) (bc6_66_11 (mcall (d + 5)) (f 23 (ix x4)) x4 _ _) (fun q3 => ?_) (fun q3 => ?_)
    · have H := H.1 (cI1t q3)
      refine rc_b (i' := 32) (ls' := [some (vR 0), some (vI x1), some (vI x2), some (vI x3), some (vI (x4 + 1))]) (st' := []) (L' := LR z f) 1 (bc6_66_12 (mcall (d + 5)) x1 x2 x3 x4 _) ?_
      refine rc_b (i' := 6) (ls' := [some (vR 0), some (vI x1), some (vI x2), some (vI x3), some (vI (x4 + 1))]) (st' := []) (L' := LR z f) 1 (bc6_66_13 (mcall (d + 5)) x1 x2 x3 (x4 + 1) _) ?_
      exact H
    · have H := H.2 (cI1f q3)
      refine rc_b (i' := 17) (ls' := [some (vR 0), some (vI x1), some (vI x2), some (vI x3), some (vI x4)]) (st' := [vI x4, vR 0]) (L' := LR z f) 2 (bc6_66_14 (mcall (d + 5)) x1 x2 x3 x4 _) ?_
      obtain ⟨r1, z1, f1, hc, H⟩ := H
      refine rc_call (t := 18) (ls' := [some (vR 0), some (vI x1), some (vI x2), some (vI x3), some (vI x4)]) (st' := []) (bc6_66_15 (mcall (d + 5)) x4 _ z f) hc ?_
      show RC (mcall (d + 5)) (mP 66) 18 [some (vR 0), some (vI x1), some (vI x2), some (vI x3), some (vI x4)] [vI r1] (LR z1 f1) res
      refine rc_if (it := 20) (ie := 19) (ls' := [some (vR 0), some (vI x1), some (vI x2), some (vI x3), some (vI x4)]) (st' := []) (bc6_66_16 (mcall (d + 5)) r1 _ _) (fun q4 => ?_) (fun q4 => ?_)
      · have H := H.1 (cI1t q4)
        refine rc_b (i' := 28) (ls' := [some (vR 0), some (vI x1), some (vI (x2 + 1)), some (vI x3), some (vI x4)]) (st' := [vI x4, vR 0, vI x3, vR 0]) (L' := LR z1 f1) 8 (bc6_66_17 (mcall (d + 5)) x1 x2 x3 x4 _) ?_
        obtain ⟨r2, z2, f2, hc, H⟩ := H
        refine rc_call (t := 29) (ls' := [some (vR 0), some (vI x1), some (vI (x2 + 1)), some (vI x3), some (vI x4)]) (st' := [vI x3, vR 0]) (bc6_66_18 (mcall (d + 5)) x4 x3 _ z1 f1) hc ?_
        show RC (mcall (d + 5)) (mP 66) 29 [some (vR 0), some (vI x1), some (vI (x2 + 1)), some (vI x3), some (vI x4)] [vI r2, vI x3, vR 0] (LR z2 f2) res
        obtain ⟨r3, z3, f3, hc, H⟩ := H
        refine rc_call (t := 30) (ls' := [some (vR 0), some (vI x1), some (vI (x2 + 1)), some (vI x3), some (vI x4)]) (st' := []) (bc6_66_19 (mcall (d + 5)) x3 r2 _ z2 f2) hc ?_
        show RC (mcall (d + 5)) (mP 66) 30 [some (vR 0), some (vI x1), some (vI (x2 + 1)), some (vI x3), some (vI x4)] [vI r3] (LR z3 f3) res
        refine rc_b (i' := 31) (ls' := [some (vR 0), some (vI x1), some (vI (x2 + 1)), some (vI r3), some (vI x4)]) (st' := []) (L' := LR z3 f3) 1 (bc6_66_20 (mcall (d + 5)) x1 (x2 + 1) x3 x4 r3 _) ?_
        refine rc_b (i' := 32) (ls' := [some (vR 0), some (vI x1), some (vI (x2 + 1)), some (vI r3), some (vI (x4 + 1))]) (st' := []) (L' := LR z3 f3) 1 (bc6_66_12 (mcall (d + 5)) x1 (x2 + 1) r3 x4 _) ?_
        refine rc_b (i' := 6) (ls' := [some (vR 0), some (vI x1), some (vI (x2 + 1)), some (vI r3), some (vI (x4 + 1))]) (st' := []) (L' := LR z3 f3) 1 (bc6_66_13 (mcall (d + 5)) x1 (x2 + 1) r3 (x4 + 1) _) ?_
        exact H
      · have H := H.2 (cI1f q4)
        refine rc_b (i' := 31) (ls' := [some (vR 0), some (vI x1), some (vI x2), some (vI x3), some (vI x4)]) (st' := []) (L' := LR z1 f1) 1 (bc6_66_21 (mcall (d + 5)) x1 x2 x3 x4 _) ?_
        refine rc_b (i' := 32) (ls' := [some (vR 0), some (vI x1), some (vI x2), some (vI x3), some (vI (x4 + 1))]) (st' := []) (L' := LR z1 f1) 1 (bc6_66_12 (mcall (d + 5)) x1 x2 x3 x4 _) ?_
        refine rc_b (i' := 6) (ls' := [some (vR 0), some (vI x1), some (vI x2), some (vI x3), some (vI (x4 + 1))]) (st' := []) (L' := LR z1 f1) 1 (bc6_66_13 (mcall (d + 5)) x1 x2 x3 (x4 + 1) _) ?_
        exact H
set_option maxRecDepth 100000 in
theorem b67_1 (call : QC FA) (x1 : Int32) (o2 : Option PV) (o3 : Option PV) (L : QH FA) (F : Nat) : rnG call 67 (F + 4) 0 [some (vR 0), some (vI x1), o2, o3] [] L = rnG call 67 F 4 [some (vR 0), some (vI x1), some (vI 0), some (vI 0)] [] L := rfl
theorem vc67_0 (d : Nat) (x1 : Int32) (o2 : Option PV) (o3 : Option PV) (z : Nat → Int32) (f : Nat → FA) (res : Option PV × QH FA) (H : RC (mcall (d + 5)) (mP 67) 4 [some (vR 0), some (vI x1), some (vI 0), some (vI 0)] [] (LR z f) res) : RC (mcall (d + 5)) (mP 67) 0 [some (vR 0), some (vI x1), o2, o3] [] (LR z f) res := by
  refine rc_b (i' := 4) (ls' := [some (vR 0), some (vI x1), some (vI 0), some (vI 0)]) (st' := []) (L' := LR z f) 4 (b67_1 (mcall (d + 5)) x1 o2 o3 _) ?_
  exact H
set_option maxRecDepth 100000 in
theorem bc4_67_1 (call : QC FA) (x1 : Int32) (x2 : Int32) (x3 : Int32) (L : QH FA) (F : Nat) : rnG call 67 (F + 2) 4 [some (vR 0), some (vI x1), some (vI x2), some (vI x3)] [] L = rnG call 67 F 6 [some (vR 0), some (vI x1), some (vI x2), some (vI x3)] [vI 144, vI x3] L := rfl
set_option maxRecDepth 100000 in
theorem bc4_67_2 (call : QC FA) (x y : Int32) (ls : List (Option PV)) (L : QH FA) (F : Nat) : rnG call 67 (F + 1) 6 ls [vI y, vI x] L = bif pcmp 3 x y then rnG call 67 F 19 ls [] L else rnG call 67 F 7 ls [] L := rfl
set_option maxRecDepth 100000 in
theorem bc4_67_3 (call : QC FA) (x1 : Int32) (x2 : Int32) (x3 : Int32) (L : QH FA) (F : Nat) : rnG call 67 (F + 1) 19 [some (vR 0), some (vI x1), some (vI x2), some (vI x3)] [] L = rnG call 67 F 20 [some (vR 0), some (vI x1), some (vI x2), some (vI x3)] [vI x2] L := rfl
set_option maxRecDepth 100000 in
theorem bc4_67_4 (call : QC FA) (x : Int32) (ls : List (Option PV)) (L : QH FA) (F : Nat) : rnG call 67 (F + 1) 20 ls [vI x] L = some (some (vI x), L) := rfl
set_option maxRecDepth 100000 in
theorem bc4_67_5 (call : QC FA) (x1 : Int32) (x2 : Int32) (x3 : Int32) (z : Nat → Int32) (f : Nat → FA) (F : Nat) : rnG call 67 (F + 3) 7 [some (vR 0), some (vI x1), some (vI x2), some (vI x3)] [] (LR z f) = rnG call 67 F 10 [some (vR 0), some (vI x1), some (vI x2), some (vI x3)] [vI x3, vR 23] (LR z f) := rfl
set_option maxRecDepth 100000 in
theorem bc4_67_6 (call : QC FA) (x : Int32) (ls : List (Option PV)) (z : Nat → Int32) (f : Nat → FA) (F : Nat) : rnG call 67 (F + 1) 10 ls [vI x, vR 23] (LR z f) = bif (Nat.beq 0 0 && pin x 144) then rnG call 67 F 11 ls [vI (f 23 (ix x))] (LR z f) else none := rfl
set_option maxRecDepth 100000 in
theorem bc4_67_7 (call : QC FA) (x1 : Int32) (x2 : Int32) (x3 : Int32) (s0 : Int32) (L : QH FA) (F : Nat) : rnG call 67 (F + 1) 11 [some (vR 0), some (vI x1), some (vI x2), some (vI x3)] [vI s0] L = rnG call 67 F 12 [some (vR 0), some (vI x1), some (vI x2), some (vI x3)] [vI x1, vI s0] L := rfl
set_option maxRecDepth 100000 in
theorem bc4_67_8 (call : QC FA) (x y : Int32) (ls : List (Option PV)) (L : QH FA) (F : Nat) : rnG call 67 (F + 1) 12 ls [vI y, vI x] L = bif pcmp 1 x y then rnG call 67 F 17 ls [] L else rnG call 67 F 13 ls [] L := rfl
set_option maxRecDepth 100000 in
theorem bc4_67_9 (call : QC FA) (x1 : Int32) (x2 : Int32) (x3 : Int32) (L : QH FA) (F : Nat) : rnG call 67 (F + 1) 17 [some (vR 0), some (vI x1), some (vI x2), some (vI x3)] [] L = rnG call 67 F 18 [some (vR 0), some (vI x1), some (vI x2), some (vI (x3 + 1))] [] L := rfl
set_option maxRecDepth 100000 in
theorem bc4_67_10 (call : QC FA) (x1 : Int32) (x2 : Int32) (x3 : Int32) (L : QH FA) (F : Nat) : rnG call 67 (F + 1) 18 [some (vR 0), some (vI x1), some (vI x2), some (vI x3)] [] L = rnG call 67 F 4 [some (vR 0), some (vI x1), some (vI x2), some (vI x3)] [] L := rfl
set_option maxRecDepth 100000 in
theorem bc4_67_11 (call : QC FA) (x1 : Int32) (x2 : Int32) (x3 : Int32) (L : QH FA) (F : Nat) : rnG call 67 (F + 4) 13 [some (vR 0), some (vI x1), some (vI x2), some (vI x3)] [] L = rnG call 67 F 17 [some (vR 0), some (vI x1), some (vI (x2 + 1)), some (vI x3)] [] L := rfl
theorem vcc4_67_4 (d : Nat) (x1 : Int32) (x2 : Int32) (x3 : Int32) (z : Nat → Int32) (f : Nat → FA) (res : Option PV × QH FA) (H : ((144 ≤ I x3 → res = (some (vI x2), LR z f)) ∧ (I x3 < 144 → (pin x3 144 = true ∧ ((¬ f 23 (ix x3) = x1 → RC (mcall (d + 5)) (mP 67) 4 [some (vR 0), some (vI x1), some (vI x2), some (vI (x3 + 1))] [] (LR z f) res) ∧ (f 23 (ix x3) = x1 → RC (mcall (d + 5)) (mP 67) 4 [some (vR 0), some (vI x1), some (vI (x2 + 1)), some (vI (x3 + 1))] [] (LR z f) res)))))) : RC (mcall (d + 5)) (mP 67) 4 [some (vR 0), some (vI x1), some (vI x2), some (vI x3)] [] (LR z f) res := by
  refine rc_b (i' := 6) (ls' := [some (vR 0), some (vI x1), some (vI x2), some (vI x3)]) (st' := [vI 144, vI x3]) (L' := LR z f) 2 (bc4_67_1 (mcall (d + 5)) x1 x2 x3 _) ?_
  refine rc_if (it := 19) (ie := 7) (ls' := [some (vR 0), some (vI x1), some (vI x2), some (vI x3)]) (st' := []) (bc4_67_2 (mcall (d + 5)) x3 144 _ _) (fun q1 => ?_) (fun q1 => ?_)
  · have H := H.1 (cI3t q1 rfl rfl)
    refine rc_b (i' := 20) (ls' := [some (vR 0), some (vI x1), some (vI x2), some (vI x3)]) (st' := [vI x2]) (L' := LR z f) 1 (bc4_67_3 (mcall (d + 5)) x1 x2 x3 _) ?_
    subst H
    exact rc_ret (bc4_67_4 (mcall (d + 5)) _ _ _)
  · have H := H.2 (cI3f q1 rfl rfl)
    refine rc_b (i' := 10) (ls' := [some (vR 0), some (vI x1), some (vI x2), some (vI x3)]) (st' := [vI x3, vR 23]) (L' := LR z f) 3 (bc4_67_5 (mcall (d + 5)) x1 x2 x3 z f) ?_
    obtain ⟨g1, H⟩ := H
    refine rc_g (i' := 11) (ls' := [some (vR 0), some (vI x1), some (vI x2), some (vI x3)]) (st' := [vI (f 23 (ix x3))]) (L' := LR z f) (bc4_67_6 (mcall (d + 5)) x3 _ z f) (pinG g1) ?_
    refine rc_b (i' := 12) (ls' := [some (vR 0), some (vI x1), some (vI x2), some (vI x3)]) (st' := [vI x1, vI (f 23 (ix x3))]) (L' := LR z f) 1 (bc4_67_7 (mcall (d + 5)) x1 x2 x3 (f 23 (ix x3)) _) ?_
    refine rc_if (it := 17) (ie := 13) (ls' := [some (vR 0), some (vI x1), some (vI x2), some (vI x3)]) (st' := []) (bc4_67_8 (mcall (d + 5)) (f 23 (ix x3)) x1 _ _) (fun q2 => ?_) (fun q2 => ?_)
    · have H := H.1 (cI1t q2)
      refine rc_b (i' := 18) (ls' := [some (vR 0), some (vI x1), some (vI x2), some (vI (x3 + 1))]) (st' := []) (L' := LR z f) 1 (bc4_67_9 (mcall (d + 5)) x1 x2 x3 _) ?_
      refine rc_b (i' := 4) (ls' := [some (vR 0), some (vI x1), some (vI x2), some (vI (x3 + 1))]) (st' := []) (L' := LR z f) 1 (bc4_67_10 (mcall (d + 5)) x1 x2 (x3 + 1) _) ?_
      exact H
    · have H := H.2 (cI1f q2)
      refine rc_b (i' := 17) (ls' := [some (vR 0), some (vI x1), some (vI (x2 + 1)), some (vI x3)]) (st' := []) (L' := LR z f) 4 (bc4_67_11 (mcall (d + 5)) x1 x2 x3 _) ?_
      refine rc_b (i' := 18) (ls' := [some (vR 0), some (vI x1), some (vI (x2 + 1)), some (vI (x3 + 1))]) (st' := []) (L' := LR z f) 1 (bc4_67_9 (mcall (d + 5)) x1 (x2 + 1) x3 _) ?_
      refine rc_b (i' := 4) (ls' := [some (vR 0), some (vI x1), some (vI (x2 + 1)), some (vI (x3 + 1))]) (st' := []) (L' := LR z f) 1 (bc4_67_10 (mcall (d + 5)) x1 (x2 + 1) (x3 + 1) _) ?_
      exact H
/-! parts: the reference -/
theorem rLesN (d : Nat) {a b : Nat} (ha : a < 2147483648) (hb : b < 2147483648) (z : Nat → Int32) (f : Nat → FA) : mcall (d + 6) 62 [vR 0, vI (nI a), vI (nI b)] (LR z f) = some (some (vI (nI (mnN a b))), LR z f) := by
  rw [← mn2_nI ha hb]
  exact rLesser d _ _ _ _
theorem rGtN (d : Nat) {a b : Nat} (ha : a < 2147483648) (hb : b < 2147483648) (z : Nat → Int32) (f : Nat → FA) : mcall (d + 6) 68 [vR 0, vI (nI a), vI (nI b)] (LR z f) = some (some (vI (nI (mxN a b))), LR z f) := by
  have ia := I_nI ha
  have ib := I_nI hb
  unfold mxN
  by_cases q : a < b
  · rw [if_pos q]
    exact mcall_i (mq68 (cu := [])).2.2 rfl (vc68_0 (mcall (d + 5)) _ _ z f _ ⟨fun _ => rfl, fun w => by omega⟩)
  · rw [if_neg q]
    refine mcall_i (mq68 (cu := [])).2.2 rfl (vc68_0 (mcall (d + 5)) _ _ z f _ ⟨fun w => ?_, fun _ => rfl⟩)
    rw [show a = b by omega]
theorem rMkV (d : Nat) {mk : Nat → Bool} {z : Nat → Int32} {f : Nat → FA} (hm : ∀ i, i < 144 → (mk i = true ↔ 0 < I (f 1 (67 + i)))) {i : Nat} (hi : i < 144) (g : FA) : mcall (d + 6) 49 [vR 0, vI (nI i)] (LR z (uA f 23 g)) = some (some (vI (mkV mk i)), LR z (uA f 23 g)) := by
  have q := mIs (d + 5) hi (z := z) (f := uA f 23 g)
  rw [uA_ne (show (1 : Nat) ≠ 23 by decide), mkV_p (hm i hi)] at q
  exact q
theorem fpIn (d : Nat) {mk : Nat → Bool} {z : Nat → Int32} {f : Nat → FA} (hm : ∀ i, i < 144 → (mk i = true ↔ 0 < I (f 1 (67 + i)))) : ∀ t c, c + t = 144 → ∀ (x1 : Int32) (M : Nat → Nat) (g : FA) (o3 : Option PV), x1 = 0 ∨ x1 = 1 → LBI mk M → (∀ i, i < 144 → g i = nI (M i)) → ∃ (x1' : Int32) (M' : Nat → Nat) (g' : FA) (o2' o3' : Option PV), LBI mk M' ∧ (∀ i, i < 144 → g' i = nI (M' i)) ∧ ((x1' = 0 ∧ x1 = 0 ∧ M' = M ∧ ∀ i, c ≤ i → i < 144 → l4W mk M i = M i) ∨ (x1' = 1 ∧ (x1 = 1 ∧ smW M' 144 ≤ smW M 144 ∨ smW M' 144 < smW M 144))) ∧ ∀ res, RC (mcall (d + 6)) (mP 63) 14 [some (vR 0), some (vI x1'), o2', o3'] [] (LR z (uA f 23 g')) res → RC (mcall (d + 6)) (mP 63) 20 [some (vR 0), some (vI x1), some (vI (nI c)), o3] [] (LR z (uA f 23 g)) res := by
  intro t
  induction t with
  | zero =>
    intro c hc x1 M g o3 hx h hg
    obtain rfl : c = 144 := by omega
    refine ⟨x1, M, g, some (vI (nI 144)), o3, h, hg, ?_, fun res r => vcc20_63_20 (d + 1) _ _ _ _ _ _ ⟨fun _ => r, fun q => absurd q (by decide)⟩⟩
    rcases hx with e | e
    · exact Or.inl ⟨e, e, rfl, fun i h1 h2 => by omega⟩
    · exact Or.inr ⟨e, Or.inl ⟨e, Nat.le_refl _⟩⟩
  | succ t ih =>
    intro c hc x1 M g o3 hx h hg
    have c144 : c < 144 := by omega
    have ic : I (nI c) = c := I_nI (by omega)
    have xc : ix (nI c) = c := ix_nI (by omega)
    have pc : pin (nI c) 144 = true := pin_nI c144 (by omega)
    have k1 : ∀ {i : Nat}, i < 144 → mcall (d + 6) 49 [vR 0, vI (nI i)] (LR z (uA f 23 g)) = some (some (vI (mkV mk i)), LR z (uA f 23 g)) := fun hi => rMkV d hm hi g
    have Mb : ∀ {i : Nat}, i < 144 → M i < 144 := fun hi => by have := h.1 _ hi; omega
    have b0 := Mb c144
    have b1 := l1W_le mk M c
    have b2 := l2W_le mk M c
    have b3 := l3W_le mk M c
    have er : nI c - nI c / 12 * 12 = nI (c % 12) := nrem (b := 12) rfl (by omega) (by decide) (by decide)
    have ir : I (nI c - nI c / 12 * 12) = ((c % 12 : Nat) : Int) := by rw [er]; exact I_nI (by omega)
    have e12 : nI c + 12 = nI (c + 12) := nI_add c 12
    have e1 : nI c + 1 = nI (c + 1) := nI_add c 1
    have s20 : ∀ res, RC (mcall (d + 6)) (mP 63) 50 [some (vR 0), some (vI x1), some (vI (nI c)), some (vI (nI (l1W mk M c)))] [] (LR z (uA f 23 g)) res → RC (mcall (d + 6)) (mP 63) 20 [some (vR 0), some (vI x1), some (vI (nI c)), o3] [] (LR z (uA f 23 g)) res := fun res r => by
      by_cases q : 12 ≤ c
      · have m12 : nI c - 12 = nI (c - 12) := nI_sub (b := 12) q
        by_cases e : mk c = mk (c - 12)
        · have v : l1W mk M c = mnN (M c) (M (c - 12)) := mnS_t ⟨q, e⟩
          rw [v] at r
          refine vcc20_63_20 (d + 1) _ _ _ _ _ _ ⟨fun q2 => by omega, fun _ => ⟨pc, fun q2 => by omega, fun _ => ⟨_, _, _, k1 c144, _, _, _, by rw [m12]; exact k1 (by omega), fun q2 => absurd (mkV_e.mpr e) q2, fun _ => ?_⟩⟩⟩
          rw [m12, xc, ix_nI (by omega), uA_self, hg c c144, hg (c - 12) (by omega)]
          exact ⟨pin_nI (by omega) (by omega), _, _, _, rLesN d (by omega) (by have := Mb (i := c - 12) (by omega); omega) _ _, r⟩
        · have v : l1W mk M c = M c := mnS_f (fun w => e w.2)
          rw [v] at r
          refine vcc20_63_20 (d + 1) _ _ _ _ _ _ ⟨fun q2 => by omega, fun _ => ⟨pc, fun q2 => by omega, fun _ => ⟨_, _, _, k1 c144, _, _, _, by rw [m12]; exact k1 (by omega), fun _ => ?_, fun q2 => absurd (mkV_e.mp q2) e⟩⟩⟩
          rw [xc, uA_self, hg c c144]
          exact r
      · have v : l1W mk M c = M c := mnS_f (fun w => q w.1)
        rw [v] at r
        refine vcc20_63_20 (d + 1) _ _ _ _ _ _ ⟨fun q2 => by omega, fun _ => ⟨pc, fun _ => ?_, fun q2 => by omega⟩⟩
        rw [xc, uA_self, hg c c144]
        exact r
    have s50 : ∀ res, RC (mcall (d + 6)) (mP 63) 72 [some (vR 0), some (vI x1), some (vI (nI c)), some (vI (nI (l2W mk M c)))] [] (LR z (uA f 23 g)) res → RC (mcall (d + 6)) (mP 63) 50 [some (vR 0), some (vI x1), some (vI (nI c)), some (vI (nI (l1W mk M c)))] [] (LR z (uA f 23 g)) res := fun res r => by
      by_cases q : c < 132
      · by_cases e : mk c = mk (c + 12)
        · have v : l2W mk M c = mnN (l1W mk M c) (M (c + 12)) := mnS_t ⟨q, e⟩
          rw [v] at r
          refine vcc50_63_50 (d + 1) _ _ _ _ _ _ ⟨fun q2 => by omega, fun _ => ⟨_, _, _, k1 c144, _, _, _, by rw [e12]; exact k1 (by omega), fun q2 => absurd (mkV_e.mpr e) q2, fun _ => ?_⟩⟩
          rw [e12, ix_nI (by omega), uA_self, hg (c + 12) (by omega)]
          exact ⟨pin_nI (by omega) (by omega), _, _, _, rLesN d (by omega) (by have := Mb (i := c + 12) (by omega); omega) _ _, r⟩
        · have v : l2W mk M c = l1W mk M c := mnS_f (fun w => e w.2)
          rw [v] at r
          exact vcc50_63_50 (d + 1) _ _ _ _ _ _ ⟨fun q2 => by omega, fun _ => ⟨_, _, _, k1 c144, _, _, _, by rw [e12]; exact k1 (by omega), fun _ => r, fun q2 => absurd (mkV_e.mp q2) e⟩⟩
      · have v : l2W mk M c = l1W mk M c := mnS_f (fun w => q w.1)
        rw [v] at r
        exact vcc50_63_50 (d + 1) _ _ _ _ _ _ ⟨fun _ => r, fun q2 => by omega⟩
    have s72 : ∀ res, RC (mcall (d + 6)) (mP 63) 95 [some (vR 0), some (vI x1), some (vI (nI c)), some (vI (nI (l3W mk M c)))] [] (LR z (uA f 23 g)) res → RC (mcall (d + 6)) (mP 63) 72 [some (vR 0), some (vI x1), some (vI (nI c)), some (vI (nI (l2W mk M c)))] [] (LR z (uA f 23 g)) res := fun res r => by
      by_cases q : 0 < c % 12
      · have m1 : nI c - 1 = nI (c - 1) := nI_sub (b := 1) (by omega)
        by_cases e : mk c = mk (c - 1)
        · have v : l3W mk M c = mnN (l2W mk M c) (M (c - 1)) := mnS_t ⟨q, e⟩
          rw [v] at r
          refine vcc72_63_72 (d + 1) _ _ _ _ _ _ ⟨n12, fun q2 => by omega, fun _ => ⟨_, _, _, k1 c144, _, _, _, by rw [m1]; exact k1 (by omega), fun q2 => absurd (mkV_e.mpr e) q2, fun _ => ?_⟩⟩
          rw [m1, ix_nI (by omega), uA_self, hg (c - 1) (by omega)]
          exact ⟨pin_nI (by omega) (by omega), _, _, _, rLesN d (by omega) (by have := Mb (i := c - 1) (by omega); omega) _ _, r⟩
        · have v : l3W mk M c = l2W mk M c := mnS_f (fun w => e w.2)
          rw [v] at r
          exact vcc72_63_72 (d + 1) _ _ _ _ _ _ ⟨n12, fun q2 => by omega, fun _ => ⟨_, _, _, k1 c144, _, _, _, by rw [m1]; exact k1 (by omega), fun _ => r, fun q2 => absurd (mkV_e.mp q2) e⟩⟩
      · have v : l3W mk M c = l2W mk M c := mnS_f (fun w => q w.1)
        rw [v] at r
        exact vcc72_63_72 (d + 1) _ _ _ _ _ _ ⟨n12, fun _ => r, fun q2 => by omega⟩
    have s95 : ∀ res, RC (mcall (d + 6)) (mP 63) 119 [some (vR 0), some (vI x1), some (vI (nI c)), some (vI (nI (l4W mk M c)))] [] (LR z (uA f 23 g)) res → RC (mcall (d + 6)) (mP 63) 95 [some (vR 0), some (vI x1), some (vI (nI c)), some (vI (nI (l3W mk M c)))] [] (LR z (uA f 23 g)) res := fun res r => by
      by_cases q : c % 12 < 11
      · by_cases e : mk c = mk (c + 1)
        · have v : l4W mk M c = mnN (l3W mk M c) (M (c + 1)) := mnS_t ⟨q, e⟩
          rw [v] at r
          refine vcc95_63_95 (d + 1) _ _ _ _ _ _ ⟨n12, fun q2 => by omega, fun _ => ⟨_, _, _, k1 c144, _, _, _, by rw [e1]; exact k1 (by omega), fun q2 => absurd (mkV_e.mpr e) q2, fun _ => ?_⟩⟩
          rw [e1, ix_nI (by omega), uA_self, hg (c + 1) (by omega)]
          exact ⟨pin_nI (by omega) (by omega), _, _, _, rLesN d (by omega) (by have := Mb (i := c + 1) (by omega); omega) _ _, r⟩
        · have v : l4W mk M c = l3W mk M c := mnS_f (fun w => e w.2)
          rw [v] at r
          exact vcc95_63_95 (d + 1) _ _ _ _ _ _ ⟨n12, fun q2 => by omega, fun _ => ⟨_, _, _, k1 c144, _, _, _, by rw [e1]; exact k1 (by omega), fun _ => r, fun q2 => absurd (mkV_e.mp q2) e⟩⟩
      · have v : l4W mk M c = l3W mk M c := mnS_f (fun w => q w.1)
        rw [v] at r
        exact vcc95_63_95 (d + 1) _ _ _ _ _ _ ⟨n12, fun _ => r, fun q2 => by omega⟩
    have b4 := l4W_le mk M c
    by_cases e : l4W mk M c = M c
    · obtain ⟨x1', M', g', o2', o3', h1, h2, h3, h4⟩ := ih (c + 1) (by omega) x1 M g (some (vI (nI (l4W mk M c)))) hx h hg
      refine ⟨x1', M', g', o2', o3', h1, h2, ?_, fun res r => s20 _ (s50 _ (s72 _ (s95 _ ?_)))⟩
      · rcases h3 with ⟨a1, a2, a3, a4⟩ | a
        · refine Or.inl ⟨a1, a2, a3, fun i i1 i2 => ?_⟩
          by_cases w : i = c
          · rw [w]
            exact e
          · exact a4 i (by omega) i2
        · exact Or.inr a
      · have r := h4 res r
        refine vcc119_63_119 (d + 1) _ _ _ _ _ _ ⟨pc, fun q => absurd (by rw [xc, uA_self, hg c c144, e]) q, fun _ => ?_⟩
        rw [e1]
        exact r
    · have hg1 : ∀ i, i < 144 → upd g c (nI (l4W mk M c)) i = nI (updN M c (l4W mk M c) i) := fun i hi => by
        by_cases w : i = c
        · rw [w, pk_us, updN_s]
        · rw [pk_un w, updN_n w]
          exact hg i hi
      obtain ⟨x1', M', g', o2', o3', h1, h2, h3, h4⟩ := ih (c + 1) (by omega) 1 (updN M c (l4W mk M c)) (upd g c (nI (l4W mk M c))) (some (vI (nI (l4W mk M c)))) (Or.inr rfl) (h.step c144) hg1
      have sm := (smW_upd (M := M) (c := c) (v := l4W mk M c) (by omega) 144).2 c144
      refine ⟨x1', M', g', o2', o3', h1, h2, ?_, fun res r => s20 _ (s50 _ (s72 _ (s95 _ ?_)))⟩
      · rcases h3 with ⟨a1, a2, a3, a4⟩ | ⟨a1, a2⟩
        · exact absurd a2 (by decide)
        · refine Or.inr ⟨a1, Or.inr ?_⟩
          rcases a2 with w | w
          · omega
          · omega
      · have r := h4 res r
        refine vcc119_63_119 (d + 1) _ _ _ _ _ _ ⟨pc, fun _ => ⟨pc, ?_⟩, fun q => absurd ?_ e⟩
        · rw [uA_self, uA_uA, xc, e1]
          exact r
        · rw [xc, uA_self, hg c c144] at q
          exact nI_inj (by omega) (by omega) q
theorem fpOut (d : Nat) {mk : Nat → Bool} {z : Nat → Int32} {f : Nat → FA} (hm : ∀ i, i < 144 → (mk i = true ↔ 0 < I (f 1 (67 + i)))) : ∀ N (M : Nat → Nat) (g : FA) (o2 o3 : Option PV), smW M 144 < N → LBI mk M → (∀ i, i < 144 → g i = nI (M i)) → ∃ (M' : Nat → Nat) (g' : FA), LBZ mk M' ∧ (∀ i, i < 144 → g' i = nI (M' i)) ∧ RC (mcall (d + 6)) (mP 63) 14 [some (vR 0), some (vI 1), o2, o3] [] (LR z (uA f 23 g)) (none, LR z (uA f 23 g')) := by
  intro N
  induction N with
  | zero => intro M g o2 o3 hN _ _; exact absurd hN (Nat.not_lt_zero _)
  | succ N ih =>
    intro M g o2 o3 hN h hg
    obtain ⟨x1', M', g', o2', o3', h1, h2, h3, h4⟩ := fpIn d hm 144 0 rfl 0 M g o3 (Or.inl rfl) h hg
    rcases h3 with ⟨a1, a2, a3, a4⟩ | ⟨a1, a2⟩
    · rw [a1] at h4
      refine ⟨M', g', LBZ_of h1 (fun i hi => by rw [a3]; exact a4 i (Nat.zero_le _) hi), h2, vcc14_63_14 (d + 1) _ _ _ _ _ _ ⟨fun q => absurd q (by decide), fun _ => h4 _ (vcc14_63_14 (d + 1) _ _ _ _ _ _ ⟨fun _ => rfl, fun q => absurd rfl q⟩)⟩⟩
    · rw [a1] at h4
      have sm : smW M' 144 < N := by
        rcases a2 with ⟨w, _⟩ | w
        · exact absurd w (by decide)
        · omega
      obtain ⟨M2, g2, r1, r2, r3⟩ := ih M' g' o2' o3' sm h1 h2
      exact ⟨M2, g2, r1, r2, vcc14_63_14 (d + 1) _ _ _ _ _ _ ⟨fun q => absurd q (by decide), fun _ => h4 _ r3⟩⟩
theorem fpIni (d : Nat) {z : Nat → Int32} {f : Nat → FA} : ∀ t c, c + t = 144 → ∀ g : FA, (∀ i, i < c → g i = nI i) → ∃ g' : FA, (∀ i, i < 144 → g' i = nI i) ∧ ∀ o2 o3 res, RC (mcall (d + 6)) (mP 63) 14 [some (vR 0), some (vI 1), o2, o3] [] (LR z (uA f 23 g')) res → RC (mcall (d + 6)) (mP 63) 2 [some (vR 0), some (vI (nI c)), o2, o3] [] (LR z (uA f 23 g)) res := by
  intro t
  induction t with
  | zero =>
    intro c hc g hg
    obtain rfl : c = 144 := by omega
    exact ⟨g, hg, fun o2 o3 res r => vcc2_63_2 (d + 1) _ _ _ _ _ _ ⟨fun _ => r, fun q => absurd q (by decide)⟩⟩
  | succ t ih =>
    intro c hc g hg
    have ic : I (nI c) = c := I_nI (by omega)
    have xc : ix (nI c) = c := ix_nI (by omega)
    obtain ⟨g', h1, h2⟩ := ih (c + 1) (by omega) (upd g c (nI c)) (fun i hi => by
      by_cases w : i = c
      · rw [w, pk_us]
      · rw [pk_un w]
        exact hg i (by omega))
    refine ⟨g', h1, fun o2 o3 res r => vcc2_63_2 (d + 1) _ _ _ _ _ _ ⟨fun q => by omega, fun _ => ⟨pin_nI (by omega) (by omega), ?_⟩⟩⟩
    rw [uA_self, uA_uA, xc, nI_s c]
    exact h2 o2 o3 res r
theorem rParts (d : Nat) {mk : Nat → Bool} {z : Nat → Int32} {f : Nat → FA} (hm : ∀ i, i < 144 → (mk i = true ↔ 0 < I (f 1 (67 + i)))) : ∃ (M : Nat → Nat) (g : FA), LBZ mk M ∧ (∀ i, i < 144 → g i = nI (M i)) ∧ mcall (d + 7) 63 [vR 0] (LR z f) = some (none, LR z (uA f 23 g)) := by
  obtain ⟨g0, a1, a2⟩ := fpIni d (z := z) (f := f) 144 0 rfl (f 23) (fun i hi => absurd hi (Nat.not_lt_zero i))
  obtain ⟨N, hN⟩ : ∃ N, smW (fun i => i) 144 < N := ⟨_, Nat.lt_succ_self _⟩
  obtain ⟨M, g, b1, b2, b3⟩ := fpOut d hm N (fun i => i) g0 none none hN ⟨fun c _ => Nat.le_refl c, fun S _ c _ => Iff.rfl⟩ a1
  have r := a2 none none _ b3
  rw [uA_id rfl] at r
  exact ⟨M, g, b1, b2, mcall_i (mq63 (cu := [])).2.2 rfl (vc63_0 (d + 1) none none none z f _ r)⟩
theorem rEdge (d : Nat) {c : Nat} (hc : c < 144) (z : Nat → Int32) (f : Nat → FA) : mcall (d + 6) 65 [vR 0, vI (nI c)] (LR z f) = some (some (vI (if edW c = true then 1 else 0)), LR z f) := by
  have ic : I (nI c) = c := I_nI (by omega)
  have er : nI c - nI c / 12 * 12 = nI (c % 12) := nrem (b := 12) rfl (by omega) (by decide) (by decide)
  have go : ∀ res, _ → mcall (d + 6) 65 [vR 0, vI (nI c)] (LR z f) = some res := fun res H => mcall_i (mq65 (cu := [])).2.2 rfl (vc65_0 d (nI c) z f res H)
  by_cases h : c < 12 ∨ 132 ≤ c ∨ c % 12 = 0 ∨ c % 12 = 11
  · rw [if_pos (show edW c = true from decide_eq_true h)]
    refine go _ ⟨fun _ => rfl, fun q1 => ⟨fun _ => rfl, fun q2 => ⟨n12, fun _ => rfl, fun q3 => ⟨n12, fun q4 => ?_, fun _ => rfl⟩⟩⟩⟩
    rw [er] at q3 q4
    rcases h with h | h | h | h
    · omega
    · omega
    · exact absurd (by rw [h]; rfl) q3
    · exact absurd (by rw [h]; rfl) q4
  · rw [if_neg (show ¬ edW c = true from fun q => h (of_decide_eq_true q))]
    refine go _ ⟨fun q => by omega, fun _ => ⟨fun q => by omega, fun _ => ⟨n12, fun q => ?_, fun _ => ⟨n12, fun _ => rfl, fun q => ?_⟩⟩⟩⟩
    · rw [er] at q
      have := nI_inj (a := c % 12) (b := 0) (by omega) (by omega) q
      omega
    · rw [er] at q
      have := nI_inj (a := c % 12) (b := 11) (by omega) (by omega) q
      omega
section LBLR
variable {mk : Nat → Bool} {M : Nat → Nat} {z : Nat → Int32} {f : Nat → FA}
theorem rPartOf (d : Nat) (hM : ∀ i, i < 144 → M i < 144) (hf : ∀ i, i < 144 → f 23 i = nI (M i)) {w : Nat} (hw : w < 144) : mcall (d + 6) 67 [vR 0, vI (nI w)] (LR z f) = some (some (vI (nI (ctN M w 144))), LR z f) := by
  have lp : ∀ t c, c + t = 144 → RC (mcall (d + 5)) (mP 67) 4 [some (vR 0), some (vI (nI w)), some (vI (nI (ctN M w c))), some (vI (nI c))] [] (LR z f) (some (vI (nI (ctN M w 144))), LR z f) := by
    intro t
    induction t with
    | zero =>
      intro c hc
      obtain rfl : c = 144 := by omega
      exact vcc4_67_4 d _ _ _ _ _ _ ⟨fun _ => rfl, fun q => absurd q (by decide)⟩
    | succ t ih =>
      intro c hc
      have ic : I (nI c) = c := I_nI (by omega)
      have xc : ix (nI c) = c := ix_nI (by omega)
      have r := ih (c + 1) (by omega)
      have Mc := hM c (by omega)
      refine vcc4_67_4 d _ _ _ _ _ _ ⟨fun q => by omega, fun _ => ⟨pin_nI (by omega) (by omega), fun q => ?_, fun q => ?_⟩⟩
      · rw [xc, hf c (by omega)] at q
        rw [show ctN M w (c + 1) = ctN M w c + (if M c = w then 1 else 0) from rfl, if_neg (fun e => q (by rw [e])), ← nI_s c] at r
        exact r
      · rw [xc, hf c (by omega)] at q
        rw [show ctN M w (c + 1) = ctN M w c + (if M c = w then 1 else 0) from rfl, if_pos (nI_inj (by omega) (by omega) q), ← nI_s c, ← nI_s] at r
        exact r
  exact mcall_i (mq67 (cu := [])).2.2 rfl (vc67_0 d (nI w) none none z f _ (lp 144 0 rfl))
theorem rBlobs (d : Nat) (x : Int32) (hm : ∀ i, i < 144 → (mk i = true ↔ 0 < I (f 1 (67 + i)))) (hM : ∀ i, i < 144 → M i < 144) (hf : ∀ i, i < 144 → f 23 i = nI (M i)) : mcall (d + 7) 66 [vR 0, vI x] (LR z f) = some (some (vI (if x = 0 then nI (nBl mk true M 144) else nI (gBl mk true M 144))), LR z f) := by
  have k1 : ∀ {i : Nat}, i < 144 → mcall (d + 6) 49 [vR 0, vI (nI i)] (LR z f) = some (some (vI (mkV mk i)), LR z f) := fun {i} hi => by
    have q := mIs (d + 5) hi (z := z) (f := f)
    rw [mkV_p (hm i hi)] at q
    exact q
  have lp : ∀ t c, c + t = 144 → RC (mcall (d + 6)) (mP 66) 6 [some (vR 0), some (vI x), some (vI (nI (nBl mk true M c))), some (vI (nI (gBl mk true M c))), some (vI (nI c))] [] (LR z f) (some (vI (if x = 0 then nI (nBl mk true M 144) else nI (gBl mk true M 144))), LR z f) := by
    intro t
    induction t with
    | zero =>
      intro c hc
      obtain rfl : c = 144 := by omega
      exact vcc6_66_6 (d + 1) _ _ _ _ _ _ _ ⟨fun _ => ⟨fun q => by rw [if_pos q], fun q => by rw [if_neg q]⟩, fun q => absurd q (by decide)⟩
    | succ t ih =>
      intro c hc
      have c144 : c < 144 := by omega
      have ic : I (nI c) = c := I_nI (by omega)
      have xc : ix (nI c) = c := ix_nI (by omega)
      have r := ih (c + 1) (by omega)
      have Mc := hM c c144
      have e1 : nBl mk true M (c + 1) = if M c = c ∧ mk c = true then nBl mk true M c + 1 else nBl mk true M c := rfl
      have e2 : gBl mk true M (c + 1) = if M c = c ∧ mk c = true then mxN (gBl mk true M c) (ctN M c 144) else gBl mk true M c := rfl
      rw [e1, e2, ← nI_s c] at r
      refine vcc6_66_6 (d + 1) _ _ _ _ _ _ _ ⟨fun q => by omega, fun _ => ⟨pin_nI (by omega) (by omega), fun q => ?_, fun q => ⟨_, _, _, k1 c144, fun q2 => ?_, fun q2 => ?_⟩⟩⟩
      · rw [xc, hf c c144] at q
        rw [if_neg (fun w => q (by rw [w.1])), if_neg (fun w => q (by rw [w.1]))] at r
        exact r
      · rw [xc, hf c c144] at q
        have m : mk c = true := by
          cases w : mk c
          · exact absurd (mkV_0 w) q2
          · rfl
        have a : M c = c := nI_inj (by omega) (by omega) q
        rw [if_pos ⟨a, m⟩, if_pos ⟨a, m⟩, ← nI_s] at r
        have g1 := gBl_le mk true M c
        have g2 := ctN_le M c 144
        exact ⟨_, _, _, rPartOf d hM hf c144, _, _, _, rGtN d (by omega) (by omega) _ _, r⟩
      · have m : mk c = false := by
          cases w : mk c
          · rfl
          · rw [mkV_1 w] at q2
            exact absurd q2 (by decide)
        rw [if_neg (fun w => by rw [m] at w; exact absurd w.2 (by decide)), if_neg (fun w => by rw [m] at w; exact absurd w.2 (by decide))] at r
        exact r
  exact mcall_i (mq66 (cu := [])).2.2 rfl (vc66_0 (d + 1) x none none none z f _ (lp 144 0 rfl))
theorem rHoles (d : Nat) (hm : ∀ i, i < 144 → (mk i = true ↔ 0 < I (f 1 (67 + i)))) (hM : ∀ i, i < 144 → M i < 144) (hf : ∀ i, i < 144 → f 23 i = nI (M i)) : mcall (d + 7) 64 [vR 0] (LR z f) = some (some (vI (nI (iBl mk false M 144))), LR z f) := by
  have k1 : ∀ {i : Nat}, i < 144 → mcall (d + 6) 49 [vR 0, vI (nI i)] (LR z f) = some (some (vI (mkV mk i)), LR z f) := fun {i} hi => by
    have q := mIs (d + 5) hi (z := z) (f := f)
    rw [mkV_p (hm i hi)] at q
    exact q
  have inner : ∀ n c res, c < 144 → (∀ o3 o4, RC (mcall (d + 6)) (mP 64) 4 [some (vR 0), some (vI (if aEd M c 144 = false then n + 1 else n)), some (vI (nI c + 1)), o3, o4] [] (LR z f) res) → ∀ t o, o + t = 144 → RC (mcall (d + 6)) (mP 64) 22 [some (vR 0), some (vI n), some (vI (nI c)), some (vI (if aEd M c o = false then 1 else 0)), some (vI (nI o))] [] (LR z f) res := by
    intro n c res hc H t
    induction t with
    | zero =>
      intro o ho
      obtain rfl : o = 144 := by omega
      have h := H (some (vI (if aEd M c 144 = false then 1 else 0))) (some (vI (nI 144)))
      cases w : aEd M c 144 with
      | false =>
        rw [w, if_pos rfl, if_pos rfl] at h
        rw [if_pos rfl]
        exact vcc22_64_22 (d + 1) _ _ _ _ _ _ _ ⟨fun _ => ⟨fun q => absurd q (by decide), fun _ => h⟩, fun q => absurd q (by decide)⟩
      | true =>
        rw [w, if_neg (by decide), if_neg (by decide)] at h
        rw [if_neg (by decide)]
        exact vcc22_64_22 (d + 1) _ _ _ _ _ _ _ ⟨fun _ => ⟨fun _ => h, fun q => absurd rfl q⟩, fun q => absurd q (by decide)⟩
    | succ t ih =>
      intro o ho
      have o144 : o < 144 := by omega
      have io : I (nI o) = o := I_nI (by omega)
      have xo : ix (nI o) = o := ix_nI (by omega)
      have r := ih (o + 1) (by omega)
      have Mo := hM o o144
      have e1 : aEd M c (o + 1) = if M o = c ∧ edW o = true then true else aEd M c o := rfl
      rw [← nI_s o] at r
      refine vcc22_64_22 (d + 1) _ _ _ _ _ _ _ ⟨fun q => by omega, fun _ => ⟨pin_nI (by omega) (by omega), fun q => ?_, fun q => ⟨_, _, _, rEdge d o144 _ _, fun q2 => ?_, fun q2 => ?_⟩⟩⟩
      · rw [xo, hf o o144] at q
        have e2 : aEd M c (o + 1) = aEd M c o := if_neg (fun w => q (by rw [w.1]))
        rw [e2] at r
        exact r
      · have e2 : aEd M c (o + 1) = aEd M c o := if_neg (fun w => by rw [if_pos w.2] at q2; exact absurd q2 (by decide))
        rw [e2] at r
        exact r
      · rw [xo, hf o o144] at q
        have a : M o = c := nI_inj (by omega) (by omega) q
        have b : edW o = true := by
          cases w : edW o
          · exact absurd (by rw [w, if_neg (by decide)]) q2
          · rfl
        have e2 : aEd M c (o + 1) = true := if_pos ⟨a, b⟩
        rw [e2, if_neg (by decide)] at r
        exact r
  have lp : ∀ t c, c + t = 144 → ∀ o3 o4, RC (mcall (d + 6)) (mP 64) 4 [some (vR 0), some (vI (nI (iBl mk false M c))), some (vI (nI c)), o3, o4] [] (LR z f) (some (vI (nI (iBl mk false M 144))), LR z f) := by
    intro t
    induction t with
    | zero =>
      intro c hc o3 o4
      obtain rfl : c = 144 := by omega
      exact vcc4_64_4 (d + 1) _ _ _ _ _ _ _ ⟨fun _ => rfl, fun q => absurd q (by decide)⟩
    | succ t ih =>
      intro c hc o3 o4
      have c144 : c < 144 := by omega
      have ic : I (nI c) = c := I_nI (by omega)
      have xc : ix (nI c) = c := ix_nI (by omega)
      have r := ih (c + 1) (by omega)
      have Mc := hM c c144
      have e1 : iBl mk false M (c + 1) = if (M c = c ∧ mk c = false) ∧ aEd M c 144 = false then iBl mk false M c + 1 else iBl mk false M c := rfl
      rw [e1, ← nI_s c] at r
      refine vcc4_64_4 (d + 1) _ _ _ _ _ _ _ ⟨fun q => by omega, fun _ => ⟨pin_nI (by omega) (by omega), fun q => ?_, fun q => ⟨_, _, _, k1 c144, fun q2 => ?_, fun q2 => ?_⟩⟩⟩
      · rw [xc, hf c c144] at q
        rw [if_neg (fun w => q (by rw [w.1.1]))] at r
        exact r o3 o4
      · rw [xc, hf c c144] at q
        have a : M c = c := nI_inj (by omega) (by omega) q
        have m : mk c = false := by
          cases w : mk c
          · rfl
          · rw [mkV_1 w] at q2
            exact absurd q2 (by decide)
        refine inner _ c _ c144 (fun p3 p4 => ?_) 144 0 rfl
        have r := r p3 p4
        by_cases w : aEd M c 144 = false
        · rw [if_pos ⟨⟨a, m⟩, w⟩, ← nI_s] at r
          rw [if_pos w]
          exact r
        · rw [if_neg (fun v => w v.2)] at r
          rw [if_neg w]
          exact r
      · have m : mk c = true := by
          cases w : mk c
          · exact absurd (mkV_0 w) q2
          · rfl
        rw [if_neg (fun w => by rw [m] at w; exact absurd w.1.2 (by decide))] at r
        exact r o3 o4
  exact mcall_i (mq64 (cu := [])).2.2 rfl (vc64_0 (d + 1) none none none none z f _ (lp 144 0 rfl none none))
end LBLR
