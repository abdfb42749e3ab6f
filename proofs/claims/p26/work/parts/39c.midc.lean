/-! middle, half: counts over what is told -/
def cnL (g : FA) (w : Int) : Nat → Nat
  | 0 => 0
  | n + 1 => cnL g w n + (if I (g n) ≤ w then 1 else 0)
def cnE (g : FA) (x : Int32) : Nat → Nat
  | 0 => 0
  | n + 1 => cnE g x n + (if g n = x then 1 else 0)
def far (g : FA) (m : Int32) : Nat → Int32
  | 0 => 0
  | n + 1 => far g m n + (if I (g n) ≤ I m then m - g n else g n - m)
theorem cnL_le (g : FA) (w : Int) : ∀ n, cnL g w n ≤ n := by
  intro n
  induction n with
  | zero => exact Nat.le_refl _
  | succ n ih =>
    show cnL g w n + (if I (g n) ≤ w then 1 else 0) ≤ n + 1
    split <;> omega
theorem cnE_le (g : FA) (x : Int32) : ∀ n, cnE g x n ≤ n := by
  intro n
  induction n with
  | zero => exact Nat.le_refl _
  | succ n ih =>
    show cnE g x n + (if g n = x then 1 else 0) ≤ n + 1
    split <;> omega
theorem cnL_all {g : FA} {w : Int} : ∀ n, (∀ j, j < n → I (g j) ≤ w) → cnL g w n = n := by
  intro n
  induction n with
  | zero => intro _; rfl
  | succ n ih =>
    intro h
    show cnL g w n + (if I (g n) ≤ w then 1 else 0) = n + 1
    rw [ih (fun j hj => h j (by omega)), if_pos (h n (by omega))]
theorem cnE_two {g : FA} {x y : Int32} (hxy : ¬ x = y) : ∀ n, cnE g x n + cnE g y n ≤ n := by
  intro n
  induction n with
  | zero => exact Nat.le_refl _
  | succ n ih =>
    show cnE g x n + (if g n = x then 1 else 0) + (cnE g y n + (if g n = y then 1 else 0)) ≤ n + 1
    by_cases c : g n = x
    · rw [if_pos c, if_neg (fun q => hxy (c.symm.trans q))]
      omega
    · rw [if_neg c]
      split <;> omega
theorem cnL_cong {g g' : FA} {w : Int} : ∀ n, (∀ j, j < n → g' j = g j) → cnL g' w n = cnL g w n := by
  intro n
  induction n with
  | zero => intro _; rfl
  | succ n ih =>
    intro h
    show cnL g' w n + (if I (g' n) ≤ w then 1 else 0) = cnL g w n + (if I (g n) ≤ w then 1 else 0)
    rw [ih (fun j hj => h j (by omega)), h n (by omega)]
theorem cnE_cong {g g' : FA} {x : Int32} : ∀ n, (∀ j, j < n → g' j = g j) → cnE g' x n = cnE g x n := by
  intro n
  induction n with
  | zero => intro _; rfl
  | succ n ih =>
    intro h
    show cnE g' x n + (if g' n = x then 1 else 0) = cnE g x n + (if g n = x then 1 else 0)
    rw [ih (fun j hj => h j (by omega)), h n (by omega)]
theorem far_cong {g g' : FA} {m : Int32} : ∀ n, (∀ j, j < n → g' j = g j) → far g' m n = far g m n := by
  intro n
  induction n with
  | zero => intro _; rfl
  | succ n ih =>
    intro h
    show far g' m n + (if I (g' n) ≤ I m then m - g' n else g' n - m) = far g m n + (if I (g n) ≤ I m then m - g n else g n - m)
    rw [ih (fun j hj => h j (by omega)), h n (by omega)]
theorem I_sub_of {x y : Int32} (h1 : -1000 ≤ I x ∧ I x ≤ 1000) (h2 : -1000 ≤ I y ∧ I y ≤ 1000) : I (x - y) = I x - I y := by
  show (x - y).toInt = x.toInt - y.toInt
  have h1 : -1000 ≤ x.toInt ∧ x.toInt ≤ 1000 := h1
  have h2 : -1000 ≤ y.toInt ∧ y.toInt ≤ 1000 := h2
  rw [Int32.toInt_sub, Int.bmod_eq_of_le (by omega) (by omega)]
theorem least0 {P : Nat → Prop} : ∀ N, (∀ v, v < N → ¬ P v) ∨ ∃ w, w < N ∧ P w ∧ ∀ v, v < w → ¬ P v := by
  intro N
  induction N with
  | zero => exact Or.inl (fun v hv => absurd hv (Nat.not_lt_zero v))
  | succ N ih =>
    rcases ih with h | ⟨w, h1, h2⟩
    · by_cases c : P N
      · exact Or.inr ⟨N, by omega, c, h⟩
      · refine Or.inl (fun v hv => ?_)
        by_cases q : v = N
        · rw [q]
          exact c
        · exact h v (by omega)
    · exact Or.inr ⟨w, by omega, h2⟩
theorem least {P : Nat → Prop} (N : Nat) (h : P N) : ∃ w, w ≤ N ∧ P w ∧ ∀ v, v < w → ¬ P v := by
  rcases least0 (P := P) (N + 1) with k | ⟨w, h1, h2, h3⟩
  · exact absurd h (k N (by omega))
  · exact ⟨w, by omega, h2, h3⟩
/-- the middle of n wishes: none, or the least that half of all do not go beyond -/
def MID (g : FA) (n : Nat) (m : Int32) : Prop := (n = 0 ∧ m = -1) ∨ (n ≠ 0 ∧ ∃ w, w ≤ 99 ∧ m = nI w ∧ n ≤ 2 * cnL g w n ∧ ∀ v : Nat, v < w → 2 * cnL g v n < n)
theorem MID_ex {g : FA} {n : Nat} (hg : ∀ j, j < n → I (g j) ≤ 99) : ∃ m, MID g n m := by
  by_cases h : n = 0
  · exact ⟨-1, Or.inl ⟨h, rfl⟩⟩
  · obtain ⟨w, h1, h2, h3⟩ := least (P := fun w => n ≤ 2 * cnL g w n) 99 (by
      have e : cnL g ((99 : Nat) : Int) n = n := cnL_all n hg
      show n ≤ 2 * cnL g ((99 : Nat) : Int) n
      rw [e]
      omega)
    exact ⟨nI w, Or.inr ⟨h, w, h1, rfl, h2, fun v hv => Nat.not_le.mp (h3 v hv)⟩⟩
/-- the name of more than half of n -/
def HLF (g : FA) (n : Nat) (m : Int32) : Prop := (m = -1 ∧ ∀ v : Nat, v < 10 → 2 * cnE g (nI v) n ≤ n) ∨ ∃ w, w < 10 ∧ m = nI w ∧ n < 2 * cnE g (nI w) n
def mxE (g : FA) (n : Nat) : Nat → Nat
  | 0 => 0
  | v + 1 => max (mxE g n v) (cnE g (nI v) n)
theorem mxE_le (g : FA) (n : Nat) : ∀ v, mxE g n v ≤ n := by
  intro v
  induction v with
  | zero => exact Nat.zero_le _
  | succ v ih =>
    show max (mxE g n v) (cnE g (nI v) n) ≤ n
    have := cnE_le g (nI v) n
    omega
theorem mxE_cong {g g' : FA} {n : Nat} (h : ∀ j, j < n → g' j = g j) : ∀ v, mxE g' n v = mxE g n v := by
  intro v
  induction v with
  | zero => rfl
  | succ v ih =>
    show max (mxE g' n v) (cnE g' (nI v) n) = max (mxE g n v) (cnE g (nI v) n)
    rw [ih, cnE_cong n h]
theorem HLF_ex (g : FA) (n : Nat) : ∃ m, HLF g n m := by
  by_cases c : ∃ w, w < 10 ∧ n < 2 * cnE g (nI w) n
  · obtain ⟨w, h1, h2⟩ := c
    exact ⟨nI w, Or.inr ⟨w, h1, rfl, h2⟩⟩
  · exact ⟨-1, Or.inl ⟨rfl, fun v hv => Nat.not_lt.mp (fun q => c ⟨v, hv, q⟩)⟩⟩
theorem HLF_one {g : FA} {n v w : Nat} (hv : v < 10) (hw : w < 10) (h1 : n < 2 * cnE g (nI v) n) (h2 : n < 2 * cnE g (nI w) n) : v = w := by
  by_cases c : v = w
  · exact c
  · have := cnE_two (g := g) (nI_ne (a := v) (b := w) (by omega) (by omega) c) n
    omega
theorem ptd {ih : QK FA} {a b : Nat} {tg : List Nat} {ls : List (Option PV)} {x : Int32} {st : List PV} {L : QH FA} {k : Nat} (h : (decide (x.toInt < (a : Int)) || decide ((b : Int) < x.toInt)) = true) (hk : nth tg 0 = some k) : p_tab ih a b tg ls (vI x :: st) L = ih k ls st L := by
  show (bif (decide (x.toInt < (a : Int)) || decide ((b : Int) < x.toInt)) then (match nth tg 0 with
      | some k => ih k ls st L
      | none => none) else _) = _
  rw [h, cond_true, hk]
theorem pta {ih : QK FA} {a b : Nat} {tg : List Nat} {ls : List (Option PV)} {x : Int32} {st : List PV} {L : QH FA} {k : Nat} (h : (decide (x.toInt < (a : Int)) || decide ((b : Int) < x.toInt)) = false) (hk : nth tg ((x.toInt - (a : Int)).toNat + 1) = some k) : p_tab ih a b tg ls (vI x :: st) L = ih k ls st L := by
  show (bif (decide (x.toInt < (a : Int)) || decide ((b : Int) < x.toInt)) then _ else (match nth tg ((x.toInt - (a : Int)).toNat + 1) with
      | some k => ih k ls st L
      | none => none)) = _
  rw [h, cond_false, hk]
section TLs
variable {u : Nat → Option Nat}
set_option maxRecDepth 100000 in
theorem b109_1 (call : QC FA) (o2 : Option PV) (o3 : Option PV) (o4 : Option PV) (o5 : Option PV) (z : Nat → Int32) (f : Nat → FA) (F : Nat) : rnG call 109 (F + 5) 0 [some (vR 21), some (vR 7), o2, o3, o4, o5] [] (LT u z f) = rnG call 109 F 5 [some (vR 21), some (vR 7), o2, o3, o4, o5] [vI 2, vI ((z 7) + 1)] (LT u z f) := rfl
set_option maxRecDepth 100000 in
theorem b109_2 (call : QC FA) (x y : Int32) (ls : List (Option PV)) (L : QH FA) (F : Nat) : rnG call 109 (F + 1) 5 ls [vI y, vI x] L = bif pcmp 1 y 0 then rnG call 109 F 6 ls [vI (x / y)] L else none := rfl
set_option maxRecDepth 100000 in
theorem b109_3 (call : QC FA) (o2 : Option PV) (o3 : Option PV) (o4 : Option PV) (o5 : Option PV) (s0 : Int32) (L : QH FA) (F : Nat) : rnG call 109 (F + 2) 6 [some (vR 21), some (vR 7), o2, o3, o4, o5] [vI s0] L = rnG call 109 F 8 [some (vR 21), some (vR 7), some (vI s0), o3, o4, o5] [vI s0] L := rfl
set_option maxRecDepth 100000 in
theorem b109_4 (call : QC FA) (x : Int32) (ls : List (Option PV)) (L : QH FA) (F : Nat) : rnG call 109 (F + 1) 8 ls [vI x] L = bif pcmp 1 x 0 then rnG call 109 F 11 ls [] L else rnG call 109 F 9 ls [] L := rfl
set_option maxRecDepth 100000 in
theorem b109_5 (call : QC FA) (x2 : Int32) (o3 : Option PV) (o4 : Option PV) (o5 : Option PV) (L : QH FA) (F : Nat) : rnG call 109 (F + 2) 11 [some (vR 21), some (vR 7), some (vI x2), o3, o4, o5] [] L = rnG call 109 F 13 [some (vR 21), some (vR 7), some (vI x2), some (vI 0), o4, o5] [] L := rfl
set_option maxRecDepth 100000 in
theorem b109_6 (call : QC FA) (x2 : Int32) (o3 : Option PV) (o4 : Option PV) (o5 : Option PV) (L : QH FA) (F : Nat) : rnG call 109 (F + 1) 9 [some (vR 21), some (vR 7), some (vI x2), o3, o4, o5] [] L = rnG call 109 F 10 [some (vR 21), some (vR 7), some (vI x2), o3, o4, o5] [vI ((-1))] L := rfl
set_option maxRecDepth 100000 in
theorem b109_7 (call : QC FA) (x : Int32) (ls : List (Option PV)) (L : QH FA) (F : Nat) : rnG call 109 (F + 1) 10 ls [vI x] L = some (some (vI x), L) := rfl
theorem vc109_0 (call : QC FA) (o2 : Option PV) (o3 : Option PV) (o4 : Option PV) (o5 : Option PV) (z : Nat → Int32) (f : Nat → FA) (res : Option PV × QH FA) (H : (¬ (2 : Int32) = 0 ∧ ((¬ ((z 7) + 1) / 2 = 0 → RC call (mP 109) 13 [some (vR 21), some (vR 7), some (vI (((z 7) + 1) / 2)), some (vI 0), o4, o5] [] (LT u z f) res) ∧ (((z 7) + 1) / 2 = 0 → res = (some (vI ((-1))), LT u z f))))) : RC call (mP 109) 0 [some (vR 21), some (vR 7), o2, o3, o4, o5] [] (LT u z f) res := by
  refine rc_b (i' := 5) (ls' := [some (vR 21), some (vR 7), o2, o3, o4, o5]) (st' := [vI 2, vI ((z 7) + 1)]) (L' := LT u z f) 5 (b109_1 call o2 o3 o4 o5 z f) ?_
  obtain ⟨g1, H⟩ := H
  refine rc_g (i' := 6) (ls' := [some (vR 21), some (vR 7), o2, o3, o4, o5]) (st' := [vI (((z 7) + 1) / 2)]) (L' := LT u z f) (b109_2 call ((z 7) + 1) 2 _ _) (cmp_ne.trans (decide_eq_true g1)) ?_
  refine rc_b (i' := 8) (ls' := [some (vR 21), some (vR 7), some (vI (((z 7) + 1) / 2)), o3, o4, o5]) (st' := [vI (((z 7) + 1) / 2)]) (L' := LT u z f) 2 (b109_3 call o2 o3 o4 o5 (((z 7) + 1) / 2) _) ?_
  refine rc_if (it := 11) (ie := 9) (ls' := [some (vR 21), some (vR 7), some (vI (((z 7) + 1) / 2)), o3, o4, o5]) (st' := []) (b109_4 call (((z 7) + 1) / 2) _ _) (fun q1 => ?_) (fun q1 => ?_)
  · have H := H.1 (cI1t q1)
    refine rc_b (i' := 13) (ls' := [some (vR 21), some (vR 7), some (vI (((z 7) + 1) / 2)), some (vI 0), o4, o5]) (st' := []) (L' := LT u z f) 2 (b109_5 call (((z 7) + 1) / 2) o3 o4 o5 _) ?_
    exact H
  · have H := H.2 (cI1f q1)
    refine rc_b (i' := 10) (ls' := [some (vR 21), some (vR 7), some (vI (((z 7) + 1) / 2)), o3, o4, o5]) (st' := [vI ((-1))]) (L' := LT u z f) 1 (b109_6 call (((z 7) + 1) / 2) o3 o4 o5 _) ?_
    subst H
    exact rc_ret (b109_7 call _ _ _)
set_option maxRecDepth 100000 in
theorem bc13_109_1 (call : QC FA) (x2 : Int32) (x3 : Int32) (o4 : Option PV) (o5 : Option PV) (L : QH FA) (F : Nat) : rnG call 109 (F + 2) 13 [some (vR 21), some (vR 7), some (vI x2), some (vI x3), o4, o5] [] L = rnG call 109 F 15 [some (vR 21), some (vR 7), some (vI x2), some (vI x3), o4, o5] [vI 99, vI x3] L := rfl
set_option maxRecDepth 100000 in
theorem bc13_109_2 (call : QC FA) (x y : Int32) (ls : List (Option PV)) (L : QH FA) (F : Nat) : rnG call 109 (F + 1) 15 ls [vI y, vI x] L = bif pcmp 4 x y then rnG call 109 F 44 ls [] L else rnG call 109 F 16 ls [] L := rfl
set_option maxRecDepth 100000 in
theorem bc13_109_3 (call : QC FA) (x2 : Int32) (x3 : Int32) (o4 : Option PV) (o5 : Option PV) (L : QH FA) (F : Nat) : rnG call 109 (F + 1) 44 [some (vR 21), some (vR 7), some (vI x2), some (vI x3), o4, o5] [] L = rnG call 109 F 45 [some (vR 21), some (vR 7), some (vI x2), some (vI x3), o4, o5] [vI ((-1))] L := rfl
set_option maxRecDepth 100000 in
theorem bc13_109_4 (call : QC FA) (x : Int32) (ls : List (Option PV)) (L : QH FA) (F : Nat) : rnG call 109 (F + 1) 45 ls [vI x] L = some (some (vI x), L) := rfl
set_option maxRecDepth 100000 in
theorem bc13_109_5 (call : QC FA) (x2 : Int32) (x3 : Int32) (o4 : Option PV) (o5 : Option PV) (L : QH FA) (F : Nat) : rnG call 109 (F + 4) 16 [some (vR 21), some (vR 7), some (vI x2), some (vI x3), o4, o5] [] L = rnG call 109 F 20 [some (vR 21), some (vR 7), some (vI x2), some (vI x3), some (vI 0), some (vI 0)] [] L := rfl
theorem vcc13_109_13 (call : QC FA) (x2 : Int32) (x3 : Int32) (o4 : Option PV) (o5 : Option PV) (z : Nat → Int32) (f : Nat → FA) (res : Option PV × QH FA) (H : ((99 < I x3 → res = (some (vI ((-1))), LT u z f)) ∧ (I x3 ≤ 99 → RC call (mP 109) 20 [some (vR 21), some (vR 7), some (vI x2), some (vI x3), some (vI 0), some (vI 0)] [] (LT u z f) res))) : RC call (mP 109) 13 [some (vR 21), some (vR 7), some (vI x2), some (vI x3), o4, o5] [] (LT u z f) res := by
  refine rc_b (i' := 15) (ls' := [some (vR 21), some (vR 7), some (vI x2), some (vI x3), o4, o5]) (st' := [vI 99, vI x3]) (L' := LT u z f) 2 (bc13_109_1 call x2 x3 o4 o5 _) ?_
  refine rc_if (it := 44) (ie := 16) (ls' := [some (vR 21), some (vR 7), some (vI x2), some (vI x3), o4, o5]) (st' := []) (bc13_109_2 call x3 99 _ _) (fun q1 => ?_) (fun q1 => ?_)
  · have H := H.1 (cI4t q1 rfl rfl)
    refine rc_b (i' := 45) (ls' := [some (vR 21), some (vR 7), some (vI x2), some (vI x3), o4, o5]) (st' := [vI ((-1))]) (L' := LT u z f) 1 (bc13_109_3 call x2 x3 o4 o5 _) ?_
    subst H
    exact rc_ret (bc13_109_4 call _ _ _)
  · have H := H.2 (cI4f q1 rfl rfl)
    refine rc_b (i' := 20) (ls' := [some (vR 21), some (vR 7), some (vI x2), some (vI x3), some (vI 0), some (vI 0)]) (st' := []) (L' := LT u z f) 4 (bc13_109_5 call x2 x3 o4 o5 _) ?_
    exact H
set_option maxRecDepth 100000 in
theorem bc20_109_1 (call : QC FA) (x2 : Int32) (x3 : Int32) (x4 : Int32) (x5 : Int32) (z : Nat → Int32) (f : Nat → FA) (F : Nat) : rnG call 109 (F + 3) 20 [some (vR 21), some (vR 7), some (vI x2), some (vI x3), some (vI x4), some (vI x5)] [] (LT u z f) = rnG call 109 F 23 [some (vR 21), some (vR 7), some (vI x2), some (vI x3), some (vI x4), some (vI x5)] [vI (z 7), vI x5] (LT u z f) := rfl
set_option maxRecDepth 100000 in
theorem bc20_109_2 (call : QC FA) (x y : Int32) (ls : List (Option PV)) (L : QH FA) (F : Nat) : rnG call 109 (F + 1) 23 ls [vI y, vI x] L = bif pcmp 3 x y then rnG call 109 F 37 ls [] L else rnG call 109 F 24 ls [] L := rfl
set_option maxRecDepth 100000 in
theorem bc20_109_3 (call : QC FA) (x2 : Int32) (x3 : Int32) (x4 : Int32) (x5 : Int32) (L : QH FA) (F : Nat) : rnG call 109 (F + 2) 37 [some (vR 21), some (vR 7), some (vI x2), some (vI x3), some (vI x4), some (vI x5)] [] L = rnG call 109 F 39 [some (vR 21), some (vR 7), some (vI x2), some (vI x3), some (vI x4), some (vI x5)] [vI x2, vI x4] L := rfl
set_option maxRecDepth 100000 in
theorem bc20_109_4 (call : QC FA) (x y : Int32) (ls : List (Option PV)) (L : QH FA) (F : Nat) : rnG call 109 (F + 1) 39 ls [vI y, vI x] L = bif pcmp 2 x y then rnG call 109 F 42 ls [] L else rnG call 109 F 40 ls [] L := rfl
set_option maxRecDepth 100000 in
theorem bc20_109_5 (call : QC FA) (x2 : Int32) (x3 : Int32) (x4 : Int32) (x5 : Int32) (L : QH FA) (F : Nat) : rnG call 109 (F + 1) 42 [some (vR 21), some (vR 7), some (vI x2), some (vI x3), some (vI x4), some (vI x5)] [] L = rnG call 109 F 43 [some (vR 21), some (vR 7), some (vI x2), some (vI (x3 + 1)), some (vI x4), some (vI x5)] [] L := rfl
set_option maxRecDepth 100000 in
theorem bc20_109_6 (call : QC FA) (x2 : Int32) (x3 : Int32) (x4 : Int32) (x5 : Int32) (L : QH FA) (F : Nat) : rnG call 109 (F + 1) 43 [some (vR 21), some (vR 7), some (vI x2), some (vI x3), some (vI x4), some (vI x5)] [] L = rnG call 109 F 13 [some (vR 21), some (vR 7), some (vI x2), some (vI x3), some (vI x4), some (vI x5)] [] L := rfl
set_option maxRecDepth 100000 in
theorem bc20_109_7 (call : QC FA) (x2 : Int32) (x3 : Int32) (x4 : Int32) (x5 : Int32) (L : QH FA) (F : Nat) : rnG call 109 (F + 1) 40 [some (vR 21), some (vR 7), some (vI x2), some (vI x3), some (vI x4), some (vI x5)] [] L = rnG call 109 F 41 [some (vR 21), some (vR 7), some (vI x2), some (vI x3), some (vI x4), some (vI x5)] [vI x3] L := rfl
set_option maxRecDepth 100000 in
theorem bc20_109_8 (call : QC FA) (x : Int32) (ls : List (Option PV)) (L : QH FA) (F : Nat) : rnG call 109 (F + 1) 41 ls [vI x] L = some (some (vI x), L) := rfl
set_option maxRecDepth 100000 in
theorem bc20_109_9 (call : QC FA) (x2 : Int32) (x3 : Int32) (x4 : Int32) (x5 : Int32) (L : QH FA) (F : Nat) : rnG call 109 (F + 3) 24 [some (vR 21), some (vR 7), some (vI x2), some (vI x3), some (vI x4), some (vI x5)] [] L = rnG call 109 F 27 [some (vR 21), some (vR 7), some (vI x2), some (vI x3), some (vI x4), some (vI x5)] [vI x5, vR 7, vI x4] L := rfl
set_option maxRecDepth 100000 in
theorem bc20_109_10 (call : QC FA) (a0 : Int32) (s0 : Int32) (ls : List (Option PV)) (z : Nat → Int32) (f : Nat → FA) (F : Nat) : rnG call 109 (F + 1) 27 ls [vI a0, vR 7, vI s0] (LT u z f) = cbd (call 3 [vR 7, vI a0] (LT u z f)) (fun r L' => rnG call 109 F 28 ls (r.toList ++ [vI s0]) L') := pcY (ih := rnG call 109 F) (call := call) (a := 3) (b := 1) (v := 9) (t := 28) (x := 7) (ls := ls) (As := [vI a0]) (st' := [vI s0]) (L := LT u z f) rfl rfl rfl
set_option maxRecDepth 100000 in
theorem bc20_109_11 (call : QC FA) (x2 : Int32) (x3 : Int32) (x4 : Int32) (x5 : Int32) (s0 : Int32) (s1 : Int32) (L : QH FA) (F : Nat) : rnG call 109 (F + 1) 28 [some (vR 21), some (vR 7), some (vI x2), some (vI x3), some (vI x4), some (vI x5)] [vI s0, vI s1] L = rnG call 109 F 29 [some (vR 21), some (vR 7), some (vI x2), some (vI x3), some (vI x4), some (vI x5)] [vI x3, vI s0, vI s1] L := rfl
set_option maxRecDepth 100000 in
theorem bc20_109_12 (call : QC FA) (x y : Int32) (s0 : Int32) (ls : List (Option PV)) (L : QH FA) (F : Nat) : rnG call 109 (F + 1) 29 ls [vI y, vI x, vI s0] L = bif pcmp 4 x y then rnG call 109 F 32 ls [vI s0] L else rnG call 109 F 30 ls [vI s0] L := rfl
set_option maxRecDepth 100000 in
theorem bc20_109_13 (call : QC FA) (x2 : Int32) (x3 : Int32) (x4 : Int32) (x5 : Int32) (s0 : Int32) (L : QH FA) (F : Nat) : rnG call 109 (F + 3) 32 [some (vR 21), some (vR 7), some (vI x2), some (vI x3), some (vI x4), some (vI x5)] [vI s0] L = rnG call 109 F 35 [some (vR 21), some (vR 7), some (vI x2), some (vI x3), some (vI (s0 + 0)), some (vI x5)] [] L := rfl
set_option maxRecDepth 100000 in
theorem bc20_109_14 (call : QC FA) (x2 : Int32) (x3 : Int32) (x4 : Int32) (x5 : Int32) (L : QH FA) (F : Nat) : rnG call 109 (F + 1) 35 [some (vR 21), some (vR 7), some (vI x2), some (vI x3), some (vI x4), some (vI x5)] [] L = rnG call 109 F 36 [some (vR 21), some (vR 7), some (vI x2), some (vI x3), some (vI x4), some (vI (x5 + 1))] [] L := rfl
set_option maxRecDepth 100000 in
theorem bc20_109_15 (call : QC FA) (x2 : Int32) (x3 : Int32) (x4 : Int32) (x5 : Int32) (L : QH FA) (F : Nat) : rnG call 109 (F + 1) 36 [some (vR 21), some (vR 7), some (vI x2), some (vI x3), some (vI x4), some (vI x5)] [] L = rnG call 109 F 20 [some (vR 21), some (vR 7), some (vI x2), some (vI x3), some (vI x4), some (vI x5)] [] L := rfl
set_option maxRecDepth 100000 in
theorem bc20_109_16 (call : QC FA) (x2 : Int32) (x3 : Int32) (x4 : Int32) (x5 : Int32) (s0 : Int32) (L : QH FA) (F : Nat) : rnG call 109 (F + 4) 30 [some (vR 21), some (vR 7), some (vI x2), some (vI x3), some (vI x4), some (vI x5)] [vI s0] L = rnG call 109 F 35 [some (vR 21), some (vR 7), some (vI x2), some (vI x3), some (vI (s0 + 1)), some (vI x5)] [] L := rfl
theorem vcc20_109_20 (call : QC FA) (x2 : Int32) (x3 : Int32) (x4 : Int32) (x5 : Int32) (z : Nat → Int32) (f : Nat → FA) (res : Option PV × QH FA) (H : ((I (z 7) ≤ I x5 → ((I x4 < I x2 → RC call (mP 109) 13 [some (vR 21), some (vR 7), some (vI x2), some (vI (x3 + 1)), some (vI x4), some (vI x5)] [] (LT u z f) res) ∧ (I x2 ≤ I x4 → res = (some (vI x3), LT u z f)))) ∧ (I x5 < I (z 7) → (∃ (r1 : Int32) (z1 : Nat → Int32) (f1 : Nat → FA), call 3 [vR 7, vI x5] (LT u z f) = some (some (vI r1), LT u z1 f1) ∧ ((I x3 < I r1 → RC call (mP 109) 20 [some (vR 21), some (vR 7), some (vI x2), some (vI x3), some (vI (x4 + 0)), some (vI (x5 + 1))] [] (LT u z1 f1) res) ∧ (I r1 ≤ I x3 → RC call (mP 109) 20 [some (vR 21), some (vR 7), some (vI x2), some (vI x3), some (vI (x4 + 1)), some (vI (x5 + 1))] [] (LT u z1 f1) res)))))) : RC call (mP 109) 20 [some (vR 21), some (vR 7), some (vI x2), some (vI x3), some (vI x4), some (vI x5)] [] (LT u z f) res := by
  refine rc_b (i' := 23) (ls' := [some (vR 21), some (vR 7), some (vI x2), some (vI x3), some (vI x4), some (vI x5)]) (st' := [vI (z 7), vI x5]) (L' := LT u z f) 3 (bc20_109_1 call x2 x3 x4 x5 z f) ?_
  refine rc_if (it := 37) (ie := 24) (ls' := [some (vR 21), some (vR 7), some (vI x2), some (vI x3), some (vI x4), some (vI x5)]) (st' := []) (bc20_109_2 call x5 (z 7) _ _) (fun q1 => ?_) (fun q1 => ?_)
  · have H := H.1 (cI3t q1 rfl rfl)
    refine rc_b (i' := 39) (ls' := [some (vR 21), some (vR 7), some (vI x2), some (vI x3), some (vI x4), some (vI x5)]) (st' := [vI x2, vI x4]) (L' := LT u z f) 2 (bc20_109_3 call x2 x3 x4 x5 _) ?_
    refine rc_if (it := 42) (ie := 40) (ls' := [some (vR 21), some (vR 7), some (vI x2), some (vI x3), some (vI x4), some (vI x5)]) (st' := []) (bc20_109_4 call x4 x2 _ _) (fun q2 => ?_) (fun q2 => ?_)
    · have H := H.1 (cI2t q2 rfl rfl)
      refine rc_b (i' := 43) (ls' := [some (vR 21), some (vR 7), some (vI x2), some (vI (x3 + 1)), some (vI x4), some (vI x5)]) (st' := []) (L' := LT u z f) 1 (bc20_109_5 call x2 x3 x4 x5 _) ?_
      refine rc_b (i' := 13) (ls' := [some (vR 21), some (vR 7), some (vI x2), some (vI (x3 + 1)), some (vI x4), some (vI x5)]) (st' := []) (L' := LT u z f) 1 (bc20_109_6 call x2 (x3 + 1) x4 x5 _) ?_
      exact H
    · have H := H.2 (cI2f q2 rfl rfl)
      refine rc_b (i' := 41) (ls' := [some (vR 21), some (vR 7), some (vI x2), some (vI x3), some (vI x4), some (vI x5)]) (st' := [vI x3]) (L' := LT u z f) 1 (bc20_109_7 call x2 x3 x4 x5 _) ?_
      subst H
      exact rc_ret (bc20_109_8 call _ _ _)
  · have H := H.2 (cI3f q1 rfl rfl)
    refine rc_b (i' := 27) (ls' := [some (vR 21), some (vR 7), some (vI x2), some (vI x3), some (vI x4), some (vI x5)]) (st' := [vI x5, vR 7, vI x4]) (L' := LT u z f) 3 (bc20_109_9 call x2 x3 x4 x5 _) ?_
    obtain ⟨r1, z1, f1, hc, H⟩ := H
    refine rc_call (t := 28) (ls' := [some (vR 21), some (vR 7), some (vI x2), some (vI x3), some (vI x4), some (vI x5)]) (st' := [vI x4]) (bc20_109_10 call x5 x4 _ z f) hc ?_
    show RC call (mP 109) 28 [some (vR 21), some (vR 7), some (vI x2), some (vI x3), some (vI x4), some (vI x5)] [vI r1, vI x4] (LT u z1 f1) res
    refine rc_b (i' := 29) (ls' := [some (vR 21), some (vR 7), some (vI x2), some (vI x3), some (vI x4), some (vI x5)]) (st' := [vI x3, vI r1, vI x4]) (L' := LT u z1 f1) 1 (bc20_109_11 call x2 x3 x4 x5 r1 x4 _) ?_
    refine rc_if (it := 32) (ie := 30) (ls' := [some (vR 21), some (vR 7), some (vI x2), some (vI x3), some (vI x4), some (vI x5)]) (st' := [vI x4]) (bc20_109_12 call r1 x3 x4 _ _) (fun q3 => ?_) (fun q3 => ?_)
    · have H := H.1 (cI4t q3 rfl rfl)
      refine rc_b (i' := 35) (ls' := [some (vR 21), some (vR 7), some (vI x2), some (vI x3), some (vI (x4 + 0)), some (vI x5)]) (st' := []) (L' := LT u z1 f1) 3 (bc20_109_13 call x2 x3 x4 x5 x4 _) ?_
      refine rc_b (i' := 36) (ls' := [some (vR 21), some (vR 7), some (vI x2), some (vI x3), some (vI (x4 + 0)), some (vI (x5 + 1))]) (st' := []) (L' := LT u z1 f1) 1 (bc20_109_14 call x2 x3 (x4 + 0) x5 _) ?_
      refine rc_b (i' := 20) (ls' := [some (vR 21), some (vR 7), some (vI x2), some (vI x3), some (vI (x4 + 0)), some (vI (x5 + 1))]) (st' := []) (L' := LT u z1 f1) 1 (bc20_109_15 call x2 x3 (x4 + 0) (x5 + 1) _) ?_
      exact H
    · have H := H.2 (cI4f q3 rfl rfl)
      refine rc_b (i' := 35) (ls' := [some (vR 21), some (vR 7), some (vI x2), some (vI x3), some (vI (x4 + 1)), some (vI x5)]) (st' := []) (L' := LT u z1 f1) 4 (bc20_109_16 call x2 x3 x4 x5 x4 _) ?_
      refine rc_b (i' := 36) (ls' := [some (vR 21), some (vR 7), some (vI x2), some (vI x3), some (vI (x4 + 1)), some (vI (x5 + 1))]) (st' := []) (L' := LT u z1 f1) 1 (bc20_109_14 call x2 x3 (x4 + 1) x5 _) ?_
      refine rc_b (i' := 20) (ls' := [some (vR 21), some (vR 7), some (vI x2), some (vI x3), some (vI (x4 + 1)), some (vI (x5 + 1))]) (st' := []) (L' := LT u z1 f1) 1 (bc20_109_15 call x2 x3 (x4 + 1) (x5 + 1) _) ?_
      exact H
set_option maxRecDepth 100000 in
theorem b106_1 (call : QC FA) (o2 : Option PV) (o3 : Option PV) (o4 : Option PV) (L : QH FA) (F : Nat) : rnG call 106 (F + 2) 0 [some (vR 21), some (vR 7), o2, o3, o4] [] L = rnG call 106 F 2 [some (vR 21), some (vR 7), o2, o3, o4] [vR 7, vR 21] L := rfl
set_option maxRecDepth 100000 in
theorem b106_2 (call : QC FA) (ls : List (Option PV)) (z : Nat → Int32) (f : Nat → FA) (F : Nat) : rnG call 106 (F + 1) 2 ls [vR 7, vR 21] (LT u z f) = cbd (call 109 [vR 21, vR 7] (LT u z f)) (fun r L' => rnG call 106 F 3 ls (r.toList ++ []) L') := pcY (ih := rnG call 106 F) (call := call) (a := 109) (b := 1) (v := 4) (t := 3) (x := 21) (ls := ls) (As := [vR 7]) (st' := []) (L := LT u z f) rfl rfl rfl
set_option maxRecDepth 100000 in
theorem b106_3 (call : QC FA) (o2 : Option PV) (o3 : Option PV) (o4 : Option PV) (s0 : Int32) (L : QH FA) (F : Nat) : rnG call 106 (F + 5) 3 [some (vR 21), some (vR 7), o2, o3, o4] [vI s0] L = rnG call 106 F 8 [some (vR 21), some (vR 7), some (vI s0), some (vI 0), some (vI 0)] [] L := rfl
theorem vc106_0 (call : QC FA) (o2 : Option PV) (o3 : Option PV) (o4 : Option PV) (z : Nat → Int32) (f : Nat → FA) (res : Option PV × QH FA) (H : (∃ (r1 : Int32) (z1 : Nat → Int32) (f1 : Nat → FA), call 109 [vR 21, vR 7] (LT u z f) = some (some (vI r1), LT u z1 f1) ∧ RC call (mP 106) 8 [some (vR 21), some (vR 7), some (vI r1), some (vI 0), some (vI 0)] [] (LT u z1 f1) res)) : RC call (mP 106) 0 [some (vR 21), some (vR 7), o2, o3, o4] [] (LT u z f) res := by
  refine rc_b (i' := 2) (ls' := [some (vR 21), some (vR 7), o2, o3, o4]) (st' := [vR 7, vR 21]) (L' := LT u z f) 2 (b106_1 call o2 o3 o4 _) ?_
  obtain ⟨r1, z1, f1, hc, H⟩ := H
  refine rc_call (t := 3) (ls' := [some (vR 21), some (vR 7), o2, o3, o4]) (st' := []) (b106_2 call _ z f) hc ?_
  show RC call (mP 106) 3 [some (vR 21), some (vR 7), o2, o3, o4] [vI r1] (LT u z1 f1) res
  refine rc_b (i' := 8) (ls' := [some (vR 21), some (vR 7), some (vI r1), some (vI 0), some (vI 0)]) (st' := []) (L' := LT u z1 f1) 5 (b106_3 call o2 o3 o4 r1 _) ?_
  exact H
set_option maxRecDepth 100000 in
theorem bc8_106_1 (call : QC FA) (x2 : Int32) (x3 : Int32) (x4 : Int32) (z : Nat → Int32) (f : Nat → FA) (F : Nat) : rnG call 106 (F + 3) 8 [some (vR 21), some (vR 7), some (vI x2), some (vI x3), some (vI x4)] [] (LT u z f) = rnG call 106 F 11 [some (vR 21), some (vR 7), some (vI x2), some (vI x3), some (vI x4)] [vI (z 7), vI x4] (LT u z f) := rfl
set_option maxRecDepth 100000 in
theorem bc8_106_2 (call : QC FA) (x y : Int32) (ls : List (Option PV)) (L : QH FA) (F : Nat) : rnG call 106 (F + 1) 11 ls [vI y, vI x] L = bif pcmp 3 x y then rnG call 106 F 23 ls [] L else rnG call 106 F 12 ls [] L := rfl
set_option maxRecDepth 100000 in
theorem bc8_106_3 (call : QC FA) (x2 : Int32) (x3 : Int32) (x4 : Int32) (L : QH FA) (F : Nat) : rnG call 106 (F + 1) 23 [some (vR 21), some (vR 7), some (vI x2), some (vI x3), some (vI x4)] [] L = rnG call 106 F 24 [some (vR 21), some (vR 7), some (vI x2), some (vI x3), some (vI x4)] [vI x3] L := rfl
set_option maxRecDepth 100000 in
theorem bc8_106_4 (call : QC FA) (x : Int32) (ls : List (Option PV)) (L : QH FA) (F : Nat) : rnG call 106 (F + 1) 24 ls [vI x] L = some (some (vI x), L) := rfl
set_option maxRecDepth 100000 in
theorem bc8_106_5 (call : QC FA) (x2 : Int32) (x3 : Int32) (x4 : Int32) (L : QH FA) (F : Nat) : rnG call 106 (F + 3) 12 [some (vR 21), some (vR 7), some (vI x2), some (vI x3), some (vI x4)] [] L = rnG call 106 F 15 [some (vR 21), some (vR 7), some (vI x2), some (vI x3), some (vI x4)] [vI x4, vR 7, vI x3] L := rfl
set_option maxRecDepth 100000 in
theorem bc8_106_6 (call : QC FA) (a0 : Int32) (s0 : Int32) (ls : List (Option PV)) (z : Nat → Int32) (f : Nat → FA) (F : Nat) : rnG call 106 (F + 1) 15 ls [vI a0, vR 7, vI s0] (LT u z f) = cbd (call 3 [vR 7, vI a0] (LT u z f)) (fun r L' => rnG call 106 F 16 ls (r.toList ++ [vI s0]) L') := pcY (ih := rnG call 106 F) (call := call) (a := 3) (b := 1) (v := 9) (t := 16) (x := 7) (ls := ls) (As := [vI a0]) (st' := [vI s0]) (L := LT u z f) rfl rfl rfl
set_option maxRecDepth 100000 in
theorem bc8_106_7 (call : QC FA) (x2 : Int32) (x3 : Int32) (x4 : Int32) (s0 : Int32) (s1 : Int32) (L : QH FA) (F : Nat) : rnG call 106 (F + 2) 16 [some (vR 21), some (vR 7), some (vI x2), some (vI x3), some (vI x4)] [vI s0, vI s1] L = rnG call 106 F 18 [some (vR 21), some (vR 7), some (vI x2), some (vI x3), some (vI x4)] [vI (s0 - x2), vI s1] L := rfl
set_option maxRecDepth 100000 in
theorem bc8_106_8 (call : QC FA) (x : Int32) (s0 : Int32) (ls : List (Option PV)) (L : QH FA) (F : Nat) : rnG call 106 (F + 1) 18 ls [vI x, vI s0] L = bif pcmp 3 x 0 then rnG call 106 F 19 ls [vI x, vI s0] L else rnG call 106 F 19 ls [vI (0 - x), vI s0] L := pab (rnG call 106 F) 19 x ls [vI s0] L rfl
set_option maxRecDepth 100000 in
theorem bc8_106_9 (call : QC FA) (x2 : Int32) (x3 : Int32) (x4 : Int32) (s0 : Int32) (s1 : Int32) (L : QH FA) (F : Nat) : rnG call 106 (F + 2) 19 [some (vR 21), some (vR 7), some (vI x2), some (vI x3), some (vI x4)] [vI s0, vI s1] L = rnG call 106 F 21 [some (vR 21), some (vR 7), some (vI x2), some (vI (s1 + s0)), some (vI x4)] [] L := rfl
set_option maxRecDepth 100000 in
theorem bc8_106_10 (call : QC FA) (x2 : Int32) (x3 : Int32) (x4 : Int32) (L : QH FA) (F : Nat) : rnG call 106 (F + 1) 21 [some (vR 21), some (vR 7), some (vI x2), some (vI x3), some (vI x4)] [] L = rnG call 106 F 22 [some (vR 21), some (vR 7), some (vI x2), some (vI x3), some (vI (x4 + 1))] [] L := rfl
set_option maxRecDepth 100000 in
theorem bc8_106_11 (call : QC FA) (x2 : Int32) (x3 : Int32) (x4 : Int32) (L : QH FA) (F : Nat) : rnG call 106 (F + 1) 22 [some (vR 21), some (vR 7), some (vI x2), some (vI x3), some (vI x4)] [] L = rnG call 106 F 8 [some (vR 21), some (vR 7), some (vI x2), some (vI x3), some (vI x4)] [] L := rfl
theorem vcc8_106_8 (call : QC FA) (x2 : Int32) (x3 : Int32) (x4 : Int32) (z : Nat → Int32) (f : Nat → FA) (res : Option PV × QH FA) (H : ((I (z 7) ≤ I x4 → res = (some (vI x3), LT u z f)) ∧ (I x4 < I (z 7) → (∃ (r1 : Int32) (z1 : Nat → Int32) (f1 : Nat → FA), call 3 [vR 7, vI x4] (LT u z f) = some (some (vI r1), LT u z1 f1) ∧ ((0 ≤ I (r1 - x2) → RC call (mP 106) 8 [some (vR 21), some (vR 7), some (vI x2), some (vI (x3 + (r1 - x2))), some (vI (x4 + 1))] [] (LT u z1 f1) res) ∧ (I (r1 - x2) < 0 → RC call (mP 106) 8 [some (vR 21), some (vR 7), some (vI x2), some (vI (x3 + (0 - (r1 - x2)))), some (vI (x4 + 1))] [] (LT u z1 f1) res)))))) : RC call (mP 106) 8 [some (vR 21), some (vR 7), some (vI x2), some (vI x3), some (vI x4)] [] (LT u z f) res := by
  refine rc_b (i' := 11) (ls' := [some (vR 21), some (vR 7), some (vI x2), some (vI x3), some (vI x4)]) (st' := [vI (z 7), vI x4]) (L' := LT u z f) 3 (bc8_106_1 call x2 x3 x4 z f) ?_
  refine rc_if (it := 23) (ie := 12) (ls' := [some (vR 21), some (vR 7), some (vI x2), some (vI x3), some (vI x4)]) (st' := []) (bc8_106_2 call x4 (z 7) _ _) (fun q1 => ?_) (fun q1 => ?_)
  · have H := H.1 (cI3t q1 rfl rfl)
    refine rc_b (i' := 24) (ls' := [some (vR 21), some (vR 7), some (vI x2), some (vI x3), some (vI x4)]) (st' := [vI x3]) (L' := LT u z f) 1 (bc8_106_3 call x2 x3 x4 _) ?_
    subst H
    exact rc_ret (bc8_106_4 call _ _ _)
  · have H := H.2 (cI3f q1 rfl rfl)
    refine rc_b (i' := 15) (ls' := [some (vR 21), some (vR 7), some (vI x2), some (vI x3), some (vI x4)]) (st' := [vI x4, vR 7, vI x3]) (L' := LT u z f) 3 (bc8_106_5 call x2 x3 x4 _) ?_
    obtain ⟨r1, z1, f1, hc, H⟩ := H
    refine rc_call (t := 16) (ls' := [some (vR 21), some (vR 7), some (vI x2), some (vI x3), some (vI x4)]) (st' := [vI x3]) (bc8_106_6 call x4 x3 _ z f) hc ?_
    show RC call (mP 106) 16 [some (vR 21), some (vR 7), some (vI x2), some (vI x3), some (vI x4)] [vI r1, vI x3] (LT u z1 f1) res
    refine rc_b (i' := 18) (ls' := [some (vR 21), some (vR 7), some (vI x2), some (vI x3), some (vI x4)]) (st' := [vI (r1 - x2), vI x3]) (L' := LT u z1 f1) 2 (bc8_106_7 call x2 x3 x4 r1 x3 _) ?_
    refine rc_if2 (it := 19) (ie := 19) (ls' := [some (vR 21), some (vR 7), some (vI x2), some (vI x3), some (vI x4)]) (st1 := [vI (r1 - x2), vI x3]) (st2 := [vI (0 - (r1 - x2)), vI x3]) (bc8_106_8 call (r1 - x2) x3 _ _) (fun q2 => ?_) (fun q2 => ?_)
    · have H := H.1 (cI3t q2 rfl rfl)
      refine rc_b (i' := 21) (ls' := [some (vR 21), some (vR 7), some (vI x2), some (vI (x3 + (r1 - x2))), some (vI x4)]) (st' := []) (L' := LT u z1 f1) 2 (bc8_106_9 call x2 x3 x4 (r1 - x2) x3 _) ?_
      refine rc_b (i' := 22) (ls' := [some (vR 21), some (vR 7), some (vI x2), some (vI (x3 + (r1 - x2))), some (vI (x4 + 1))]) (st' := []) (L' := LT u z1 f1) 1 (bc8_106_10 call x2 (x3 + (r1 - x2)) x4 _) ?_
      refine rc_b (i' := 8) (ls' := [some (vR 21), some (vR 7), some (vI x2), some (vI (x3 + (r1 - x2))), some (vI (x4 + 1))]) (st' := []) (L' := LT u z1 f1) 1 (bc8_106_11 call x2 (x3 + (r1 - x2)) (x4 + 1) _) ?_
      exact H
    · have H := H.2 (cI3f q2 rfl rfl)
      refine rc_b (i' := 21) (ls' := [some (vR 21), some (vR 7), some (vI x2), some (vI (x3 + (0 - (r1 - x2)))), some (vI x4)]) (st' := []) (L' := LT u z1 f1) 2 (bc8_106_9 call x2 x3 x4 (0 - (r1 - x2)) x3 _) ?_
      refine rc_b (i' := 22) (ls' := [some (vR 21), some (vR 7), some (vI x2), some (vI (x3 + (0 - (r1 - x2)))), some (vI (x4 + 1))]) (st' := []) (L' := LT u z1 f1) 1 (bc8_106_10 call x2 (x3 + (0 - (r1 - x2))) x4 _) ?_
      refine rc_b (i' := 8) (ls' := [some (vR 21), some (vR 7), some (vI x2), some (vI (x3 + (0 - (r1 - x2)))), some (vI (x4 + 1))]) (st' := []) (L' := LT u z1 f1) 1 (bc8_106_11 call x2 (x3 + (0 - (r1 - x2))) (x4 + 1) _) ?_
      exact H
set_option maxRecDepth 100000 in
theorem b117_1 (call : QC FA) (x1 : Int32) (o2 : Option PV) (o3 : Option PV) (L : QH FA) (F : Nat) : rnG call 117 (F + 4) 0 [some (vR 9), some (vI x1), o2, o3] [] L = rnG call 117 F 4 [some (vR 9), some (vI x1), some (vI 0), some (vI 0)] [] L := rfl
theorem vc117_0 (call : QC FA) (x1 : Int32) (o2 : Option PV) (o3 : Option PV) (z : Nat → Int32) (f : Nat → FA) (res : Option PV × QH FA) (H : RC call (mP 117) 4 [some (vR 9), some (vI x1), some (vI 0), some (vI 0)] [] (LT u z f) res) : RC call (mP 117) 0 [some (vR 9), some (vI x1), o2, o3] [] (LT u z f) res := by
  refine rc_b (i' := 4) (ls' := [some (vR 9), some (vI x1), some (vI 0), some (vI 0)]) (st' := []) (L' := LT u z f) 4 (b117_1 call x1 o2 o3 _) ?_
  exact H
set_option maxRecDepth 100000 in
theorem bc4_117_1 (call : QC FA) (x1 : Int32) (x2 : Int32) (x3 : Int32) (z : Nat → Int32) (f : Nat → FA) (F : Nat) : rnG call 117 (F + 3) 4 [some (vR 9), some (vI x1), some (vI x2), some (vI x3)] [] (LT u z f) = rnG call 117 F 7 [some (vR 9), some (vI x1), some (vI x2), some (vI x3)] [vI (z 9), vI x3] (LT u z f) := rfl
set_option maxRecDepth 100000 in
theorem bc4_117_2 (call : QC FA) (x y : Int32) (ls : List (Option PV)) (L : QH FA) (F : Nat) : rnG call 117 (F + 1) 7 ls [vI y, vI x] L = bif pcmp 3 x y then rnG call 117 F 21 ls [] L else rnG call 117 F 8 ls [] L := rfl
set_option maxRecDepth 100000 in
theorem bc4_117_3 (call : QC FA) (x1 : Int32) (x2 : Int32) (x3 : Int32) (L : QH FA) (F : Nat) : rnG call 117 (F + 1) 21 [some (vR 9), some (vI x1), some (vI x2), some (vI x3)] [] L = rnG call 117 F 22 [some (vR 9), some (vI x1), some (vI x2), some (vI x3)] [vI x2] L := rfl
set_option maxRecDepth 100000 in
theorem bc4_117_4 (call : QC FA) (x : Int32) (ls : List (Option PV)) (L : QH FA) (F : Nat) : rnG call 117 (F + 1) 22 ls [vI x] L = some (some (vI x), L) := rfl
set_option maxRecDepth 100000 in
theorem bc4_117_5 (call : QC FA) (x1 : Int32) (x2 : Int32) (x3 : Int32) (L : QH FA) (F : Nat) : rnG call 117 (F + 3) 8 [some (vR 9), some (vI x1), some (vI x2), some (vI x3)] [] L = rnG call 117 F 11 [some (vR 9), some (vI x1), some (vI x2), some (vI x3)] [vI x3, vR 9, vI x2] L := rfl
set_option maxRecDepth 100000 in
theorem bc4_117_6 (call : QC FA) (a0 : Int32) (s0 : Int32) (ls : List (Option PV)) (z : Nat → Int32) (f : Nat → FA) (F : Nat) : rnG call 117 (F + 1) 11 ls [vI a0, vR 9, vI s0] (LT u z f) = cbd (call 3 [vR 9, vI a0] (LT u z f)) (fun r L' => rnG call 117 F 12 ls (r.toList ++ [vI s0]) L') := pcY (ih := rnG call 117 F) (call := call) (a := 3) (b := 1) (v := 9) (t := 12) (x := 9) (ls := ls) (As := [vI a0]) (st' := [vI s0]) (L := LT u z f) rfl rfl rfl
set_option maxRecDepth 100000 in
theorem bc4_117_7 (call : QC FA) (x1 : Int32) (x2 : Int32) (x3 : Int32) (s0 : Int32) (s1 : Int32) (L : QH FA) (F : Nat) : rnG call 117 (F + 1) 12 [some (vR 9), some (vI x1), some (vI x2), some (vI x3)] [vI s0, vI s1] L = rnG call 117 F 13 [some (vR 9), some (vI x1), some (vI x2), some (vI x3)] [vI x1, vI s0, vI s1] L := rfl
set_option maxRecDepth 100000 in
theorem bc4_117_8 (call : QC FA) (x y : Int32) (s0 : Int32) (ls : List (Option PV)) (L : QH FA) (F : Nat) : rnG call 117 (F + 1) 13 ls [vI y, vI x, vI s0] L = bif pcmp 1 x y then rnG call 117 F 16 ls [vI s0] L else rnG call 117 F 14 ls [vI s0] L := rfl
set_option maxRecDepth 100000 in
theorem bc4_117_9 (call : QC FA) (x1 : Int32) (x2 : Int32) (x3 : Int32) (s0 : Int32) (L : QH FA) (F : Nat) : rnG call 117 (F + 3) 16 [some (vR 9), some (vI x1), some (vI x2), some (vI x3)] [vI s0] L = rnG call 117 F 19 [some (vR 9), some (vI x1), some (vI (s0 + 0)), some (vI x3)] [] L := rfl
set_option maxRecDepth 100000 in
theorem bc4_117_10 (call : QC FA) (x1 : Int32) (x2 : Int32) (x3 : Int32) (L : QH FA) (F : Nat) : rnG call 117 (F + 1) 19 [some (vR 9), some (vI x1), some (vI x2), some (vI x3)] [] L = rnG call 117 F 20 [some (vR 9), some (vI x1), some (vI x2), some (vI (x3 + 1))] [] L := rfl
set_option maxRecDepth 100000 in
theorem bc4_117_11 (call : QC FA) (x1 : Int32) (x2 : Int32) (x3 : Int32) (L : QH FA) (F : Nat) : rnG call 117 (F + 1) 20 [some (vR 9), some (vI x1), some (vI x2), some (vI x3)] [] L = rnG call 117 F 4 [some (vR 9), some (vI x1), some (vI x2), some (vI x3)] [] L := rfl
set_option maxRecDepth 100000 in
theorem bc4_117_12 (call : QC FA) (x1 : Int32) (x2 : Int32) (x3 : Int32) (s0 : Int32) (L : QH FA) (F : Nat) : rnG call 117 (F + 4) 14 [some (vR 9), some (vI x1), some (vI x2), some (vI x3)] [vI s0] L = rnG call 117 F 19 [some (vR 9), some (vI x1), some (vI (s0 + 1)), some (vI x3)] [] L := rfl
theorem vcc4_117_4 (call : QC FA) (x1 : Int32) (x2 : Int32) (x3 : Int32) (z : Nat → Int32) (f : Nat → FA) (res : Option PV × QH FA) (H : ((I (z 9) ≤ I x3 → res = (some (vI x2), LT u z f)) ∧ (I x3 < I (z 9) → (∃ (r1 : Int32) (z1 : Nat → Int32) (f1 : Nat → FA), call 3 [vR 9, vI x3] (LT u z f) = some (some (vI r1), LT u z1 f1) ∧ ((¬ r1 = x1 → RC call (mP 117) 4 [some (vR 9), some (vI x1), some (vI (x2 + 0)), some (vI (x3 + 1))] [] (LT u z1 f1) res) ∧ (r1 = x1 → RC call (mP 117) 4 [some (vR 9), some (vI x1), some (vI (x2 + 1)), some (vI (x3 + 1))] [] (LT u z1 f1) res)))))) : RC call (mP 117) 4 [some (vR 9), some (vI x1), some (vI x2), some (vI x3)] [] (LT u z f) res := by
  refine rc_b (i' := 7) (ls' := [some (vR 9), some (vI x1), some (vI x2), some (vI x3)]) (st' := [vI (z 9), vI x3]) (L' := LT u z f) 3 (bc4_117_1 call x1 x2 x3 z f) ?_
  refine rc_if (it := 21) (ie := 8) (ls' := [some (vR 9), some (vI x1), some (vI x2), some (vI x3)]) (st' := []) (bc4_117_2 call x3 (z 9) _ _) (fun q1 => ?_) (fun q1 => ?_)
  · have H := H.1 (cI3t q1 rfl rfl)
    refine rc_b (i' := 22) (ls' := [some (vR 9), some (vI x1), some (vI x2), some (vI x3)]) (st' := [vI x2]) (L' := LT u z f) 1 (bc4_117_3 call x1 x2 x3 _) ?_
    subst H
    exact rc_ret (bc4_117_4 call _ _ _)
  · have H := H.2 (cI3f q1 rfl rfl)
    refine rc_b (i' := 11) (ls' := [some (vR 9), some (vI x1), some (vI x2), some (vI x3)]) (st' := [vI x3, vR 9, vI x2]) (L' := LT u z f) 3 (bc4_117_5 call x1 x2 x3 _) ?_
    obtain ⟨r1, z1, f1, hc, H⟩ := H
    refine rc_call (t := 12) (ls' := [some (vR 9), some (vI x1), some (vI x2), some (vI x3)]) (st' := [vI x2]) (bc4_117_6 call x3 x2 _ z f) hc ?_
    show RC call (mP 117) 12 [some (vR 9), some (vI x1), some (vI x2), some (vI x3)] [vI r1, vI x2] (LT u z1 f1) res
    refine rc_b (i' := 13) (ls' := [some (vR 9), some (vI x1), some (vI x2), some (vI x3)]) (st' := [vI x1, vI r1, vI x2]) (L' := LT u z1 f1) 1 (bc4_117_7 call x1 x2 x3 r1 x2 _) ?_
    refine rc_if (it := 16) (ie := 14) (ls' := [some (vR 9), some (vI x1), some (vI x2), some (vI x3)]) (st' := [vI x2]) (bc4_117_8 call r1 x1 x2 _ _) (fun q2 => ?_) (fun q2 => ?_)
    · have H := H.1 (cI1t q2)
      refine rc_b (i' := 19) (ls' := [some (vR 9), some (vI x1), some (vI (x2 + 0)), some (vI x3)]) (st' := []) (L' := LT u z1 f1) 3 (bc4_117_9 call x1 x2 x3 x2 _) ?_
      refine rc_b (i' := 20) (ls' := [some (vR 9), some (vI x1), some (vI (x2 + 0)), some (vI (x3 + 1))]) (st' := []) (L' := LT u z1 f1) 1 (bc4_117_10 call x1 (x2 + 0) x3 _) ?_
      refine rc_b (i' := 4) (ls' := [some (vR 9), some (vI x1), some (vI (x2 + 0)), some (vI (x3 + 1))]) (st' := []) (L' := LT u z1 f1) 1 (bc4_117_11 call x1 (x2 + 0) (x3 + 1) _) ?_
      exact H
    · have H := H.2 (cI1f q2)
      refine rc_b (i' := 19) (ls' := [some (vR 9), some (vI x1), some (vI (x2 + 1)), some (vI x3)]) (st' := []) (L' := LT u z1 f1) 4 (bc4_117_12 call x1 x2 x3 x2 _) ?_
      refine rc_b (i' := 20) (ls' := [some (vR 9), some (vI x1), some (vI (x2 + 1)), some (vI (x3 + 1))]) (st' := []) (L' := LT u z1 f1) 1 (bc4_117_10 call x1 (x2 + 1) x3 _) ?_
      refine rc_b (i' := 4) (ls' := [some (vR 9), some (vI x1), some (vI (x2 + 1)), some (vI (x3 + 1))]) (st' := []) (L' := LT u z1 f1) 1 (bc4_117_11 call x1 (x2 + 1) (x3 + 1) _) ?_
      exact H
set_option maxRecDepth 100000 in
theorem b110_1 (call : QC FA) (o2 : Option PV) (L : QH FA) (F : Nat) : rnG call 110 (F + 2) 0 [some (vR 21), some (vR 9), o2] [] L = rnG call 110 F 2 [some (vR 21), some (vR 9), some (vI 0)] [] L := rfl
theorem vc110_0 (call : QC FA) (o2 : Option PV) (z : Nat → Int32) (f : Nat → FA) (res : Option PV × QH FA) (H : RC call (mP 110) 2 [some (vR 21), some (vR 9), some (vI 0)] [] (LT u z f) res) : RC call (mP 110) 0 [some (vR 21), some (vR 9), o2] [] (LT u z f) res := by
  refine rc_b (i' := 2) (ls' := [some (vR 21), some (vR 9), some (vI 0)]) (st' := []) (L' := LT u z f) 2 (b110_1 call o2 _) ?_
  exact H
set_option maxRecDepth 100000 in
theorem bc2_110_1 (call : QC FA) (x2 : Int32) (L : QH FA) (F : Nat) : rnG call 110 (F + 2) 2 [some (vR 21), some (vR 9), some (vI x2)] [] L = rnG call 110 F 4 [some (vR 21), some (vR 9), some (vI x2)] [vI 9, vI x2] L := rfl
set_option maxRecDepth 100000 in
theorem bc2_110_2 (call : QC FA) (x y : Int32) (ls : List (Option PV)) (L : QH FA) (F : Nat) : rnG call 110 (F + 1) 4 ls [vI y, vI x] L = bif pcmp 4 x y then rnG call 110 F 17 ls [] L else rnG call 110 F 5 ls [] L := rfl
set_option maxRecDepth 100000 in
theorem bc2_110_3 (call : QC FA) (x2 : Int32) (L : QH FA) (F : Nat) : rnG call 110 (F + 1) 17 [some (vR 21), some (vR 9), some (vI x2)] [] L = rnG call 110 F 18 [some (vR 21), some (vR 9), some (vI x2)] [vI ((-1))] L := rfl
set_option maxRecDepth 100000 in
theorem bc2_110_4 (call : QC FA) (x : Int32) (ls : List (Option PV)) (L : QH FA) (F : Nat) : rnG call 110 (F + 1) 18 ls [vI x] L = some (some (vI x), L) := rfl
set_option maxRecDepth 100000 in
theorem bc2_110_5 (call : QC FA) (x2 : Int32) (L : QH FA) (F : Nat) : rnG call 110 (F + 3) 5 [some (vR 21), some (vR 9), some (vI x2)] [] L = rnG call 110 F 8 [some (vR 21), some (vR 9), some (vI x2)] [vI x2, vR 9, vI 2] L := rfl
set_option maxRecDepth 100000 in
theorem bc2_110_6 (call : QC FA) (a1 : Int32) (s0 : Int32) (ls : List (Option PV)) (z : Nat → Int32) (f : Nat → FA) (F : Nat) : rnG call 110 (F + 1) 8 ls [vI a1, vR 9, vI s0] (LT u z f) = cbd (call 117 [vR 9, vI a1] (LT u z f)) (fun r L' => rnG call 110 F 9 ls (r.toList ++ [vI s0]) L') := pcZ (ih := rnG call 110 F) (call := call) (a := 117) (b := 2) (t := 9) (ls := ls) (As := [vR 9, vI a1]) (st' := [vI s0]) (L := LT u z f) rfl rfl
set_option maxRecDepth 100000 in
theorem bc2_110_7 (call : QC FA) (x2 : Int32) (s0 : Int32) (s1 : Int32) (z : Nat → Int32) (f : Nat → FA) (F : Nat) : rnG call 110 (F + 3) 9 [some (vR 21), some (vR 9), some (vI x2)] [vI s0, vI s1] (LT u z f) = rnG call 110 F 12 [some (vR 21), some (vR 9), some (vI x2)] [vI (z 9), vI (s1 * s0)] (LT u z f) := rfl
set_option maxRecDepth 100000 in
theorem bc2_110_8 (call : QC FA) (x y : Int32) (ls : List (Option PV)) (L : QH FA) (F : Nat) : rnG call 110 (F + 1) 12 ls [vI y, vI x] L = bif pcmp 5 x y then rnG call 110 F 15 ls [] L else rnG call 110 F 13 ls [] L := rfl
set_option maxRecDepth 100000 in
theorem bc2_110_9 (call : QC FA) (x2 : Int32) (L : QH FA) (F : Nat) : rnG call 110 (F + 1) 15 [some (vR 21), some (vR 9), some (vI x2)] [] L = rnG call 110 F 16 [some (vR 21), some (vR 9), some (vI (x2 + 1))] [] L := rfl
set_option maxRecDepth 100000 in
theorem bc2_110_10 (call : QC FA) (x2 : Int32) (L : QH FA) (F : Nat) : rnG call 110 (F + 1) 16 [some (vR 21), some (vR 9), some (vI x2)] [] L = rnG call 110 F 2 [some (vR 21), some (vR 9), some (vI x2)] [] L := rfl
set_option maxRecDepth 100000 in
theorem bc2_110_11 (call : QC FA) (x2 : Int32) (L : QH FA) (F : Nat) : rnG call 110 (F + 1) 13 [some (vR 21), some (vR 9), some (vI x2)] [] L = rnG call 110 F 14 [some (vR 21), some (vR 9), some (vI x2)] [vI x2] L := rfl
set_option maxRecDepth 100000 in
theorem bc2_110_12 (call : QC FA) (x : Int32) (ls : List (Option PV)) (L : QH FA) (F : Nat) : rnG call 110 (F + 1) 14 ls [vI x] L = some (some (vI x), L) := rfl
theorem vcc2_110_2 (call : QC FA) (x2 : Int32) (z : Nat → Int32) (f : Nat → FA) (res : Option PV × QH FA) (H : ((9 < I x2 → res = (some (vI ((-1))), LT u z f)) ∧ (I x2 ≤ 9 → (∃ (r1 : Int32) (z1 : Nat → Int32) (f1 : Nat → FA), call 117 [vR 9, vI x2] (LT u z f) = some (some (vI r1), LT u z1 f1) ∧ ((I (2 * r1) ≤ I (z1 9) → RC call (mP 110) 2 [some (vR 21), some (vR 9), some (vI (x2 + 1))] [] (LT u z1 f1) res) ∧ (I (z1 9) < I (2 * r1) → res = (some (vI x2), LT u z1 f1))))))) : RC call (mP 110) 2 [some (vR 21), some (vR 9), some (vI x2)] [] (LT u z f) res := by
  refine rc_b (i' := 4) (ls' := [some (vR 21), some (vR 9), some (vI x2)]) (st' := [vI 9, vI x2]) (L' := LT u z f) 2 (bc2_110_1 call x2 _) ?_
  refine rc_if (it := 17) (ie := 5) (ls' := [some (vR 21), some (vR 9), some (vI x2)]) (st' := []) (bc2_110_2 call x2 9 _ _) (fun q1 => ?_) (fun q1 => ?_)
  · have H := H.1 (cI4t q1 rfl rfl)
    refine rc_b (i' := 18) (ls' := [some (vR 21), some (vR 9), some (vI x2)]) (st' := [vI ((-1))]) (L' := LT u z f) 1 (bc2_110_3 call x2 _) ?_
    subst H
    exact rc_ret (bc2_110_4 call _ _ _)
  · have H := H.2 (cI4f q1 rfl rfl)
    refine rc_b (i' := 8) (ls' := [some (vR 21), some (vR 9), some (vI x2)]) (st' := [vI x2, vR 9, vI 2]) (L' := LT u z f) 3 (bc2_110_5 call x2 _) ?_
    obtain ⟨r1, z1, f1, hc, H⟩ := H
    refine rc_call (t := 9) (ls' := [some (vR 21), some (vR 9), some (vI x2)]) (st' := [vI 2]) (bc2_110_6 call x2 2 _ z f) hc ?_
    show RC call (mP 110) 9 [some (vR 21), some (vR 9), some (vI x2)] [vI r1, vI 2] (LT u z1 f1) res
    refine rc_b (i' := 12) (ls' := [some (vR 21), some (vR 9), some (vI x2)]) (st' := [vI (z1 9), vI (2 * r1)]) (L' := LT u z1 f1) 3 (bc2_110_7 call x2 r1 2 z1 f1) ?_
    refine rc_if (it := 15) (ie := 13) (ls' := [some (vR 21), some (vR 9), some (vI x2)]) (st' := []) (bc2_110_8 call (2 * r1) (z1 9) _ _) (fun q2 => ?_) (fun q2 => ?_)
    · have H := H.1 (cI5t q2 rfl rfl)
      refine rc_b (i' := 16) (ls' := [some (vR 21), some (vR 9), some (vI (x2 + 1))]) (st' := []) (L' := LT u z1 f1) 1 (bc2_110_9 call x2 _) ?_
      refine rc_b (i' := 2) (ls' := [some (vR 21), some (vR 9), some (vI (x2 + 1))]) (st' := []) (L' := LT u z1 f1) 1 (bc2_110_10 call (x2 + 1) _) ?_
      exact H
    · have H := H.2 (cI5f q2 rfl rfl)
      refine rc_b (i' := 14) (ls' := [some (vR 21), some (vR 9), some (vI x2)]) (st' := [vI x2]) (L' := LT u z1 f1) 1 (bc2_110_11 call x2 _) ?_
      subst H
      exact rc_ret (bc2_110_12 call _ _ _)
set_option maxRecDepth 100000 in
theorem b112_1 (call : QC FA) (o2 : Option PV) (o3 : Option PV) (L : QH FA) (F : Nat) : rnG call 112 (F + 4) 0 [some (vR 21), some (vR 9), o2, o3] [] L = rnG call 112 F 4 [some (vR 21), some (vR 9), some (vI 0), some (vI 0)] [] L := rfl
theorem vc112_0 (call : QC FA) (o2 : Option PV) (o3 : Option PV) (z : Nat → Int32) (f : Nat → FA) (res : Option PV × QH FA) (H : RC call (mP 112) 4 [some (vR 21), some (vR 9), some (vI 0), some (vI 0)] [] (LT u z f) res) : RC call (mP 112) 0 [some (vR 21), some (vR 9), o2, o3] [] (LT u z f) res := by
  refine rc_b (i' := 4) (ls' := [some (vR 21), some (vR 9), some (vI 0), some (vI 0)]) (st' := []) (L' := LT u z f) 4 (b112_1 call o2 o3 _) ?_
  exact H
set_option maxRecDepth 100000 in
theorem bc4_112_1 (call : QC FA) (x2 : Int32) (x3 : Int32) (L : QH FA) (F : Nat) : rnG call 112 (F + 2) 4 [some (vR 21), some (vR 9), some (vI x2), some (vI x3)] [] L = rnG call 112 F 6 [some (vR 21), some (vR 9), some (vI x2), some (vI x3)] [vI 9, vI x3] L := rfl
set_option maxRecDepth 100000 in
theorem bc4_112_2 (call : QC FA) (x y : Int32) (ls : List (Option PV)) (L : QH FA) (F : Nat) : rnG call 112 (F + 1) 6 ls [vI y, vI x] L = bif pcmp 4 x y then rnG call 112 F 15 ls [] L else rnG call 112 F 7 ls [] L := rfl
set_option maxRecDepth 100000 in
theorem bc4_112_3 (call : QC FA) (x2 : Int32) (x3 : Int32) (L : QH FA) (F : Nat) : rnG call 112 (F + 1) 15 [some (vR 21), some (vR 9), some (vI x2), some (vI x3)] [] L = rnG call 112 F 16 [some (vR 21), some (vR 9), some (vI x2), some (vI x3)] [vI x2] L := rfl
set_option maxRecDepth 100000 in
theorem bc4_112_4 (call : QC FA) (x : Int32) (ls : List (Option PV)) (L : QH FA) (F : Nat) : rnG call 112 (F + 1) 16 ls [vI x] L = some (some (vI x), L) := rfl
set_option maxRecDepth 100000 in
theorem bc4_112_5 (call : QC FA) (x2 : Int32) (x3 : Int32) (L : QH FA) (F : Nat) : rnG call 112 (F + 3) 7 [some (vR 21), some (vR 9), some (vI x2), some (vI x3)] [] L = rnG call 112 F 10 [some (vR 21), some (vR 9), some (vI x2), some (vI x3)] [vI x3, vR 9, vI x2] L := rfl
set_option maxRecDepth 100000 in
theorem bc4_112_6 (call : QC FA) (a1 : Int32) (s0 : Int32) (ls : List (Option PV)) (z : Nat → Int32) (f : Nat → FA) (F : Nat) : rnG call 112 (F + 1) 10 ls [vI a1, vR 9, vI s0] (LT u z f) = cbd (call 117 [vR 9, vI a1] (LT u z f)) (fun r L' => rnG call 112 F 11 ls (r.toList ++ [vI s0]) L') := pcZ (ih := rnG call 112 F) (call := call) (a := 117) (b := 2) (t := 11) (ls := ls) (As := [vR 9, vI a1]) (st' := [vI s0]) (L := LT u z f) rfl rfl
set_option maxRecDepth 100000 in
theorem bc4_112_7 (call : QC FA) (x y : Int32) (ls : List (Option PV)) (L : QH FA) (F : Nat) : rnG call 112 (F + 1) 11 ls [vI y, vI x] L = bif pcmp 2 x y then rnG call 112 F 12 ls [vI y] L else rnG call 112 F 12 ls [vI x] L := pmxr (rnG call 112 F) 12 x y ls [] L rfl
set_option maxRecDepth 100000 in
theorem bc4_112_8 (call : QC FA) (x2 : Int32) (x3 : Int32) (s0 : Int32) (L : QH FA) (F : Nat) : rnG call 112 (F + 1) 12 [some (vR 21), some (vR 9), some (vI x2), some (vI x3)] [vI s0] L = rnG call 112 F 13 [some (vR 21), some (vR 9), some (vI s0), some (vI x3)] [] L := rfl
set_option maxRecDepth 100000 in
theorem bc4_112_9 (call : QC FA) (x2 : Int32) (x3 : Int32) (L : QH FA) (F : Nat) : rnG call 112 (F + 1) 13 [some (vR 21), some (vR 9), some (vI x2), some (vI x3)] [] L = rnG call 112 F 14 [some (vR 21), some (vR 9), some (vI x2), some (vI (x3 + 1))] [] L := rfl
set_option maxRecDepth 100000 in
theorem bc4_112_10 (call : QC FA) (x2 : Int32) (x3 : Int32) (L : QH FA) (F : Nat) : rnG call 112 (F + 1) 14 [some (vR 21), some (vR 9), some (vI x2), some (vI x3)] [] L = rnG call 112 F 4 [some (vR 21), some (vR 9), some (vI x2), some (vI x3)] [] L := rfl
theorem vcc4_112_4 (call : QC FA) (x2 : Int32) (x3 : Int32) (z : Nat → Int32) (f : Nat → FA) (res : Option PV × QH FA) (H : ((9 < I x3 → res = (some (vI x2), LT u z f)) ∧ (I x3 ≤ 9 → (∃ (r1 : Int32) (z1 : Nat → Int32) (f1 : Nat → FA), call 117 [vR 9, vI x3] (LT u z f) = some (some (vI r1), LT u z1 f1) ∧ ((I x2 < I r1 → RC call (mP 112) 4 [some (vR 21), some (vR 9), some (vI r1), some (vI (x3 + 1))] [] (LT u z1 f1) res) ∧ (I r1 ≤ I x2 → RC call (mP 112) 4 [some (vR 21), some (vR 9), some (vI x2), some (vI (x3 + 1))] [] (LT u z1 f1) res)))))) : RC call (mP 112) 4 [some (vR 21), some (vR 9), some (vI x2), some (vI x3)] [] (LT u z f) res := by
  refine rc_b (i' := 6) (ls' := [some (vR 21), some (vR 9), some (vI x2), some (vI x3)]) (st' := [vI 9, vI x3]) (L' := LT u z f) 2 (bc4_112_1 call x2 x3 _) ?_
  refine rc_if (it := 15) (ie := 7) (ls' := [some (vR 21), some (vR 9), some (vI x2), some (vI x3)]) (st' := []) (bc4_112_2 call x3 9 _ _) (fun q1 => ?_) (fun q1 => ?_)
  · have H := H.1 (cI4t q1 rfl rfl)
    refine rc_b (i' := 16) (ls' := [some (vR 21), some (vR 9), some (vI x2), some (vI x3)]) (st' := [vI x2]) (L' := LT u z f) 1 (bc4_112_3 call x2 x3 _) ?_
    subst H
    exact rc_ret (bc4_112_4 call _ _ _)
  · have H := H.2 (cI4f q1 rfl rfl)
    refine rc_b (i' := 10) (ls' := [some (vR 21), some (vR 9), some (vI x2), some (vI x3)]) (st' := [vI x3, vR 9, vI x2]) (L' := LT u z f) 3 (bc4_112_5 call x2 x3 _) ?_
    obtain ⟨r1, z1, f1, hc, H⟩ := H
    refine rc_call (t := 11) (ls' := [some (vR 21), some (vR 9), some (vI x2), some (vI x3)]) (st' := [vI x2]) (bc4_112_6 call x3 x2 _ z f) hc ?_
    show RC call (mP 112) 11 [some (vR 21), some (vR 9), some (vI x2), some (vI x3)] [vI r1, vI x2] (LT u z1 f1) res
    refine rc_if2 (it := 12) (ie := 12) (ls' := [some (vR 21), some (vR 9), some (vI x2), some (vI x3)]) (st1 := [vI r1]) (st2 := [vI x2]) (bc4_112_7 call x2 r1 _ _) (fun q2 => ?_) (fun q2 => ?_)
    · have H := H.1 (cI2t q2 rfl rfl)
      refine rc_b (i' := 13) (ls' := [some (vR 21), some (vR 9), some (vI r1), some (vI x3)]) (st' := []) (L' := LT u z1 f1) 1 (bc4_112_8 call x2 x3 r1 _) ?_
      refine rc_b (i' := 14) (ls' := [some (vR 21), some (vR 9), some (vI r1), some (vI (x3 + 1))]) (st' := []) (L' := LT u z1 f1) 1 (bc4_112_9 call r1 x3 _) ?_
      refine rc_b (i' := 4) (ls' := [some (vR 21), some (vR 9), some (vI r1), some (vI (x3 + 1))]) (st' := []) (L' := LT u z1 f1) 1 (bc4_112_10 call r1 (x3 + 1) _) ?_
      exact H
    · have H := H.2 (cI2f q2 rfl rfl)
      refine rc_b (i' := 13) (ls' := [some (vR 21), some (vR 9), some (vI x2), some (vI x3)]) (st' := []) (L' := LT u z1 f1) 1 (bc4_112_8 call x2 x3 x2 _) ?_
      refine rc_b (i' := 14) (ls' := [some (vR 21), some (vR 9), some (vI x2), some (vI (x3 + 1))]) (st' := []) (L' := LT u z1 f1) 1 (bc4_112_9 call x2 x3 _) ?_
      refine rc_b (i' := 4) (ls' := [some (vR 21), some (vR 9), some (vI x2), some (vI (x3 + 1))]) (st' := []) (L' := LT u z1 f1) 1 (bc4_112_10 call x2 (x3 + 1) _) ?_
      exact H
set_option maxRecDepth 100000 in
theorem bm0_169_1 (call : QC FA) (x1 : Int32) (L : QH FA) (F : Nat) : rnG call 169 (F + 1) 0 [some (vR 0), some (vI x1)] [] L = rnG call 169 F 1 [some (vR 0), some (vI x1)] [vI x1] L := rfl
set_option maxRecDepth 100000 in
theorem bm0_169_2 (call : QC FA) (x1 : Int32) (z : Nat → Int32) (f : Nat → FA) (F : Nat) : rnG call 169 (F + 6) 2 [some (vR 0), some (vI x1)] [] (LT u z f) = rnG call 169 F 8 [some (vR 0), some (vI x1)] [vI 2, vR 2, vR 21] (LT u z f) := rfl
set_option maxRecDepth 100000 in
theorem bm0_169_3 (call : QC FA) (x : Int32) (ls : List (Option PV)) (z : Nat → Int32) (f : Nat → FA) (F : Nat) : rnG call 169 (F + 1) 8 ls [vI x, vR 2, vR 21] (LT u z f) = bif ((Nat.beq 3 1 || (Nat.beq 3 2 || Nat.beq 3 3)) && pin x 9) then rnG call 169 F 9 ls [.inr (.inl (wT u (ix x))), vR 21] (LT u z f) else none := rfl
set_option maxRecDepth 100000 in
theorem bm0_169_4 (call : QC FA) (ls : List (Option PV)) (z : Nat → Int32) (f : Nat → FA) (F : Nat) : rnG call 169 (F + 1) 9 ls [vR 7, vR 21] (LT u z f) = cbd (call 109 [vR 21, vR 7] (LT u z f)) (fun r L' => rnG call 169 F 10 ls (r.toList ++ []) L') := pcY (ih := rnG call 169 F) (call := call) (a := 109) (b := 1) (v := 4) (t := 10) (x := 21) (ls := ls) (As := [vR 7]) (st' := []) (L := LT u z f) rfl rfl rfl
set_option maxRecDepth 100000 in
theorem bm0_169_5 (call : QC FA) (x : Int32) (ls : List (Option PV)) (L : QH FA) (F : Nat) : rnG call 169 (F + 1) 10 ls [vI x] L = some (some (vI x), L) := rfl
theorem vcm0_169_0 (call : QC FA) (z : Nat → Int32) (f : Nat → FA) (res : Option PV × QH FA) (H : (∃ (r1 : Int32) (z1 : Nat → Int32) (f1 : Nat → FA), call 109 [vR 21, vR 7] (LT u z f) = some (some (vI r1), LT u z1 f1) ∧ res = (some (vI r1), LT u z1 f1))) : RC call (mP 169) 0 [some (vR 0), some (vI 0)] [] (LT u z f) res := by
  refine rc_b (i' := 1) (ls' := [some (vR 0), some (vI 0)]) (st' := [vI 0]) (L' := LT u z f) 1 (bm0_169_1 call 0 _) ?_
  refine rc_b (i' := 2) (ls' := [some (vR 0), some (vI 0)]) (st' := []) (L' := LT u z f) 1 (fun F => (show rnG call 169 (F + 1) 1 [some (vR 0), some (vI 0)] [vI 0] (LT u z f) = rnG call 169 F 2 [some (vR 0), some (vI 0)] [] (LT u z f) from pta (ih := rnG call 169 F) (a := 0) (b := 3) (tg := [38, 2, 11, 20, 29]) (x := 0) (by decide) rfl)) ?_
  refine rc_b (i' := 8) (ls' := [some (vR 0), some (vI 0)]) (st' := [vI 2, vR 2, vR 21]) (L' := LT u z f) 6 (bm0_169_2 call 0 z f) ?_
  refine rc_g (i' := 9) (ls' := [some (vR 0), some (vI 0)]) (st' := [.inr (.inl (wT u (ix 2))), vR 21]) (L' := LT u z f) (bm0_169_3 call 2 _ z f) (by decide) ?_
  show RC call (mP 169) 9 [some (vR 0), some (vI 0)] [vR 7, vR 21] (LT u z f) res
  obtain ⟨r1, z1, f1, hc, H⟩ := H
  refine rc_call (t := 10) (ls' := [some (vR 0), some (vI 0)]) (st' := []) (bm0_169_4 call _ z f) hc ?_
  show RC call (mP 169) 10 [some (vR 0), some (vI 0)] [vI r1] (LT u z1 f1) res
  subst H
  exact rc_ret (bm0_169_5 call _ _ _)
set_option maxRecDepth 100000 in
theorem bm1_169_1 (call : QC FA) (x1 : Int32) (L : QH FA) (F : Nat) : rnG call 169 (F + 1) 0 [some (vR 0), some (vI x1)] [] L = rnG call 169 F 1 [some (vR 0), some (vI x1)] [vI x1] L := rfl
set_option maxRecDepth 100000 in
theorem bm1_169_2 (call : QC FA) (x1 : Int32) (z : Nat → Int32) (f : Nat → FA) (F : Nat) : rnG call 169 (F + 6) 11 [some (vR 0), some (vI x1)] [] (LT u z f) = rnG call 169 F 17 [some (vR 0), some (vI x1)] [vI 2, vR 2, vR 21] (LT u z f) := rfl
set_option maxRecDepth 100000 in
theorem bm1_169_3 (call : QC FA) (x : Int32) (ls : List (Option PV)) (z : Nat → Int32) (f : Nat → FA) (F : Nat) : rnG call 169 (F + 1) 17 ls [vI x, vR 2, vR 21] (LT u z f) = bif ((Nat.beq 3 1 || (Nat.beq 3 2 || Nat.beq 3 3)) && pin x 9) then rnG call 169 F 18 ls [.inr (.inl (wT u (ix x))), vR 21] (LT u z f) else none := rfl
set_option maxRecDepth 100000 in
theorem bm1_169_4 (call : QC FA) (ls : List (Option PV)) (z : Nat → Int32) (f : Nat → FA) (F : Nat) : rnG call 169 (F + 1) 18 ls [vR 7, vR 21] (LT u z f) = cbd (call 106 [vR 21, vR 7] (LT u z f)) (fun r L' => rnG call 169 F 19 ls (r.toList ++ []) L') := pcY (ih := rnG call 169 F) (call := call) (a := 106) (b := 1) (v := 4) (t := 19) (x := 21) (ls := ls) (As := [vR 7]) (st' := []) (L := LT u z f) rfl rfl rfl
set_option maxRecDepth 100000 in
theorem bm1_169_5 (call : QC FA) (x : Int32) (ls : List (Option PV)) (L : QH FA) (F : Nat) : rnG call 169 (F + 1) 19 ls [vI x] L = some (some (vI x), L) := rfl
theorem vcm1_169_0 (call : QC FA) (z : Nat → Int32) (f : Nat → FA) (res : Option PV × QH FA) (H : (∃ (r1 : Int32) (z1 : Nat → Int32) (f1 : Nat → FA), call 106 [vR 21, vR 7] (LT u z f) = some (some (vI r1), LT u z1 f1) ∧ res = (some (vI r1), LT u z1 f1))) : RC call (mP 169) 0 [some (vR 0), some (vI 1)] [] (LT u z f) res := by
  refine rc_b (i' := 1) (ls' := [some (vR 0), some (vI 1)]) (st' := [vI 1]) (L' := LT u z f) 1 (bm1_169_1 call 1 _) ?_
  refine rc_b (i' := 11) (ls' := [some (vR 0), some (vI 1)]) (st' := []) (L' := LT u z f) 1 (fun F => (show rnG call 169 (F + 1) 1 [some (vR 0), some (vI 1)] [vI 1] (LT u z f) = rnG call 169 F 11 [some (vR 0), some (vI 1)] [] (LT u z f) from pta (ih := rnG call 169 F) (a := 0) (b := 3) (tg := [38, 2, 11, 20, 29]) (x := 1) (by decide) rfl)) ?_
  refine rc_b (i' := 17) (ls' := [some (vR 0), some (vI 1)]) (st' := [vI 2, vR 2, vR 21]) (L' := LT u z f) 6 (bm1_169_2 call 1 z f) ?_
  refine rc_g (i' := 18) (ls' := [some (vR 0), some (vI 1)]) (st' := [.inr (.inl (wT u (ix 2))), vR 21]) (L' := LT u z f) (bm1_169_3 call 2 _ z f) (by decide) ?_
  show RC call (mP 169) 18 [some (vR 0), some (vI 1)] [vR 7, vR 21] (LT u z f) res
  obtain ⟨r1, z1, f1, hc, H⟩ := H
  refine rc_call (t := 19) (ls' := [some (vR 0), some (vI 1)]) (st' := []) (bm1_169_4 call _ z f) hc ?_
  show RC call (mP 169) 19 [some (vR 0), some (vI 1)] [vI r1] (LT u z1 f1) res
  subst H
  exact rc_ret (bm1_169_5 call _ _ _)
set_option maxRecDepth 100000 in
theorem bm2_169_1 (call : QC FA) (x1 : Int32) (L : QH FA) (F : Nat) : rnG call 169 (F + 1) 0 [some (vR 0), some (vI x1)] [] L = rnG call 169 F 1 [some (vR 0), some (vI x1)] [vI x1] L := rfl
set_option maxRecDepth 100000 in
theorem bm2_169_2 (call : QC FA) (x1 : Int32) (z : Nat → Int32) (f : Nat → FA) (F : Nat) : rnG call 169 (F + 6) 20 [some (vR 0), some (vI x1)] [] (LT u z f) = rnG call 169 F 26 [some (vR 0), some (vI x1)] [vI 3, vR 2, vR 21] (LT u z f) := rfl
set_option maxRecDepth 100000 in
theorem bm2_169_3 (call : QC FA) (x : Int32) (ls : List (Option PV)) (z : Nat → Int32) (f : Nat → FA) (F : Nat) : rnG call 169 (F + 1) 26 ls [vI x, vR 2, vR 21] (LT u z f) = bif ((Nat.beq 3 1 || (Nat.beq 3 2 || Nat.beq 3 3)) && pin x 9) then rnG call 169 F 27 ls [.inr (.inl (wT u (ix x))), vR 21] (LT u z f) else none := rfl
set_option maxRecDepth 100000 in
theorem bm2_169_4 (call : QC FA) (ls : List (Option PV)) (z : Nat → Int32) (f : Nat → FA) (F : Nat) : rnG call 169 (F + 1) 27 ls [vR 9, vR 21] (LT u z f) = cbd (call 110 [vR 21, vR 9] (LT u z f)) (fun r L' => rnG call 169 F 28 ls (r.toList ++ []) L') := pcY (ih := rnG call 169 F) (call := call) (a := 110) (b := 1) (v := 4) (t := 28) (x := 21) (ls := ls) (As := [vR 9]) (st' := []) (L := LT u z f) rfl rfl rfl
set_option maxRecDepth 100000 in
theorem bm2_169_5 (call : QC FA) (x : Int32) (ls : List (Option PV)) (L : QH FA) (F : Nat) : rnG call 169 (F + 1) 28 ls [vI x] L = some (some (vI x), L) := rfl
theorem vcm2_169_0 (call : QC FA) (z : Nat → Int32) (f : Nat → FA) (res : Option PV × QH FA) (H : (∃ (r1 : Int32) (z1 : Nat → Int32) (f1 : Nat → FA), call 110 [vR 21, vR 9] (LT u z f) = some (some (vI r1), LT u z1 f1) ∧ res = (some (vI r1), LT u z1 f1))) : RC call (mP 169) 0 [some (vR 0), some (vI 2)] [] (LT u z f) res := by
  refine rc_b (i' := 1) (ls' := [some (vR 0), some (vI 2)]) (st' := [vI 2]) (L' := LT u z f) 1 (bm2_169_1 call 2 _) ?_
  refine rc_b (i' := 20) (ls' := [some (vR 0), some (vI 2)]) (st' := []) (L' := LT u z f) 1 (fun F => (show rnG call 169 (F + 1) 1 [some (vR 0), some (vI 2)] [vI 2] (LT u z f) = rnG call 169 F 20 [some (vR 0), some (vI 2)] [] (LT u z f) from pta (ih := rnG call 169 F) (a := 0) (b := 3) (tg := [38, 2, 11, 20, 29]) (x := 2) (by decide) rfl)) ?_
  refine rc_b (i' := 26) (ls' := [some (vR 0), some (vI 2)]) (st' := [vI 3, vR 2, vR 21]) (L' := LT u z f) 6 (bm2_169_2 call 2 z f) ?_
  refine rc_g (i' := 27) (ls' := [some (vR 0), some (vI 2)]) (st' := [.inr (.inl (wT u (ix 3))), vR 21]) (L' := LT u z f) (bm2_169_3 call 3 _ z f) (by decide) ?_
  show RC call (mP 169) 27 [some (vR 0), some (vI 2)] [vR 9, vR 21] (LT u z f) res
  obtain ⟨r1, z1, f1, hc, H⟩ := H
  refine rc_call (t := 28) (ls' := [some (vR 0), some (vI 2)]) (st' := []) (bm2_169_4 call _ z f) hc ?_
  show RC call (mP 169) 28 [some (vR 0), some (vI 2)] [vI r1] (LT u z1 f1) res
  subst H
  exact rc_ret (bm2_169_5 call _ _ _)
set_option maxRecDepth 100000 in
theorem bm3_169_1 (call : QC FA) (x1 : Int32) (L : QH FA) (F : Nat) : rnG call 169 (F + 1) 0 [some (vR 0), some (vI x1)] [] L = rnG call 169 F 1 [some (vR 0), some (vI x1)] [vI x1] L := rfl
set_option maxRecDepth 100000 in
theorem bm3_169_2 (call : QC FA) (x1 : Int32) (z : Nat → Int32) (f : Nat → FA) (F : Nat) : rnG call 169 (F + 6) 29 [some (vR 0), some (vI x1)] [] (LT u z f) = rnG call 169 F 35 [some (vR 0), some (vI x1)] [vI 3, vR 2, vR 21] (LT u z f) := rfl
set_option maxRecDepth 100000 in
theorem bm3_169_3 (call : QC FA) (x : Int32) (ls : List (Option PV)) (z : Nat → Int32) (f : Nat → FA) (F : Nat) : rnG call 169 (F + 1) 35 ls [vI x, vR 2, vR 21] (LT u z f) = bif ((Nat.beq 3 1 || (Nat.beq 3 2 || Nat.beq 3 3)) && pin x 9) then rnG call 169 F 36 ls [.inr (.inl (wT u (ix x))), vR 21] (LT u z f) else none := rfl
set_option maxRecDepth 100000 in
theorem bm3_169_4 (call : QC FA) (ls : List (Option PV)) (z : Nat → Int32) (f : Nat → FA) (F : Nat) : rnG call 169 (F + 1) 36 ls [vR 9, vR 21] (LT u z f) = cbd (call 112 [vR 21, vR 9] (LT u z f)) (fun r L' => rnG call 169 F 37 ls (r.toList ++ []) L') := pcY (ih := rnG call 169 F) (call := call) (a := 112) (b := 1) (v := 4) (t := 37) (x := 21) (ls := ls) (As := [vR 9]) (st' := []) (L := LT u z f) rfl rfl rfl
set_option maxRecDepth 100000 in
theorem bm3_169_5 (call : QC FA) (x : Int32) (ls : List (Option PV)) (L : QH FA) (F : Nat) : rnG call 169 (F + 1) 37 ls [vI x] L = some (some (vI x), L) := rfl
theorem vcm3_169_0 (call : QC FA) (z : Nat → Int32) (f : Nat → FA) (res : Option PV × QH FA) (H : (∃ (r1 : Int32) (z1 : Nat → Int32) (f1 : Nat → FA), call 112 [vR 21, vR 9] (LT u z f) = some (some (vI r1), LT u z1 f1) ∧ res = (some (vI r1), LT u z1 f1))) : RC call (mP 169) 0 [some (vR 0), some (vI 3)] [] (LT u z f) res := by
  refine rc_b (i' := 1) (ls' := [some (vR 0), some (vI 3)]) (st' := [vI 3]) (L' := LT u z f) 1 (bm3_169_1 call 3 _) ?_
  refine rc_b (i' := 29) (ls' := [some (vR 0), some (vI 3)]) (st' := []) (L' := LT u z f) 1 (fun F => (show rnG call 169 (F + 1) 1 [some (vR 0), some (vI 3)] [vI 3] (LT u z f) = rnG call 169 F 29 [some (vR 0), some (vI 3)] [] (LT u z f) from pta (ih := rnG call 169 F) (a := 0) (b := 3) (tg := [38, 2, 11, 20, 29]) (x := 3) (by decide) rfl)) ?_
  refine rc_b (i' := 35) (ls' := [some (vR 0), some (vI 3)]) (st' := [vI 3, vR 2, vR 21]) (L' := LT u z f) 6 (bm3_169_2 call 3 z f) ?_
  refine rc_g (i' := 36) (ls' := [some (vR 0), some (vI 3)]) (st' := [.inr (.inl (wT u (ix 3))), vR 21]) (L' := LT u z f) (bm3_169_3 call 3 _ z f) (by decide) ?_
  show RC call (mP 169) 36 [some (vR 0), some (vI 3)] [vR 9, vR 21] (LT u z f) res
  obtain ⟨r1, z1, f1, hc, H⟩ := H
  refine rc_call (t := 37) (ls' := [some (vR 0), some (vI 3)]) (st' := []) (bm3_169_4 call _ z f) hc ?_
  show RC call (mP 169) 37 [some (vR 0), some (vI 3)] [vI r1] (LT u z1 f1) res
  subst H
  exact rc_ret (bm3_169_5 call _ _ _)
theorem cm20 (d : Nat) (x2 : Int32) {z : Nat → Int32} {f : Nat → FA} {n w : Nat} (hz : z 7 = nI n) (hn : n ≤ 15) (hw : w < 200) : ∀ t i, i + t = n → ∀ res, RC (mcall (d + 1)) (mP 109) 20 [some (vR 21), some (vR 7), some (vI x2), some (vI (nI w)), some (vI (nI (cnL (f 8) w n))), some (vI (nI n))] [] (LT u z f) res → RC (mcall (d + 1)) (mP 109) 20 [some (vR 21), some (vR 7), some (vI x2), some (vI (nI w)), some (vI (nI (cnL (f 8) w i))), some (vI (nI i))] [] (LT u z f) res := by
  intro t
  induction t with
  | zero =>
    intro i hi res h
    obtain rfl : i = n := by omega
    exact h
  | succ t ih =>
    intro i hi res h
    have h1 := ih (i + 1) (by omega) res h
    rw [← nI_add i 1] at h1
    refine vcc20_109_20 _ _ _ _ _ _ _ _ ⟨fun q => ?_, fun _ => ⟨_, _, _, c_it2 d hz hn (k := i) (by omega), fun q => ?_, fun q => ?_⟩⟩
    · rw [hz, I_nI (n := n) (by omega), I_nI (n := i) (by omega)] at q
      omega
    · rw [I_nI (n := w) (by omega)] at q
      rw [show cnL (f 8) w (i + 1) = cnL (f 8) w i from by
        show cnL (f 8) w i + (if I (f 8 i) ≤ (w : Int) then 1 else 0) = _
        rw [if_neg (by omega), Nat.add_zero]] at h1
      rw [Int32.add_zero]
      exact h1
    · rw [I_nI (n := w) (by omega)] at q
      rw [show cnL (f 8) w (i + 1) = cnL (f 8) w i + 1 from by
        show cnL (f 8) w i + (if I (f 8 i) ≤ (w : Int) then 1 else 0) = _
        rw [if_pos (by omega)], ← nI_add] at h1
      exact h1
theorem half_n : ∀ n, n < 16 → (nI n + 1) / 2 = nI ((n + 1) / 2) := by decide +kernel
theorem c_middleOf (d : Nat) {z : Nat → Int32} {f : Nat → FA} {n : Nat} {m : Int32} (hz : z 7 = nI n) (hn : n ≤ 15) (hM : MID (f 8) n m) : mcall (d + 2) 109 [vR 21, vR 7] (LT u z f) = some (some (vI m), LT u z f) := by
  have hh := half_n n (by omega)
  rcases hM with ⟨rfl, rfl⟩ | ⟨h0, w, hw, rfl, h1, h2⟩
  · refine mcall_i (mq109 (cu := [])).2.2 rfl (vc109_0 (mcall (d + 1)) none none none none z f _ ⟨by decide, fun q => ?_, fun _ => rfl⟩)
    rw [hz, hh] at q
    exact absurd rfl q
  · have hp : (n + 1) / 2 ≠ 0 := by omega
    have lp : ∀ t v, v + t = w → ∀ o4 o5, RC (mcall (d + 1)) (mP 109) 13 [some (vR 21), some (vR 7), some (vI (nI ((n + 1) / 2))), some (vI (nI v)), o4, o5] [] (LT u z f) (some (vI (nI w)), LT u z f) := by
      intro t
      induction t with
      | zero =>
        intro v hv o4 o5
        obtain rfl : v = w := by omega
        refine vcc13_109_13 _ _ _ _ _ _ _ _ ⟨fun q => by rw [I_nI (n := v) (by omega)] at q; omega, fun _ => cm20 d _ hz hn (by omega) n 0 (by omega) _ (vcc20_109_20 _ _ _ _ _ _ _ _ ⟨fun _ => ⟨fun q => ?_, fun _ => rfl⟩, fun q => by rw [hz] at q; omega⟩)⟩
        have := cnL_le (f 8) v n
        rw [I_nI (n := cnL (f 8) v n) (by omega), I_nI (n := (n + 1) / 2) (by omega)] at q
        omega
      | succ t ih =>
        intro v hv o4 o5
        have h3 := h2 v (by omega)
        have h4 := ih (v + 1) (by omega)
        refine vcc13_109_13 _ _ _ _ _ _ _ _ ⟨fun q => by rw [I_nI (n := v) (by omega)] at q; omega, fun _ => cm20 d _ hz hn (by omega) n 0 (by omega) _ (vcc20_109_20 _ _ _ _ _ _ _ _ ⟨fun _ => ⟨fun _ => ?_, fun q => ?_⟩, fun q => by rw [hz] at q; omega⟩)⟩
        · rw [show nI v + 1 = nI (v + 1) from nI_add v 1]
          exact h4 _ _
        · have := cnL_le (f 8) v n
          rw [I_nI (n := cnL (f 8) v n) (by omega), I_nI (n := (n + 1) / 2) (by omega)] at q
          omega
    refine mcall_i (mq109 (cu := [])).2.2 rfl (vc109_0 (mcall (d + 1)) none none none none z f _ ⟨by decide, fun _ => ?_, fun q => ?_⟩)
    · rw [hz, hh]
      exact lp w 0 (by omega) none none
    · rw [hz, hh] at q
      exact absurd (nI_inj (a := (n + 1) / 2) (b := 0) (by omega) (by omega) q) hp
theorem c_far (d : Nat) {z : Nat → Int32} {f : Nat → FA} {n : Nat} {m : Int32} (hz : z 7 = nI n) (hn : n ≤ 15) (hI : ∀ j, j < n → 0 ≤ I (f 8 j) ∧ I (f 8 j) ≤ 99) (hM : MID (f 8) n m) : mcall (d + 3) 106 [vR 21, vR 7] (LT u z f) = some (some (vI (far (f 8) m n)), LT u z f) := by
  have bm : -1 ≤ I m ∧ I m ≤ 99 := by
    rcases hM with ⟨-, rfl⟩ | ⟨-, w, hw, rfl, -, -⟩
    · decide
    · rw [I_nI (n := w) (by omega)]
      omega
  have lp : ∀ t i, i + t = n → RC (mcall (d + 2)) (mP 106) 8 [some (vR 21), some (vR 7), some (vI m), some (vI (far (f 8) m i)), some (vI (nI i))] [] (LT u z f) (some (vI (far (f 8) m n)), LT u z f) := by
    intro t
    induction t with
    | zero =>
      intro i hi
      obtain rfl : i = n := by omega
      exact vcc8_106_8 _ _ _ _ _ _ _ ⟨fun _ => rfl, fun q => by rw [hz] at q; omega⟩
    | succ t ih =>
      intro i hi
      have h1 := ih (i + 1) (by omega)
      rw [← nI_add i 1] at h1
      obtain ⟨b1, b2⟩ := hI i (by omega)
      have es : I (f 8 i - m) = I (f 8 i) - I m := I_sub_of ⟨by omega, by omega⟩ ⟨by omega, by omega⟩
      refine vcc8_106_8 _ _ _ _ _ _ _ ⟨fun q => ?_, fun _ => ⟨_, _, _, c_it2 (d + 1) hz hn (k := i) (by omega), fun q => ?_, fun q => ?_⟩⟩
      · rw [hz, I_nI (n := n) (by omega), I_nI (n := i) (by omega)] at q
        omega
      · rw [es] at q
        rw [show far (f 8) m (i + 1) = far (f 8) m i + (f 8 i - m) from by
          show far (f 8) m i + (if I (f 8 i) ≤ I m then m - f 8 i else f 8 i - m) = _
          by_cases c : I (f 8 i) ≤ I m
          · rw [if_pos c, show f 8 i = m from Int32.toInt_inj.mp (show I _ = I _ by omega)]
          · rw [if_neg c]] at h1
        exact h1
      · rw [es] at q
        rw [show far (f 8) m (i + 1) = far (f 8) m i + (0 - (f 8 i - m)) from by
          show far (f 8) m i + (if I (f 8 i) ≤ I m then m - f 8 i else f 8 i - m) = _
          rw [if_pos (by omega), Int32.zero_sub, Int32.neg_sub]] at h1
        exact h1
  exact mcall_i (mq106 (cu := [])).2.2 rfl (vc106_0 (mcall (d + 2)) none none none z f _ ⟨_, _, _, c_middleOf d hz hn hM, lp n 0 (by omega)⟩)
theorem c_times (d : Nat) (x1 : Int32) {z : Nat → Int32} {f : Nat → FA} {n : Nat} (hz : z 9 = nI n) (hn : n ≤ 15) : mcall (d + 2) 117 [vR 9, vI x1] (LT u z f) = some (some (vI (nI (cnE (f 10) x1 n))), LT u z f) := by
  have lp : ∀ t i, i + t = n → RC (mcall (d + 1)) (mP 117) 4 [some (vR 9), some (vI x1), some (vI (nI (cnE (f 10) x1 i))), some (vI (nI i))] [] (LT u z f) (some (vI (nI (cnE (f 10) x1 n))), LT u z f) := by
    intro t
    induction t with
    | zero =>
      intro i hi
      obtain rfl : i = n := by omega
      exact vcc4_117_4 _ _ _ _ _ _ _ ⟨fun _ => rfl, fun q => by rw [hz] at q; omega⟩
    | succ t ih =>
      intro i hi
      have h1 := ih (i + 1) (by omega)
      rw [← nI_add i 1] at h1
      refine vcc4_117_4 _ _ _ _ _ _ _ ⟨fun q => ?_, fun _ => ⟨_, _, _, c_it3 d hz hn (k := i) (by omega), fun q => ?_, fun q => ?_⟩⟩
      · rw [hz, I_nI (n := n) (by omega), I_nI (n := i) (by omega)] at q
        omega
      · rw [show cnE (f 10) x1 (i + 1) = cnE (f 10) x1 i from by
          show cnE (f 10) x1 i + (if f 10 i = x1 then 1 else 0) = _
          rw [if_neg q, Nat.add_zero]] at h1
        rw [Int32.add_zero]
        exact h1
      · rw [show cnE (f 10) x1 (i + 1) = cnE (f 10) x1 i + 1 from by
          show cnE (f 10) x1 i + (if f 10 i = x1 then 1 else 0) = _
          rw [if_pos q], ← nI_add] at h1
        exact h1
  exact mcall_i (mq117 (cu := [])).2.2 rfl (vc117_0 (mcall (d + 1)) x1 none none z f _ (lp n 0 (by omega)))
theorem two_nI {a : Nat} (h : a ≤ 15) : I (2 * nI a) = 2 * (a : Int) := by
  rw [show (2 : Int32) * nI a = nI (2 * a) from (Int32.ofNat_mul 2 a).symm, I_nI (n := 2 * a) (by omega)]
  omega
theorem c_half (d : Nat) {z : Nat → Int32} {f : Nat → FA} {n : Nat} {m : Int32} (hz : z 9 = nI n) (hn : n ≤ 15) (hM : HLF (f 10) n m) : mcall (d + 3) 110 [vR 21, vR 9] (LT u z f) = some (some (vI m), LT u z f) := by
  have lp : ∀ t v, v + t = 10 → (∀ w, w < v → 2 * cnE (f 10) (nI w) n ≤ n) → RC (mcall (d + 2)) (mP 110) 2 [some (vR 21), some (vR 9), some (vI (nI v))] [] (LT u z f) (some (vI m), LT u z f) := by
    intro t
    induction t with
    | zero =>
      intro v hv h
      obtain rfl : v = 10 := by omega
      refine vcc2_110_2 _ _ _ _ _ ⟨fun _ => ?_, fun q => by rw [I_nI (n := 10) (by omega)] at q; omega⟩
      rcases hM with ⟨rfl, -⟩ | ⟨w, hw, rfl, h1⟩
      · rfl
      · have := h w hw
        omega
    | succ t ih =>
      intro v hv h
      have cl := cnE_le (f 10) (nI v) n
      refine vcc2_110_2 _ _ _ _ _ ⟨fun q => by rw [I_nI (n := v) (by omega)] at q; omega, fun _ => ⟨_, _, _, c_times d (nI v) hz hn, fun q => ?_, fun q => ?_⟩⟩
      · rw [two_nI (by omega), hz, I_nI (n := n) (by omega)] at q
        have h1 := ih (v + 1) (by omega) (fun w hw => by
          by_cases c : w = v
          · subst c
            omega
          · exact h w (by omega))
        rw [← nI_add v 1] at h1
        exact h1
      · rw [two_nI (by omega), hz, I_nI (n := n) (by omega)] at q
        rcases hM with ⟨-, h1⟩ | ⟨w, hw, rfl, h1⟩
        · have := h1 v (by omega)
          omega
        · rw [HLF_one hw (show v < 10 by omega) h1 (by omega)]
  exact mcall_i (mq110 (cu := [])).2.2 rfl (vc110_0 (mcall (d + 2)) none z f _ (lp 10 0 rfl (fun w hw => absurd hw (Nat.not_lt_zero w))))
theorem c_most (d : Nat) {z : Nat → Int32} {f : Nat → FA} {n : Nat} (hz : z 9 = nI n) (hn : n ≤ 15) : mcall (d + 3) 112 [vR 21, vR 9] (LT u z f) = some (some (vI (nI (mxE (f 10) n 10))), LT u z f) := by
  have lp : ∀ t v, v + t = 10 → RC (mcall (d + 2)) (mP 112) 4 [some (vR 21), some (vR 9), some (vI (nI (mxE (f 10) n v))), some (vI (nI v))] [] (LT u z f) (some (vI (nI (mxE (f 10) n 10))), LT u z f) := by
    intro t
    induction t with
    | zero =>
      intro v hv
      obtain rfl : v = 10 := by omega
      exact vcc4_112_4 _ _ _ _ _ _ ⟨fun _ => rfl, fun q => by rw [I_nI (n := 10) (by omega)] at q; omega⟩
    | succ t ih =>
      intro v hv
      have h1 := ih (v + 1) (by omega)
      rw [← nI_add v 1] at h1
      have m1 := mxE_le (f 10) n v
      have c1 := cnE_le (f 10) (nI v) n
      refine vcc4_112_4 _ _ _ _ _ _ ⟨fun q => by rw [I_nI (n := v) (by omega)] at q; omega, fun _ => ⟨_, _, _, c_times d (nI v) hz hn, fun q => ?_, fun q => ?_⟩⟩
      · rw [I_nI (n := mxE (f 10) n v) (by omega), I_nI (n := cnE (f 10) (nI v) n) (by omega)] at q
        rw [show mxE (f 10) n (v + 1) = cnE (f 10) (nI v) n from by
          show max (mxE (f 10) n v) (cnE (f 10) (nI v) n) = _
          omega] at h1
        exact h1
      · rw [I_nI (n := mxE (f 10) n v) (by omega), I_nI (n := cnE (f 10) (nI v) n) (by omega)] at q
        rw [show mxE (f 10) n (v + 1) = mxE (f 10) n v from by
          show max (mxE (f 10) n v) (cnE (f 10) (nI v) n) = _
          omega] at h1
        exact h1
  exact mcall_i (mq112 (cu := [])).2.2 rfl (vc112_0 (mcall (d + 2)) none none z f _ (lp 10 0 rfl))
def mdA (x m1 fr m2 mx : Int32) : Int32 := if x = 0 then m1 else if x = 1 then fr else if x = 2 then m2 else if x = 3 then mx else -1
set_option maxRecDepth 100000 in
theorem c_middle (d : Nat) (x : Int32) {z : Nat → Int32} {f : Nat → FA} {n k : Nat} {m1 m2 : Int32} (hz : z 7 = nI n) (hn : n ≤ 15) (hI : ∀ j, j < n → 0 ≤ I (f 8 j) ∧ I (f 8 j) ≤ 99) (hz2 : z 9 = nI k) (hk : k ≤ 15) (h1 : MID (f 8) n m1) (h2 : HLF (f 10) k m2) : mcall (d + 4) 169 [vR 0, vI x] (LT u z f) = some (some (vI (mdA x m1 (far (f 8) m1 n) m2 (nI (mxE (f 10) k 10)))), LT u z f) := by
  unfold mdA
  by_cases c0 : x = 0
  · subst c0
    exact mcall_i (mq169 (cu := [])).2.2 rfl (vcm0_169_0 (mcall (d + 3)) z f _ ⟨_, _, _, c_middleOf (d + 1) hz hn h1, rfl⟩)
  rw [if_neg c0]
  by_cases c1 : x = 1
  · subst c1
    exact mcall_i (mq169 (cu := [])).2.2 rfl (vcm1_169_0 (mcall (d + 3)) z f _ ⟨_, _, _, c_far d hz hn hI h1, rfl⟩)
  rw [if_neg c1]
  by_cases c2 : x = 2
  · subst c2
    exact mcall_i (mq169 (cu := [])).2.2 rfl (vcm2_169_0 (mcall (d + 3)) z f _ ⟨_, _, _, c_half d hz2 hk h2, rfl⟩)
  rw [if_neg c2]
  by_cases c3 : x = 3
  · subst c3
    exact mcall_i (mq169 (cu := [])).2.2 rfl (vcm3_169_0 (mcall (d + 3)) z f _ ⟨_, _, _, c_most d hz2 hk, rfl⟩)
  rw [if_neg c3]
  have hx : (decide (x.toInt < ((0 : Nat) : Int)) || decide (((3 : Nat) : Int) < x.toInt)) = true := by
    rw [Bool.or_eq_true, decide_eq_true_eq, decide_eq_true_eq]
    have e : ∀ v : Nat, v < 4 → ¬ x = nI v → ¬ x.toInt = v := fun v hv h q => h (Int32.toInt_inj.mp (by rw [q]; exact (I_nI (n := v) (by omega)).symm))
    have := e 0 (by omega) c0
    have := e 1 (by omega) c1
    have := e 2 (by omega) c2
    have := e 3 (by omega) c3
    omega
  refine mcall_i (mq169 (cu := [])).2.2 rfl ?_
  refine rc_b (i' := 1) (ls' := [some (vR 0), some (vI x)]) (st' := [vI x]) (L' := LT u z f) 1 (fun F => rfl) ?_
  refine rc_b (i' := 38) (ls' := [some (vR 0), some (vI x)]) (st' := []) (L' := LT u z f) 1 (fun F => (show rnG (mcall (d + 3)) 169 (F + 1) 1 [some (vR 0), some (vI x)] [vI x] (LT u z f) = rnG (mcall (d + 3)) 169 F 38 [some (vR 0), some (vI x)] [] (LT u z f) from ptd (ih := rnG (mcall (d + 3)) 169 F) (tg := [38, 2, 11, 20, 29]) (x := x) hx rfl)) ?_
  refine rc_b (i' := 39) (ls' := [some (vR 0), some (vI x)]) (st' := [vI (-1)]) (L' := LT u z f) 1 (fun F => rfl) ?_
  exact rc_ret (fun F => rfl)
end TLs
