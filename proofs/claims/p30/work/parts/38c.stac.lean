/-! stack: which sets of doors can be stacked -/
def Wn (w : Nat → Nat) (s : Nat) : Nat → Nat
  | 0 => 0
  | n + 1 => Wn w s n + (if bt s n = true then w n else 0)
theorem Wn_off {w : Nat → Nat} {s i : Nat} (hs : s < 256) (hi : i < 8) : ∀ m, m ≤ i → Wn w (rb s i) m = Wn w s m := by
  intro m
  induction m with
  | zero => intro _; rfl
  | succ m ih =>
    intro h
    show Wn w (rb s i) m + (if bt (rb s i) m = true then w m else 0) = Wn w s m + (if bt s m = true then w m else 0)
    rw [ih (by omega), bt_o s hs i hi m (by omega) (by omega)]
theorem Wn_rb {w : Nat → Nat} {s i : Nat} (hs : s < 256) (hi : i < 8) (hb : bt s i = true) : ∀ n, n ≤ 8 → i < n → Wn w s n = Wn w (rb s i) n + w i := by
  intro n
  induction n with
  | zero => intro _ h; omega
  | succ n ih =>
    intro h8 h
    show Wn w s n + (if bt s n = true then w n else 0) = Wn w (rb s i) n + (if bt (rb s i) n = true then w n else 0) + w i
    by_cases q : i = n
    · subst q
      rw [Wn_off hs hi i (Nat.le_refl _), hb, (rb_lt s hs i hi hb).2.2, if_pos rfl, if_neg (by decide)]
      rfl
    · rw [ih (by omega) (by omega), bt_o s hs i hi n (by omega) (fun z => q z.symm)]
      omega
theorem Wn_le {w : Nat → Nat} {s : Nat} : ∀ n, (∀ i, i < n → w i ≤ 50) → Wn w s n ≤ 50 * n := by
  intro n
  induction n with
  | zero => intro _; exact Nat.le_refl _
  | succ n ih =>
    intro h
    show Wn w s n + (if bt s n = true then w n else 0) ≤ 50 * (n + 1)
    have h1 := ih (fun i hi => h i (by omega))
    have h2 := h n (by omega)
    by_cases c : bt s n = true
    · rw [if_pos c]
      omega
    · rw [if_neg c]
      omega
def stF (w b : Nat → Nat) (n : Nat) : Nat → Nat → Bool
  | 0, s => decide (s = 0)
  | f + 1, s => decide (s = 0) || exB (fun i => bt s i && (stF w b n f (rb s i) && decide (Wn w (rb s i) n ≤ b i))) n
theorem stF_e {w b : Nat → Nat} {n : Nat} (f s : Nat) : stF w b n (f + 1) s = (decide (s = 0) || exB (fun i => bt s i && (stF w b n f (rb s i) && decide (Wn w (rb s i) n ≤ b i))) n) := rfl
def stk (w b : Nat → Nat) (n s : Nat) : Bool := stF w b n 8 s
/-- whether door i can lie lowest -/
def lwB (w b : Nat → Nat) (n s i : Nat) : Bool := bt s i && (stk w b n (rb s i) && decide (Wn w (rb s i) n ≤ b i))
theorem pcN_z : ∀ s, s < 256 → pcN s = 0 → s = 0 := by decide +kernel
theorem stF_s {w b : Nat → Nat} {n : Nat} (hn : n ≤ 8) : ∀ f s, s < 256 → pcN s ≤ f → stF w b n (f + 1) s = stF w b n f s := by
  intro f
  induction f with
  | zero =>
    intro s hs hp
    obtain rfl := pcN_z s hs (by omega)
    rfl
  | succ f ih =>
    intro s hs hp
    show (decide (s = 0) || exB (fun i => bt s i && (stF w b n (f + 1) (rb s i) && decide (Wn w (rb s i) n ≤ b i))) n) = (decide (s = 0) || exB (fun i => bt s i && (stF w b n f (rb s i) && decide (Wn w (rb s i) n ≤ b i))) n)
    rw [exB_cong (q := fun i => bt s i && (stF w b n f (rb s i) && decide (Wn w (rb s i) n ≤ b i))) n (fun i hi => ?_)]
    cases c : bt s i with
    | false => rfl
    | true =>
      obtain ⟨k1, k2, -⟩ := rb_lt s hs i (by omega) c
      show (true && (stF w b n (f + 1) (rb s i) && _)) = (true && (stF w b n f (rb s i) && _))
      rw [ih (rb s i) (by omega) (by omega)]
theorem stk_eq {w b : Nat → Nat} {n : Nat} (hn : n ≤ 8) (s : Nat) (hs : s < 256) : stk w b n s = (decide (s = 0) || exB (lwB w b n s) n) := by
  have e0 : stk w b n s = (decide (s = 0) || exB (fun i => bt s i && (stF w b n 7 (rb s i) && decide (Wn w (rb s i) n ≤ b i))) n) := stF_e 7 s
  rw [e0, exB_cong (q := lwB w b n s) n (fun i hi => ?_)]
  show (bt s i && (stF w b n 7 (rb s i) && decide (Wn w (rb s i) n ≤ b i))) = (bt s i && (stk w b n (rb s i) && decide (Wn w (rb s i) n ≤ b i)))
  cases c : bt s i with
  | false => rw [Bool.false_and, Bool.false_and]
  | true =>
    obtain ⟨k1, k2, -⟩ := rb_lt s hs i (by omega) c
    have h8 := pcN_le s
    rw [show stk w b n (rb s i) = stF w b n 7 (rb s i) from stF_s hn 7 (rb s i) (by omega) (by omega)]
section TLs
variable {u : Nat → Option Nat}
set_option maxRecDepth 100000 in
theorem b79_1 (call : QC FA) (x0 : Int32) (L : QH FA) (F : Nat) : rnG call 79 (F + 14) 0 [some (vI x0)] [] L = rnG call 79 F 14 [some (vI (x0 - ((pbin 8 x0 1) &&& 1431655765)))] [vI (pbin 8 (x0 - ((pbin 8 x0 1) &&& 1431655765)) 2), vI ((x0 - ((pbin 8 x0 1) &&& 1431655765)) &&& 858993459)] L := rfl
set_option maxRecDepth 100000 in
theorem b79_2 (call : QC FA) (x0 : Int32) (s0 : Int32) (s1 : Int32) (L : QH FA) (F : Nat) : rnG call 79 (F + 14) 14 [some (vI x0)] [vI s0, vI s1] L = rnG call 79 F 28 [some (vI (((s1 + (s0 &&& 858993459)) + (pbin 8 (s1 + (s0 &&& 858993459)) 4)) &&& 252645135))] [vI (((s1 + (s0 &&& 858993459)) + (pbin 8 (s1 + (s0 &&& 858993459)) 4)) &&& 252645135), vI (((s1 + (s0 &&& 858993459)) + (pbin 8 (s1 + (s0 &&& 858993459)) 4)) &&& 252645135)] L := rfl
set_option maxRecDepth 100000 in
theorem b79_3 (call : QC FA) (x0 : Int32) (s0 : Int32) (s1 : Int32) (L : QH FA) (F : Nat) : rnG call 79 (F + 13) 28 [some (vI x0)] [vI s0, vI s1] L = rnG call 79 F 41 [some (vI ((s1 + (pbin 8 s0 8)) + (pbin 8 (s1 + (pbin 8 s0 8)) 16)))] [vI (((s1 + (pbin 8 s0 8)) + (pbin 8 (s1 + (pbin 8 s0 8)) 16)) &&& 63)] L := rfl
set_option maxRecDepth 100000 in
theorem b79_4 (call : QC FA) (x : Int32) (ls : List (Option PV)) (L : QH FA) (F : Nat) : rnG call 79 (F + 1) 41 ls [vI x] L = some (some (vI x), L) := rfl
theorem vc79_0 (call : QC FA) (x0 : Int32) (z : Nat → Int32) (f : Nat → FA) (res : Option PV × QH FA) (H : res = (some (vI ((((((((x0 - ((pbin 8 x0 1) &&& 1431655765)) &&& 858993459) + ((pbin 8 (x0 - ((pbin 8 x0 1) &&& 1431655765)) 2) &&& 858993459)) + (pbin 8 (((x0 - ((pbin 8 x0 1) &&& 1431655765)) &&& 858993459) + ((pbin 8 (x0 - ((pbin 8 x0 1) &&& 1431655765)) 2) &&& 858993459)) 4)) &&& 252645135) + (pbin 8 (((((x0 - ((pbin 8 x0 1) &&& 1431655765)) &&& 858993459) + ((pbin 8 (x0 - ((pbin 8 x0 1) &&& 1431655765)) 2) &&& 858993459)) + (pbin 8 (((x0 - ((pbin 8 x0 1) &&& 1431655765)) &&& 858993459) + ((pbin 8 (x0 - ((pbin 8 x0 1) &&& 1431655765)) 2) &&& 858993459)) 4)) &&& 252645135) 8)) + (pbin 8 ((((((x0 - ((pbin 8 x0 1) &&& 1431655765)) &&& 858993459) + ((pbin 8 (x0 - ((pbin 8 x0 1) &&& 1431655765)) 2) &&& 858993459)) + (pbin 8 (((x0 - ((pbin 8 x0 1) &&& 1431655765)) &&& 858993459) + ((pbin 8 (x0 - ((pbin 8 x0 1) &&& 1431655765)) 2) &&& 858993459)) 4)) &&& 252645135) + (pbin 8 (((((x0 - ((pbin 8 x0 1) &&& 1431655765)) &&& 858993459) + ((pbin 8 (x0 - ((pbin 8 x0 1) &&& 1431655765)) 2) &&& 858993459)) + (pbin 8 (((x0 - ((pbin 8 x0 1) &&& 1431655765)) &&& 858993459) + ((pbin 8 (x0 - ((pbin 8 x0 1) &&& 1431655765)) 2) &&& 858993459)) 4)) &&& 252645135) 8)) 16)) &&& 63)), LT u z f)) : RC call (mP 79) 0 [some (vI x0)] [] (LT u z f) res := by
  refine rc_b (i' := 14) (ls' := [some (vI (x0 - ((pbin 8 x0 1) &&& 1431655765)))]) (st' := [vI (pbin 8 (x0 - ((pbin 8 x0 1) &&& 1431655765)) 2), vI ((x0 - ((pbin 8 x0 1) &&& 1431655765)) &&& 858993459)]) (L' := LT u z f) 14 (b79_1 call x0 _) ?_
  refine rc_b (i' := 28) (ls' := [some (vI (((((x0 - ((pbin 8 x0 1) &&& 1431655765)) &&& 858993459) + ((pbin 8 (x0 - ((pbin 8 x0 1) &&& 1431655765)) 2) &&& 858993459)) + (pbin 8 (((x0 - ((pbin 8 x0 1) &&& 1431655765)) &&& 858993459) + ((pbin 8 (x0 - ((pbin 8 x0 1) &&& 1431655765)) 2) &&& 858993459)) 4)) &&& 252645135))]) (st' := [vI (((((x0 - ((pbin 8 x0 1) &&& 1431655765)) &&& 858993459) + ((pbin 8 (x0 - ((pbin 8 x0 1) &&& 1431655765)) 2) &&& 858993459)) + (pbin 8 (((x0 - ((pbin 8 x0 1) &&& 1431655765)) &&& 858993459) + ((pbin 8 (x0 - ((pbin 8 x0 1) &&& 1431655765)) 2) &&& 858993459)) 4)) &&& 252645135), vI (((((x0 - ((pbin 8 x0 1) &&& 1431655765)) &&& 858993459) + ((pbin 8 (x0 - ((pbin 8 x0 1) &&& 1431655765)) 2) &&& 858993459)) + (pbin 8 (((x0 - ((pbin 8 x0 1) &&& 1431655765)) &&& 858993459) + ((pbin 8 (x0 - ((pbin 8 x0 1) &&& 1431655765)) 2) &&& 858993459)) 4)) &&& 252645135)]) (L' := LT u z f) 14 (b79_2 call (x0 - ((pbin 8 x0 1) &&& 1431655765)) (pbin 8 (x0 - ((pbin 8 x0 1) &&& 1431655765)) 2) ((x0 - ((pbin 8 x0 1) &&& 1431655765)) &&& 858993459) _) ?_
  refine rc_b (i' := 41) (ls' := [some (vI (((((((x0 - ((pbin 8 x0 1) &&& 1431655765)) &&& 858993459) + ((pbin 8 (x0 - ((pbin 8 x0 1) &&& 1431655765)) 2) &&& 858993459)) + (pbin 8 (((x0 - ((pbin 8 x0 1) &&& 1431655765)) &&& 858993459) + ((pbin 8 (x0 - ((pbin 8 x0 1) &&& 1431655765)) 2) &&& 858993459)) 4)) &&& 252645135) + (pbin 8 (((((x0 - ((pbin 8 x0 1) &&& 1431655765)) &&& 858993459) + ((pbin 8 (x0 - ((pbin 8 x0 1) &&& 1431655765)) 2) &&& 858993459)) + (pbin 8 (((x0 - ((pbin 8 x0 1) &&& 1431655765)) &&& 858993459) + ((pbin 8 (x0 - ((pbin 8 x0 1) &&& 1431655765)) 2) &&& 858993459)) 4)) &&& 252645135) 8)) + (pbin 8 ((((((x0 - ((pbin 8 x0 1) &&& 1431655765)) &&& 858993459) + ((pbin 8 (x0 - ((pbin 8 x0 1) &&& 1431655765)) 2) &&& 858993459)) + (pbin 8 (((x0 - ((pbin 8 x0 1) &&& 1431655765)) &&& 858993459) + ((pbin 8 (x0 - ((pbin 8 x0 1) &&& 1431655765)) 2) &&& 858993459)) 4)) &&& 252645135) + (pbin 8 (((((x0 - ((pbin 8 x0 1) &&& 1431655765)) &&& 858993459) + ((pbin 8 (x0 - ((pbin 8 x0 1) &&& 1431655765)) 2) &&& 858993459)) + (pbin 8 (((x0 - ((pbin 8 x0 1) &&& 1431655765)) &&& 858993459) + ((pbin 8 (x0 - ((pbin 8 x0 1) &&& 1431655765)) 2) &&& 858993459)) 4)) &&& 252645135) 8)) 16)))]) (st' := [vI ((((((((x0 - ((pbin 8 x0 1) &&& 1431655765)) &&& 858993459) + ((pbin 8 (x0 - ((pbin 8 x0 1) &&& 1431655765)) 2) &&& 858993459)) + (pbin 8 (((x0 - ((pbin 8 x0 1) &&& 1431655765)) &&& 858993459) + ((pbin 8 (x0 - ((pbin 8 x0 1) &&& 1431655765)) 2) &&& 858993459)) 4)) &&& 252645135) + (pbin 8 (((((x0 - ((pbin 8 x0 1) &&& 1431655765)) &&& 858993459) + ((pbin 8 (x0 - ((pbin 8 x0 1) &&& 1431655765)) 2) &&& 858993459)) + (pbin 8 (((x0 - ((pbin 8 x0 1) &&& 1431655765)) &&& 858993459) + ((pbin 8 (x0 - ((pbin 8 x0 1) &&& 1431655765)) 2) &&& 858993459)) 4)) &&& 252645135) 8)) + (pbin 8 ((((((x0 - ((pbin 8 x0 1) &&& 1431655765)) &&& 858993459) + ((pbin 8 (x0 - ((pbin 8 x0 1) &&& 1431655765)) 2) &&& 858993459)) + (pbin 8 (((x0 - ((pbin 8 x0 1) &&& 1431655765)) &&& 858993459) + ((pbin 8 (x0 - ((pbin 8 x0 1) &&& 1431655765)) 2) &&& 858993459)) 4)) &&& 252645135) + (pbin 8 (((((x0 - ((pbin 8 x0 1) &&& 1431655765)) &&& 858993459) + ((pbin 8 (x0 - ((pbin 8 x0 1) &&& 1431655765)) 2) &&& 858993459)) + (pbin 8 (((x0 - ((pbin 8 x0 1) &&& 1431655765)) &&& 858993459) + ((pbin 8 (x0 - ((pbin 8 x0 1) &&& 1431655765)) 2) &&& 858993459)) 4)) &&& 252645135) 8)) 16)) &&& 63)]) (L' := LT u z f) 13 (b79_3 call (((((x0 - ((pbin 8 x0 1) &&& 1431655765)) &&& 858993459) + ((pbin 8 (x0 - ((pbin 8 x0 1) &&& 1431655765)) 2) &&& 858993459)) + (pbin 8 (((x0 - ((pbin 8 x0 1) &&& 1431655765)) &&& 858993459) + ((pbin 8 (x0 - ((pbin 8 x0 1) &&& 1431655765)) 2) &&& 858993459)) 4)) &&& 252645135) (((((x0 - ((pbin 8 x0 1) &&& 1431655765)) &&& 858993459) + ((pbin 8 (x0 - ((pbin 8 x0 1) &&& 1431655765)) 2) &&& 858993459)) + (pbin 8 (((x0 - ((pbin 8 x0 1) &&& 1431655765)) &&& 858993459) + ((pbin 8 (x0 - ((pbin 8 x0 1) &&& 1431655765)) 2) &&& 858993459)) 4)) &&& 252645135) (((((x0 - ((pbin 8 x0 1) &&& 1431655765)) &&& 858993459) + ((pbin 8 (x0 - ((pbin 8 x0 1) &&& 1431655765)) 2) &&& 858993459)) + (pbin 8 (((x0 - ((pbin 8 x0 1) &&& 1431655765)) &&& 858993459) + ((pbin 8 (x0 - ((pbin 8 x0 1) &&& 1431655765)) 2) &&& 858993459)) 4)) &&& 252645135) _) ?_
  subst H
  exact rc_ret (b79_4 call _ _ _)
set_option maxRecDepth 100000 in
theorem b111_1 (call : QC FA) (o2 : Option PV) (o3 : Option PV) (o4 : Option PV) (o5 : Option PV) (o6 : Option PV) (o7 : Option PV) (o8 : Option PV) (z : Nat → Int32) (f : Nat → FA) (F : Nat) : rnG call 111 (F + 4) 0 [some (vR 21), some (vR 13), o2, o3, o4, o5, o6, o7, o8] [] (LT u z f) = rnG call 111 F 4 [some (vR 21), some (vR 13), o2, o3, o4, o5, o6, o7, o8] [vI 8, vI (z 13), vI 1] (LT u z f) := rfl
set_option maxRecDepth 100000 in
theorem b111_2 (call : QC FA) (x y : Int32) (s0 : Int32) (ls : List (Option PV)) (L : QH FA) (F : Nat) : rnG call 111 (F + 1) 4 ls [vI y, vI x, vI s0] L = bif pcmp 2 y x then rnG call 111 F 5 ls [vI y, vI s0] L else rnG call 111 F 5 ls [vI x, vI s0] L := pmn (rnG call 111 F) 5 x y ls [vI s0] L rfl
set_option maxRecDepth 100000 in
theorem b111_3 (call : QC FA) (o2 : Option PV) (o3 : Option PV) (o4 : Option PV) (o5 : Option PV) (o6 : Option PV) (o7 : Option PV) (o8 : Option PV) (s0 : Int32) (s1 : Int32) (z : Nat → Int32) (f : Nat → FA) (F : Nat) : rnG call 111 (F + 8) 5 [some (vR 21), some (vR 13), o2, o3, o4, o5, o6, o7, o8] [vI s0, vI s1] (LT u z f) = rnG call 111 F 13 [some (vR 21), some (vR 13), some (vI (s1 <<< (s0 &&& 31))), some (vI 0), o4, o5, o6, o7, o8] [vI 0, vI 0, vR 22] (LT u z f) := rfl
set_option maxRecDepth 100000 in
theorem b111_4 (call : QC FA) (x y : Int32) (ls : List (Option PV)) (z : Nat → Int32) (f : Nat → FA) (F : Nat) : rnG call 111 (F + 1) 13 ls [vI y, vI x, vR 22] (LT u z f) = bif (Nat.beq 0 0 && pin x 401) then rnG call 111 F 14 ls [] (LT u z (uA f 22 (upd (f 22) (ix x) y))) else none := rfl
set_option maxRecDepth 100000 in
theorem b111_5 (call : QC FA) (x2 : Int32) (x3 : Int32) (o4 : Option PV) (o5 : Option PV) (o6 : Option PV) (o7 : Option PV) (o8 : Option PV) (L : QH FA) (F : Nat) : rnG call 111 (F + 2) 14 [some (vR 21), some (vR 13), some (vI x2), some (vI x3), o4, o5, o6, o7, o8] [] L = rnG call 111 F 16 [some (vR 21), some (vR 13), some (vI x2), some (vI x3), some (vI 1), o5, o6, o7, o8] [] L := rfl
theorem vc111_0 (call : QC FA) (o2 : Option PV) (o3 : Option PV) (o4 : Option PV) (o5 : Option PV) (o6 : Option PV) (o7 : Option PV) (o8 : Option PV) (z : Nat → Int32) (f : Nat → FA) (res : Option PV × QH FA) (H : ((8 < I (z 13) → (pin 0 401 = true ∧ RC call (mP 111) 16 [some (vR 21), some (vR 13), some (vI (1 <<< ((8 : Int32) &&& 31))), some (vI 0), some (vI 1), o5, o6, o7, o8] [] (LT u z (uA f 22 (upd (f 22) (ix 0) 0))) res)) ∧ (I (z 13) ≤ 8 → (pin 0 401 = true ∧ RC call (mP 111) 16 [some (vR 21), some (vR 13), some (vI (1 <<< ((z 13) &&& 31))), some (vI 0), some (vI 1), o5, o6, o7, o8] [] (LT u z (uA f 22 (upd (f 22) (ix 0) 0))) res)))) : RC call (mP 111) 0 [some (vR 21), some (vR 13), o2, o3, o4, o5, o6, o7, o8] [] (LT u z f) res := by
  refine rc_b (i' := 4) (ls' := [some (vR 21), some (vR 13), o2, o3, o4, o5, o6, o7, o8]) (st' := [vI 8, vI (z 13), vI 1]) (L' := LT u z f) 4 (b111_1 call o2 o3 o4 o5 o6 o7 o8 z f) ?_
  refine rc_if2 (it := 5) (ie := 5) (ls' := [some (vR 21), some (vR 13), o2, o3, o4, o5, o6, o7, o8]) (st1 := [vI 8, vI 1]) (st2 := [vI (z 13), vI 1]) (b111_2 call (z 13) 8 1 _ _) (fun q1 => ?_) (fun q1 => ?_)
  · have H := H.1 (cI2t q1 rfl rfl)
    refine rc_b (i' := 13) (ls' := [some (vR 21), some (vR 13), some (vI (1 <<< ((8 : Int32) &&& 31))), some (vI 0), o4, o5, o6, o7, o8]) (st' := [vI 0, vI 0, vR 22]) (L' := LT u z f) 8 (b111_3 call o2 o3 o4 o5 o6 o7 o8 8 1 z f) ?_
    obtain ⟨g1, H⟩ := H
    refine rc_g (i' := 14) (ls' := [some (vR 21), some (vR 13), some (vI (1 <<< ((8 : Int32) &&& 31))), some (vI 0), o4, o5, o6, o7, o8]) (st' := []) (L' := LT u z (uA f 22 (upd (f 22) (ix 0) 0))) (b111_4 call 0 0 _ z f) (pinG g1) ?_
    refine rc_b (i' := 16) (ls' := [some (vR 21), some (vR 13), some (vI (1 <<< ((8 : Int32) &&& 31))), some (vI 0), some (vI 1), o5, o6, o7, o8]) (st' := []) (L' := LT u z (uA f 22 (upd (f 22) (ix 0) 0))) 2 (b111_5 call (1 <<< ((8 : Int32) &&& 31)) 0 o4 o5 o6 o7 o8 _) ?_
    exact H
  · have H := H.2 (cI2f q1 rfl rfl)
    refine rc_b (i' := 13) (ls' := [some (vR 21), some (vR 13), some (vI (1 <<< ((z 13) &&& 31))), some (vI 0), o4, o5, o6, o7, o8]) (st' := [vI 0, vI 0, vR 22]) (L' := LT u z f) 8 (b111_3 call o2 o3 o4 o5 o6 o7 o8 (z 13) 1 z f) ?_
    obtain ⟨g1, H⟩ := H
    refine rc_g (i' := 14) (ls' := [some (vR 21), some (vR 13), some (vI (1 <<< ((z 13) &&& 31))), some (vI 0), o4, o5, o6, o7, o8]) (st' := []) (L' := LT u z (uA f 22 (upd (f 22) (ix 0) 0))) (b111_4 call 0 0 _ z f) (pinG g1) ?_
    refine rc_b (i' := 16) (ls' := [some (vR 21), some (vR 13), some (vI (1 <<< ((z 13) &&& 31))), some (vI 0), some (vI 1), o5, o6, o7, o8]) (st' := []) (L' := LT u z (uA f 22 (upd (f 22) (ix 0) 0))) 2 (b111_5 call (1 <<< ((z 13) &&& 31)) 0 o4 o5 o6 o7 o8 _) ?_
    exact H
set_option maxRecDepth 100000 in
theorem bc16_111_1 (call : QC FA) (x2 : Int32) (x3 : Int32) (x4 : Int32) (o5 : Option PV) (o6 : Option PV) (o7 : Option PV) (o8 : Option PV) (L : QH FA) (F : Nat) : rnG call 111 (F + 2) 16 [some (vR 21), some (vR 13), some (vI x2), some (vI x3), some (vI x4), o5, o6, o7, o8] [] L = rnG call 111 F 18 [some (vR 21), some (vR 13), some (vI x2), some (vI x3), some (vI x4), o5, o6, o7, o8] [vI x2, vI x4] L := rfl
set_option maxRecDepth 100000 in
theorem bc16_111_2 (call : QC FA) (x y : Int32) (ls : List (Option PV)) (L : QH FA) (F : Nat) : rnG call 111 (F + 1) 18 ls [vI y, vI x] L = bif pcmp 3 x y then rnG call 111 F 90 ls [] L else rnG call 111 F 19 ls [] L := rfl
set_option maxRecDepth 100000 in
theorem bc16_111_3 (call : QC FA) (x2 : Int32) (x3 : Int32) (x4 : Int32) (o5 : Option PV) (o6 : Option PV) (o7 : Option PV) (o8 : Option PV) (L : QH FA) (F : Nat) : rnG call 111 (F + 1) 90 [some (vR 21), some (vR 13), some (vI x2), some (vI x3), some (vI x4), o5, o6, o7, o8] [] L = rnG call 111 F 91 [some (vR 21), some (vR 13), some (vI x2), some (vI x3), some (vI x4), o5, o6, o7, o8] [vI x3] L := rfl
set_option maxRecDepth 100000 in
theorem bc16_111_4 (call : QC FA) (x : Int32) (ls : List (Option PV)) (L : QH FA) (F : Nat) : rnG call 111 (F + 1) 91 ls [vI x] L = some (some (vI x), L) := rfl
set_option maxRecDepth 100000 in
theorem bc16_111_5 (call : QC FA) (x2 : Int32) (x3 : Int32) (x4 : Int32) (o5 : Option PV) (o6 : Option PV) (o7 : Option PV) (o8 : Option PV) (z : Nat → Int32) (f : Nat → FA) (F : Nat) : rnG call 111 (F + 4) 19 [some (vR 21), some (vR 13), some (vI x2), some (vI x3), some (vI x4), o5, o6, o7, o8] [] (LT u z f) = rnG call 111 F 23 [some (vR 21), some (vR 13), some (vI x2), some (vI x3), some (vI x4), o5, o6, o7, o8] [vI ((-1)), vI x4, vR 22] (LT u z f) := rfl
set_option maxRecDepth 100000 in
theorem bc16_111_6 (call : QC FA) (x y : Int32) (ls : List (Option PV)) (z : Nat → Int32) (f : Nat → FA) (F : Nat) : rnG call 111 (F + 1) 23 ls [vI y, vI x, vR 22] (LT u z f) = bif (Nat.beq 0 0 && pin x 401) then rnG call 111 F 24 ls [] (LT u z (uA f 22 (upd (f 22) (ix x) y))) else none := rfl
set_option maxRecDepth 100000 in
theorem bc16_111_7 (call : QC FA) (x2 : Int32) (x3 : Int32) (x4 : Int32) (o5 : Option PV) (o6 : Option PV) (o7 : Option PV) (o8 : Option PV) (L : QH FA) (F : Nat) : rnG call 111 (F + 2) 24 [some (vR 21), some (vR 13), some (vI x2), some (vI x3), some (vI x4), o5, o6, o7, o8] [] L = rnG call 111 F 26 [some (vR 21), some (vR 13), some (vI x2), some (vI x3), some (vI x4), some (vI 0), o6, o7, o8] [] L := rfl
theorem vcc16_111_16 (call : QC FA) (x2 : Int32) (x3 : Int32) (x4 : Int32) (o5 : Option PV) (o6 : Option PV) (o7 : Option PV) (o8 : Option PV) (z : Nat → Int32) (f : Nat → FA) (res : Option PV × QH FA) (H : ((I x2 ≤ I x4 → res = (some (vI x3), LT u z f)) ∧ (I x4 < I x2 → (pin x4 401 = true ∧ RC call (mP 111) 26 [some (vR 21), some (vR 13), some (vI x2), some (vI x3), some (vI x4), some (vI 0), o6, o7, o8] [] (LT u z (uA f 22 (upd (f 22) (ix x4) ((-1))))) res)))) : RC call (mP 111) 16 [some (vR 21), some (vR 13), some (vI x2), some (vI x3), some (vI x4), o5, o6, o7, o8] [] (LT u z f) res := by
  refine rc_b (i' := 18) (ls' := [some (vR 21), some (vR 13), some (vI x2), some (vI x3), some (vI x4), o5, o6, o7, o8]) (st' := [vI x2, vI x4]) (L' := LT u z f) 2 (bc16_111_1 call x2 x3 x4 o5 o6 o7 o8 _) ?_
  refine rc_if (it := 90) (ie := 19) (ls' := [some (vR 21), some (vR 13), some (vI x2), some (vI x3), some (vI x4), o5, o6, o7, o8]) (st' := []) (bc16_111_2 call x4 x2 _ _) (fun q1 => ?_) (fun q1 => ?_)
  · have H := H.1 (cI3t q1 rfl rfl)
    refine rc_b (i' := 91) (ls' := [some (vR 21), some (vR 13), some (vI x2), some (vI x3), some (vI x4), o5, o6, o7, o8]) (st' := [vI x3]) (L' := LT u z f) 1 (bc16_111_3 call x2 x3 x4 o5 o6 o7 o8 _) ?_
    subst H
    exact rc_ret (bc16_111_4 call _ _ _)
  · have H := H.2 (cI3f q1 rfl rfl)
    refine rc_b (i' := 23) (ls' := [some (vR 21), some (vR 13), some (vI x2), some (vI x3), some (vI x4), o5, o6, o7, o8]) (st' := [vI ((-1)), vI x4, vR 22]) (L' := LT u z f) 4 (bc16_111_5 call x2 x3 x4 o5 o6 o7 o8 z f) ?_
    obtain ⟨g1, H⟩ := H
    refine rc_g (i' := 24) (ls' := [some (vR 21), some (vR 13), some (vI x2), some (vI x3), some (vI x4), o5, o6, o7, o8]) (st' := []) (L' := LT u z (uA f 22 (upd (f 22) (ix x4) ((-1))))) (bc16_111_6 call x4 ((-1)) _ z f) (pinG g1) ?_
    refine rc_b (i' := 26) (ls' := [some (vR 21), some (vR 13), some (vI x2), some (vI x3), some (vI x4), some (vI 0), o6, o7, o8]) (st' := []) (L' := LT u z (uA f 22 (upd (f 22) (ix x4) ((-1))))) 2 (bc16_111_7 call x2 x3 x4 o5 o6 o7 o8 _) ?_
    exact H
set_option maxRecDepth 100000 in
theorem bc26_111_1 (call : QC FA) (x2 : Int32) (x3 : Int32) (x4 : Int32) (x5 : Int32) (o6 : Option PV) (o7 : Option PV) (o8 : Option PV) (z : Nat → Int32) (f : Nat → FA) (F : Nat) : rnG call 111 (F + 3) 26 [some (vR 21), some (vR 13), some (vI x2), some (vI x3), some (vI x4), some (vI x5), o6, o7, o8] [] (LT u z f) = rnG call 111 F 29 [some (vR 21), some (vR 13), some (vI x2), some (vI x3), some (vI x4), some (vI x5), o6, o7, o8] [vI (z 13), vI x5] (LT u z f) := rfl
set_option maxRecDepth 100000 in
theorem bc26_111_2 (call : QC FA) (x y : Int32) (ls : List (Option PV)) (L : QH FA) (F : Nat) : rnG call 111 (F + 1) 29 ls [vI y, vI x] L = bif pcmp 3 x y then rnG call 111 F 77 ls [] L else rnG call 111 F 30 ls [] L := rfl
set_option maxRecDepth 100000 in
theorem bc26_111_3 (call : QC FA) (x2 : Int32) (x3 : Int32) (x4 : Int32) (x5 : Int32) (o6 : Option PV) (o7 : Option PV) (o8 : Option PV) (z : Nat → Int32) (f : Nat → FA) (F : Nat) : rnG call 111 (F + 3) 77 [some (vR 21), some (vR 13), some (vI x2), some (vI x3), some (vI x4), some (vI x5), o6, o7, o8] [] (LT u z f) = rnG call 111 F 80 [some (vR 21), some (vR 13), some (vI x2), some (vI x3), some (vI x4), some (vI x5), o6, o7, o8] [vI x4, vR 22] (LT u z f) := rfl
set_option maxRecDepth 100000 in
theorem bc26_111_4 (call : QC FA) (x : Int32) (ls : List (Option PV)) (z : Nat → Int32) (f : Nat → FA) (F : Nat) : rnG call 111 (F + 1) 80 ls [vI x, vR 22] (LT u z f) = bif (Nat.beq 0 0 && pin x 401) then rnG call 111 F 81 ls [vI (f 22 (ix x))] (LT u z f) else none := rfl
set_option maxRecDepth 100000 in
theorem bc26_111_5 (call : QC FA) (x2 : Int32) (x3 : Int32) (x4 : Int32) (x5 : Int32) (o6 : Option PV) (o7 : Option PV) (o8 : Option PV) (s0 : Int32) (L : QH FA) (F : Nat) : rnG call 111 (F + 1) 81 [some (vR 21), some (vR 13), some (vI x2), some (vI x3), some (vI x4), some (vI x5), o6, o7, o8] [vI s0] L = rnG call 111 F 82 [some (vR 21), some (vR 13), some (vI x2), some (vI x3), some (vI x4), some (vI x5), o6, o7, o8] [vI ((-1)), vI s0] L := rfl
set_option maxRecDepth 100000 in
theorem bc26_111_6 (call : QC FA) (x y : Int32) (ls : List (Option PV)) (L : QH FA) (F : Nat) : rnG call 111 (F + 1) 82 ls [vI y, vI x] L = bif pcmp 0 x y then rnG call 111 F 88 ls [] L else rnG call 111 F 83 ls [] L := rfl
set_option maxRecDepth 100000 in
theorem bc26_111_7 (call : QC FA) (x2 : Int32) (x3 : Int32) (x4 : Int32) (x5 : Int32) (o6 : Option PV) (o7 : Option PV) (o8 : Option PV) (L : QH FA) (F : Nat) : rnG call 111 (F + 1) 88 [some (vR 21), some (vR 13), some (vI x2), some (vI x3), some (vI x4), some (vI x5), o6, o7, o8] [] L = rnG call 111 F 89 [some (vR 21), some (vR 13), some (vI x2), some (vI x3), some (vI (x4 + 1)), some (vI x5), o6, o7, o8] [] L := rfl
set_option maxRecDepth 100000 in
theorem bc26_111_8 (call : QC FA) (x2 : Int32) (x3 : Int32) (x4 : Int32) (x5 : Int32) (o6 : Option PV) (o7 : Option PV) (o8 : Option PV) (L : QH FA) (F : Nat) : rnG call 111 (F + 1) 89 [some (vR 21), some (vR 13), some (vI x2), some (vI x3), some (vI x4), some (vI x5), o6, o7, o8] [] L = rnG call 111 F 16 [some (vR 21), some (vR 13), some (vI x2), some (vI x3), some (vI x4), some (vI x5), o6, o7, o8] [] L := rfl
set_option maxRecDepth 100000 in
theorem bc26_111_9 (call : QC FA) (x2 : Int32) (x3 : Int32) (x4 : Int32) (x5 : Int32) (o6 : Option PV) (o7 : Option PV) (o8 : Option PV) (L : QH FA) (F : Nat) : rnG call 111 (F + 2) 83 [some (vR 21), some (vR 13), some (vI x2), some (vI x3), some (vI x4), some (vI x5), o6, o7, o8] [] L = rnG call 111 F 85 [some (vR 21), some (vR 13), some (vI x2), some (vI x3), some (vI x4), some (vI x5), o6, o7, o8] [vI x4, vI x3] L := rfl
set_option maxRecDepth 100000 in
theorem bc26_111_10 (call : QC FA) (a0 : Int32) (s0 : Int32) (ls : List (Option PV)) (z : Nat → Int32) (f : Nat → FA) (F : Nat) : rnG call 111 (F + 1) 85 ls [vI a0, vI s0] (LT u z f) = cbd (call 79 [vI a0] (LT u z f)) (fun r L' => rnG call 111 F 86 ls (r.toList ++ [vI s0]) L') := pcZ (ih := rnG call 111 F) (call := call) (a := 79) (b := 1) (t := 86) (ls := ls) (As := [vI a0]) (st' := [vI s0]) (L := LT u z f) rfl rfl
set_option maxRecDepth 100000 in
theorem bc26_111_11 (call : QC FA) (x y : Int32) (ls : List (Option PV)) (L : QH FA) (F : Nat) : rnG call 111 (F + 1) 86 ls [vI y, vI x] L = bif pcmp 2 x y then rnG call 111 F 87 ls [vI y] L else rnG call 111 F 87 ls [vI x] L := pmxr (rnG call 111 F) 87 x y ls [] L rfl
set_option maxRecDepth 100000 in
theorem bc26_111_12 (call : QC FA) (x2 : Int32) (x3 : Int32) (x4 : Int32) (x5 : Int32) (o6 : Option PV) (o7 : Option PV) (o8 : Option PV) (s0 : Int32) (L : QH FA) (F : Nat) : rnG call 111 (F + 1) 87 [some (vR 21), some (vR 13), some (vI x2), some (vI x3), some (vI x4), some (vI x5), o6, o7, o8] [vI s0] L = rnG call 111 F 88 [some (vR 21), some (vR 13), some (vI x2), some (vI s0), some (vI x4), some (vI x5), o6, o7, o8] [] L := rfl
set_option maxRecDepth 100000 in
theorem bc26_111_13 (call : QC FA) (x2 : Int32) (x3 : Int32) (x4 : Int32) (x5 : Int32) (o6 : Option PV) (o7 : Option PV) (o8 : Option PV) (L : QH FA) (F : Nat) : rnG call 111 (F + 10) 30 [some (vR 21), some (vR 13), some (vI x2), some (vI x3), some (vI x4), some (vI x5), o6, o7, o8] [] L = rnG call 111 F 40 [some (vR 21), some (vR 13), some (vI x2), some (vI x3), some (vI x4), some (vI x5), some (vI (x4 &&& ((1 <<< (x5 &&& 31)) ^^^ ((-1))))), o7, o8] [vI x5, vR 13] L := rfl
set_option maxRecDepth 100000 in
theorem bc26_111_14 (call : QC FA) (a0 : Int32) (ls : List (Option PV)) (z : Nat → Int32) (f : Nat → FA) (F : Nat) : rnG call 111 (F + 1) 40 ls [vI a0, vR 13] (LT u z f) = cbd (call 3 [vR 13, vI a0] (LT u z f)) (fun r L' => rnG call 111 F 41 ls (r.toList ++ []) L') := pcY (ih := rnG call 111 F) (call := call) (a := 3) (b := 1) (v := 9) (t := 41) (x := 13) (ls := ls) (As := [vI a0]) (st' := []) (L := LT u z f) rfl rfl rfl
set_option maxRecDepth 100000 in
theorem bc26_111_15 (call : QC FA) (x2 : Int32) (x3 : Int32) (x4 : Int32) (x5 : Int32) (x6 : Int32) (o7 : Option PV) (o8 : Option PV) (s0 : Int32) (L : QH FA) (F : Nat) : rnG call 111 (F + 1) 41 [some (vR 21), some (vR 13), some (vI x2), some (vI x3), some (vI x4), some (vI x5), some (vI x6), o7, o8] [vI s0] L = rnG call 111 F 42 [some (vR 21), some (vR 13), some (vI x2), some (vI x3), some (vI x4), some (vI x5), some (vI x6), o7, o8] [vI 256, vI s0] L := rfl
set_option maxRecDepth 100000 in
theorem bc26_111_16 (call : QC FA) (x y : Int32) (ls : List (Option PV)) (L : QH FA) (F : Nat) : rnG call 111 (F + 1) 42 ls [vI y, vI x] L = bif pcmp 1 y 0 then rnG call 111 F 43 ls [vI (x / y)] L else none := rfl
set_option maxRecDepth 100000 in
theorem bc26_111_17 (call : QC FA) (x2 : Int32) (x3 : Int32) (x4 : Int32) (x5 : Int32) (x6 : Int32) (o7 : Option PV) (o8 : Option PV) (s0 : Int32) (L : QH FA) (F : Nat) : rnG call 111 (F + 3) 43 [some (vR 21), some (vR 13), some (vI x2), some (vI x3), some (vI x4), some (vI x5), some (vI x6), o7, o8] [vI s0] L = rnG call 111 F 46 [some (vR 21), some (vR 13), some (vI x2), some (vI x3), some (vI x4), some (vI x5), some (vI x6), some (vI s0), o8] [vI x5, vR 13] L := rfl
set_option maxRecDepth 100000 in
theorem bc26_111_18 (call : QC FA) (a0 : Int32) (ls : List (Option PV)) (z : Nat → Int32) (f : Nat → FA) (F : Nat) : rnG call 111 (F + 1) 46 ls [vI a0, vR 13] (LT u z f) = cbd (call 3 [vR 13, vI a0] (LT u z f)) (fun r L' => rnG call 111 F 47 ls (r.toList ++ []) L') := pcY (ih := rnG call 111 F) (call := call) (a := 3) (b := 1) (v := 9) (t := 47) (x := 13) (ls := ls) (As := [vI a0]) (st' := []) (L := LT u z f) rfl rfl rfl
set_option maxRecDepth 100000 in
theorem bc26_111_19 (call : QC FA) (x2 : Int32) (x3 : Int32) (x4 : Int32) (x5 : Int32) (x6 : Int32) (x7 : Int32) (o8 : Option PV) (s0 : Int32) (L : QH FA) (F : Nat) : rnG call 111 (F + 1) 47 [some (vR 21), some (vR 13), some (vI x2), some (vI x3), some (vI x4), some (vI x5), some (vI x6), some (vI x7), o8] [vI s0] L = rnG call 111 F 48 [some (vR 21), some (vR 13), some (vI x2), some (vI x3), some (vI x4), some (vI x5), some (vI x6), some (vI x7), o8] [vI 256, vI s0] L := rfl
set_option maxRecDepth 100000 in
theorem bc26_111_20 (call : QC FA) (x y : Int32) (ls : List (Option PV)) (L : QH FA) (F : Nat) : rnG call 111 (F + 1) 48 ls [vI y, vI x] L = bif pcmp 1 y 0 then rnG call 111 F 49 ls [vI (x - x / y * y)] L else none := rfl
set_option maxRecDepth 100000 in
theorem bc26_111_21 (call : QC FA) (x2 : Int32) (x3 : Int32) (x4 : Int32) (x5 : Int32) (x6 : Int32) (x7 : Int32) (o8 : Option PV) (s0 : Int32) (L : QH FA) (F : Nat) : rnG call 111 (F + 3) 49 [some (vR 21), some (vR 13), some (vI x2), some (vI x3), some (vI x4), some (vI x5), some (vI x6), some (vI x7), o8] [vI s0] L = rnG call 111 F 52 [some (vR 21), some (vR 13), some (vI x2), some (vI x3), some (vI x4), some (vI x5), some (vI x6), some (vI x7), some (vI s0)] [vI x4, vI x6] L := rfl
set_option maxRecDepth 100000 in
theorem bc26_111_22 (call : QC FA) (x y : Int32) (ls : List (Option PV)) (L : QH FA) (F : Nat) : rnG call 111 (F + 1) 52 ls [vI y, vI x] L = bif pcmp 3 x y then rnG call 111 F 75 ls [] L else rnG call 111 F 53 ls [] L := rfl
set_option maxRecDepth 100000 in
theorem bc26_111_23 (call : QC FA) (x2 : Int32) (x3 : Int32) (x4 : Int32) (x5 : Int32) (x6 : Int32) (x7 : Int32) (x8 : Int32) (L : QH FA) (F : Nat) : rnG call 111 (F + 1) 75 [some (vR 21), some (vR 13), some (vI x2), some (vI x3), some (vI x4), some (vI x5), some (vI x6), some (vI x7), some (vI x8)] [] L = rnG call 111 F 76 [some (vR 21), some (vR 13), some (vI x2), some (vI x3), some (vI x4), some (vI (x5 + 1)), some (vI x6), some (vI x7), some (vI x8)] [] L := rfl
set_option maxRecDepth 100000 in
theorem bc26_111_24 (call : QC FA) (x2 : Int32) (x3 : Int32) (x4 : Int32) (x5 : Int32) (x6 : Int32) (x7 : Int32) (x8 : Int32) (L : QH FA) (F : Nat) : rnG call 111 (F + 1) 76 [some (vR 21), some (vR 13), some (vI x2), some (vI x3), some (vI x4), some (vI x5), some (vI x6), some (vI x7), some (vI x8)] [] L = rnG call 111 F 26 [some (vR 21), some (vR 13), some (vI x2), some (vI x3), some (vI x4), some (vI x5), some (vI x6), some (vI x7), some (vI x8)] [] L := rfl
set_option maxRecDepth 100000 in
theorem bc26_111_25 (call : QC FA) (x2 : Int32) (x3 : Int32) (x4 : Int32) (x5 : Int32) (x6 : Int32) (x7 : Int32) (x8 : Int32) (z : Nat → Int32) (f : Nat → FA) (F : Nat) : rnG call 111 (F + 3) 53 [some (vR 21), some (vR 13), some (vI x2), some (vI x3), some (vI x4), some (vI x5), some (vI x6), some (vI x7), some (vI x8)] [] (LT u z f) = rnG call 111 F 56 [some (vR 21), some (vR 13), some (vI x2), some (vI x3), some (vI x4), some (vI x5), some (vI x6), some (vI x7), some (vI x8)] [vI x6, vR 22] (LT u z f) := rfl
set_option maxRecDepth 100000 in
theorem bc26_111_26 (call : QC FA) (x : Int32) (ls : List (Option PV)) (z : Nat → Int32) (f : Nat → FA) (F : Nat) : rnG call 111 (F + 1) 56 ls [vI x, vR 22] (LT u z f) = bif (Nat.beq 0 0 && pin x 401) then rnG call 111 F 57 ls [vI (f 22 (ix x))] (LT u z f) else none := rfl
set_option maxRecDepth 100000 in
theorem bc26_111_27 (call : QC FA) (x2 : Int32) (x3 : Int32) (x4 : Int32) (x5 : Int32) (x6 : Int32) (x7 : Int32) (x8 : Int32) (s0 : Int32) (L : QH FA) (F : Nat) : rnG call 111 (F + 1) 57 [some (vR 21), some (vR 13), some (vI x2), some (vI x3), some (vI x4), some (vI x5), some (vI x6), some (vI x7), some (vI x8)] [vI s0] L = rnG call 111 F 58 [some (vR 21), some (vR 13), some (vI x2), some (vI x3), some (vI x4), some (vI x5), some (vI x6), some (vI x7), some (vI x8)] [vI ((-1)), vI s0] L := rfl
set_option maxRecDepth 100000 in
theorem bc26_111_28 (call : QC FA) (x y : Int32) (ls : List (Option PV)) (L : QH FA) (F : Nat) : rnG call 111 (F + 1) 58 ls [vI y, vI x] L = bif pcmp 0 x y then rnG call 111 F 75 ls [] L else rnG call 111 F 59 ls [] L := rfl
set_option maxRecDepth 100000 in
theorem bc26_111_29 (call : QC FA) (x2 : Int32) (x3 : Int32) (x4 : Int32) (x5 : Int32) (x6 : Int32) (x7 : Int32) (x8 : Int32) (z : Nat → Int32) (f : Nat → FA) (F : Nat) : rnG call 111 (F + 3) 59 [some (vR 21), some (vR 13), some (vI x2), some (vI x3), some (vI x4), some (vI x5), some (vI x6), some (vI x7), some (vI x8)] [] (LT u z f) = rnG call 111 F 62 [some (vR 21), some (vR 13), some (vI x2), some (vI x3), some (vI x4), some (vI x5), some (vI x6), some (vI x7), some (vI x8)] [vI x6, vR 22] (LT u z f) := rfl
set_option maxRecDepth 100000 in
theorem bc26_111_30 (call : QC FA) (x : Int32) (ls : List (Option PV)) (z : Nat → Int32) (f : Nat → FA) (F : Nat) : rnG call 111 (F + 1) 62 ls [vI x, vR 22] (LT u z f) = bif (Nat.beq 0 0 && pin x 401) then rnG call 111 F 63 ls [vI (f 22 (ix x))] (LT u z f) else none := rfl
set_option maxRecDepth 100000 in
theorem bc26_111_31 (call : QC FA) (x2 : Int32) (x3 : Int32) (x4 : Int32) (x5 : Int32) (x6 : Int32) (x7 : Int32) (x8 : Int32) (s0 : Int32) (L : QH FA) (F : Nat) : rnG call 111 (F + 1) 63 [some (vR 21), some (vR 13), some (vI x2), some (vI x3), some (vI x4), some (vI x5), some (vI x6), some (vI x7), some (vI x8)] [vI s0] L = rnG call 111 F 64 [some (vR 21), some (vR 13), some (vI x2), some (vI x3), some (vI x4), some (vI x5), some (vI x6), some (vI x7), some (vI x8)] [vI x8, vI s0] L := rfl
set_option maxRecDepth 100000 in
theorem bc26_111_32 (call : QC FA) (x y : Int32) (ls : List (Option PV)) (L : QH FA) (F : Nat) : rnG call 111 (F + 1) 64 ls [vI y, vI x] L = bif pcmp 4 x y then rnG call 111 F 75 ls [] L else rnG call 111 F 65 ls [] L := rfl
set_option maxRecDepth 100000 in
theorem bc26_111_33 (call : QC FA) (x2 : Int32) (x3 : Int32) (x4 : Int32) (x5 : Int32) (x6 : Int32) (x7 : Int32) (x8 : Int32) (z : Nat → Int32) (f : Nat → FA) (F : Nat) : rnG call 111 (F + 6) 65 [some (vR 21), some (vR 13), some (vI x2), some (vI x3), some (vI x4), some (vI x5), some (vI x6), some (vI x7), some (vI x8)] [] (LT u z f) = rnG call 111 F 71 [some (vR 21), some (vR 13), some (vI x2), some (vI x3), some (vI x4), some (vI x5), some (vI x6), some (vI x7), some (vI x8)] [vI x6, vR 22, vI x4, vR 22] (LT u z f) := rfl
set_option maxRecDepth 100000 in
theorem bc26_111_34 (call : QC FA) (x : Int32) (s0 : Int32) (ls : List (Option PV)) (z : Nat → Int32) (f : Nat → FA) (F : Nat) : rnG call 111 (F + 1) 71 ls [vI x, vR 22, vI s0, vR 22] (LT u z f) = bif (Nat.beq 0 0 && pin x 401) then rnG call 111 F 72 ls [vI (f 22 (ix x)), vI s0, vR 22] (LT u z f) else none := rfl
set_option maxRecDepth 100000 in
theorem bc26_111_35 (call : QC FA) (x2 : Int32) (x3 : Int32) (x4 : Int32) (x5 : Int32) (x6 : Int32) (x7 : Int32) (x8 : Int32) (s0 : Int32) (s1 : Int32) (L : QH FA) (F : Nat) : rnG call 111 (F + 2) 72 [some (vR 21), some (vR 13), some (vI x2), some (vI x3), some (vI x4), some (vI x5), some (vI x6), some (vI x7), some (vI x8)] [vI s0, vI s1, vR 22] L = rnG call 111 F 74 [some (vR 21), some (vR 13), some (vI x2), some (vI x3), some (vI x4), some (vI x5), some (vI x6), some (vI x7), some (vI x8)] [vI (s0 + x7), vI s1, vR 22] L := rfl
set_option maxRecDepth 100000 in
theorem bc26_111_36 (call : QC FA) (x y : Int32) (ls : List (Option PV)) (z : Nat → Int32) (f : Nat → FA) (F : Nat) : rnG call 111 (F + 1) 74 ls [vI y, vI x, vR 22] (LT u z f) = bif (Nat.beq 0 0 && pin x 401) then rnG call 111 F 75 ls [] (LT u z (uA f 22 (upd (f 22) (ix x) y))) else none := rfl
theorem vcc26_111_26 (call : QC FA) (x2 : Int32) (x3 : Int32) (x4 : Int32) (x5 : Int32) (o6 : Option PV) (o7 : Option PV) (o8 : Option PV) (z : Nat → Int32) (f : Nat → FA) (res : Option PV × QH FA) (H : ((I (z 13) ≤ I x5 → (pin x4 401 = true ∧ ((f 22 (ix x4) = (-1) → RC call (mP 111) 16 [some (vR 21), some (vR 13), some (vI x2), some (vI x3), some (vI (x4 + 1)), some (vI x5), o6, o7, o8] [] (LT u z f) res) ∧ (¬ f 22 (ix x4) = (-1) → (∃ (r1 : Int32) (z1 : Nat → Int32) (f1 : Nat → FA), call 79 [vI x4] (LT u z f) = some (some (vI r1), LT u z1 f1) ∧ ((I x3 < I r1 → RC call (mP 111) 16 [some (vR 21), some (vR 13), some (vI x2), some (vI r1), some (vI (x4 + 1)), some (vI x5), o6, o7, o8] [] (LT u z1 f1) res) ∧ (I r1 ≤ I x3 → RC call (mP 111) 16 [some (vR 21), some (vR 13), some (vI x2), some (vI x3), some (vI (x4 + 1)), some (vI x5), o6, o7, o8] [] (LT u z1 f1) res))))))) ∧ (I x5 < I (z 13) → (∃ (r2 : Int32) (z2 : Nat → Int32) (f2 : Nat → FA), call 3 [vR 13, vI x5] (LT u z f) = some (some (vI r2), LT u z2 f2) ∧ (¬ (256 : Int32) = 0 ∧ (∃ (r3 : Int32) (z3 : Nat → Int32) (f3 : Nat → FA), call 3 [vR 13, vI x5] (LT u z2 f2) = some (some (vI r3), LT u z3 f3) ∧ (¬ (256 : Int32) = 0 ∧ ((I x4 ≤ I (x4 &&& ((1 <<< (x5 &&& 31)) ^^^ ((-1)))) → RC call (mP 111) 26 [some (vR 21), some (vR 13), some (vI x2), some (vI x3), some (vI x4), some (vI (x5 + 1)), some (vI (x4 &&& ((1 <<< (x5 &&& 31)) ^^^ ((-1))))), some (vI (r2 / 256)), some (vI (r3 - r3 / 256 * 256))] [] (LT u z3 f3) res) ∧ (I (x4 &&& ((1 <<< (x5 &&& 31)) ^^^ ((-1)))) < I x4 → (pin (x4 &&& ((1 <<< (x5 &&& 31)) ^^^ ((-1)))) 401 = true ∧ ((f3 22 (ix (x4 &&& ((1 <<< (x5 &&& 31)) ^^^ ((-1))))) = (-1) → RC call (mP 111) 26 [some (vR 21), some (vR 13), some (vI x2), some (vI x3), some (vI x4), some (vI (x5 + 1)), some (vI (x4 &&& ((1 <<< (x5 &&& 31)) ^^^ ((-1))))), some (vI (r2 / 256)), some (vI (r3 - r3 / 256 * 256))] [] (LT u z3 f3) res) ∧ (¬ f3 22 (ix (x4 &&& ((1 <<< (x5 &&& 31)) ^^^ ((-1))))) = (-1) → (pin (x4 &&& ((1 <<< (x5 &&& 31)) ^^^ ((-1)))) 401 = true ∧ ((I (r3 - r3 / 256 * 256) < I (f3 22 (ix (x4 &&& ((1 <<< (x5 &&& 31)) ^^^ ((-1)))))) → RC call (mP 111) 26 [some (vR 21), some (vR 13), some (vI x2), some (vI x3), some (vI x4), some (vI (x5 + 1)), some (vI (x4 &&& ((1 <<< (x5 &&& 31)) ^^^ ((-1))))), some (vI (r2 / 256)), some (vI (r3 - r3 / 256 * 256))] [] (LT u z3 f3) res) ∧ (I (f3 22 (ix (x4 &&& ((1 <<< (x5 &&& 31)) ^^^ ((-1)))))) ≤ I (r3 - r3 / 256 * 256) → (pin (x4 &&& ((1 <<< (x5 &&& 31)) ^^^ ((-1)))) 401 = true ∧ (pin x4 401 = true ∧ RC call (mP 111) 26 [some (vR 21), some (vR 13), some (vI x2), some (vI x3), some (vI x4), some (vI (x5 + 1)), some (vI (x4 &&& ((1 <<< (x5 &&& 31)) ^^^ ((-1))))), some (vI (r2 / 256)), some (vI (r3 - r3 / 256 * 256))] [] (LT u z3 (uA f3 22 (upd (f3 22) (ix x4) ((f3 22 (ix (x4 &&& ((1 <<< (x5 &&& 31)) ^^^ ((-1)))))) + (r2 / 256))))) res))))))))))))))))) : RC call (mP 111) 26 [some (vR 21), some (vR 13), some (vI x2), some (vI x3), some (vI x4), some (vI x5), o6, o7, o8] [] (LT u z f) res := by
  refine rc_b (i' := 29) (ls' := [some (vR 21), some (vR 13), some (vI x2), some (vI x3), some (vI x4), some (vI x5), o6, o7, o8]) (st' := [vI (z 13), vI x5]) (L' := LT u z f) 3 (bc26_111_1 call x2 x3 x4 x5 o6 o7 o8 z f) ?_
  refine rc_if (it := 77) (ie := 30) (ls' := [some (vR 21), some (vR 13), some (vI x2), some (vI x3), some (vI x4), some (vI x5), o6, o7, o8]) (st' := []) (bc26_111_2 call x5 (z 13) _ _) (fun q1 => ?_) (fun q1 => ?_)
  · have H := H.1 (cI3t q1 rfl rfl)
    refine rc_b (i' := 80) (ls' := [some (vR 21), some (vR 13), some (vI x2), some (vI x3), some (vI x4), some (vI x5), o6, o7, o8]) (st' := [vI x4, vR 22]) (L' := LT u z f) 3 (bc26_111_3 call x2 x3 x4 x5 o6 o7 o8 z f) ?_
    obtain ⟨g1, H⟩ := H
    refine rc_g (i' := 81) (ls' := [some (vR 21), some (vR 13), some (vI x2), some (vI x3), some (vI x4), some (vI x5), o6, o7, o8]) (st' := [vI (f 22 (ix x4))]) (L' := LT u z f) (bc26_111_4 call x4 _ z f) (pinG g1) ?_
    refine rc_b (i' := 82) (ls' := [some (vR 21), some (vR 13), some (vI x2), some (vI x3), some (vI x4), some (vI x5), o6, o7, o8]) (st' := [vI ((-1)), vI (f 22 (ix x4))]) (L' := LT u z f) 1 (bc26_111_5 call x2 x3 x4 x5 o6 o7 o8 (f 22 (ix x4)) _) ?_
    refine rc_if (it := 88) (ie := 83) (ls' := [some (vR 21), some (vR 13), some (vI x2), some (vI x3), some (vI x4), some (vI x5), o6, o7, o8]) (st' := []) (bc26_111_6 call (f 22 (ix x4)) ((-1)) _ _) (fun q2 => ?_) (fun q2 => ?_)
    · have H := H.1 (cI0t q2)
      refine rc_b (i' := 89) (ls' := [some (vR 21), some (vR 13), some (vI x2), some (vI x3), some (vI (x4 + 1)), some (vI x5), o6, o7, o8]) (st' := []) (L' := LT u z f) 1 (bc26_111_7 call x2 x3 x4 x5 o6 o7 o8 _) ?_
      refine rc_b (i' := 16) (ls' := [some (vR 21), some (vR 13), some (vI x2), some (vI x3), some (vI (x4 + 1)), some (vI x5), o6, o7, o8]) (st' := []) (L' := LT u z f) 1 (bc26_111_8 call x2 x3 (x4 + 1) x5 o6 o7 o8 _) ?_
      exact H
    · have H := H.2 (cI0f q2)
      refine rc_b (i' := 85) (ls' := [some (vR 21), some (vR 13), some (vI x2), some (vI x3), some (vI x4), some (vI x5), o6, o7, o8]) (st' := [vI x4, vI x3]) (L' := LT u z f) 2 (bc26_111_9 call x2 x3 x4 x5 o6 o7 o8 _) ?_
      obtain ⟨r1, z1, f1, hc, H⟩ := H
      refine rc_call (t := 86) (ls' := [some (vR 21), some (vR 13), some (vI x2), some (vI x3), some (vI x4), some (vI x5), o6, o7, o8]) (st' := [vI x3]) (bc26_111_10 call x4 x3 _ z f) hc ?_
      show RC call (mP 111) 86 [some (vR 21), some (vR 13), some (vI x2), some (vI x3), some (vI x4), some (vI x5), o6, o7, o8] [vI r1, vI x3] (LT u z1 f1) res
      refine rc_if2 (it := 87) (ie := 87) (ls' := [some (vR 21), some (vR 13), some (vI x2), some (vI x3), some (vI x4), some (vI x5), o6, o7, o8]) (st1 := [vI r1]) (st2 := [vI x3]) (bc26_111_11 call x3 r1 _ _) (fun q3 => ?_) (fun q3 => ?_)
      · have H := H.1 (cI2t q3 rfl rfl)
        refine rc_b (i' := 88) (ls' := [some (vR 21), some (vR 13), some (vI x2), some (vI r1), some (vI x4), some (vI x5), o6, o7, o8]) (st' := []) (L' := LT u z1 f1) 1 (bc26_111_12 call x2 x3 x4 x5 o6 o7 o8 r1 _) ?_
        refine rc_b (i' := 89) (ls' := [some (vR 21), some (vR 13), some (vI x2), some (vI r1), some (vI (x4 + 1)), some (vI x5), o6, o7, o8]) (st' := []) (L' := LT u z1 f1) 1 (bc26_111_7 call x2 r1 x4 x5 o6 o7 o8 _) ?_
        refine rc_b (i' := 16) (ls' := [some (vR 21), some (vR 13), some (vI x2), some (vI r1), some (vI (x4 + 1)), some (vI x5), o6, o7, o8]) (st' := []) (L' := LT u z1 f1) 1 (bc26_111_8 call x2 r1 (x4 + 1) x5 o6 o7 o8 _) ?_
        exact H
      · have H := H.2 (cI2f q3 rfl rfl)
        refine rc_b (i' := 88) (ls' := [some (vR 21), some (vR 13), some (vI x2), some (vI x3), some (vI x4), some (vI x5), o6, o7, o8]) (st' := []) (L' := LT u z1 f1) 1 (bc26_111_12 call x2 x3 x4 x5 o6 o7 o8 x3 _) ?_
        refine rc_b (i' := 89) (ls' := [some (vR 21), some (vR 13), some (vI x2), some (vI x3), some (vI (x4 + 1)), some (vI x5), o6, o7, o8]) (st' := []) (L' := LT u z1 f1) 1 (bc26_111_7 call x2 x3 x4 x5 o6 o7 o8 _) ?_
        refine rc_b (i' := 16) (ls' := [some (vR 21), some (vR 13), some (vI x2), some (vI x3), some (vI (x4 + 1)), some (vI x5), o6, o7, o8]) (st' := []) (L' := LT u z1 f1) 1 (bc26_111_8 call x2 x3 (x4 + 1) x5 o6 o7 o8 _) ?_
        exact H
  · have H := H.2 (cI3f q1 rfl rfl)
    refine rc_b (i' := 40) (ls' := [some (vR 21), some (vR 13), some (vI x2), some (vI x3), some (vI x4), some (vI x5), some (vI (x4 &&& ((1 <<< (x5 &&& 31)) ^^^ ((-1))))), o7, o8]) (st' := [vI x5, vR 13]) (L' := LT u z f) 10 (bc26_111_13 call x2 x3 x4 x5 o6 o7 o8 _) ?_
    obtain ⟨r2, z2, f2, hc, H⟩ := H
    refine rc_call (t := 41) (ls' := [some (vR 21), some (vR 13), some (vI x2), some (vI x3), some (vI x4), some (vI x5), some (vI (x4 &&& ((1 <<< (x5 &&& 31)) ^^^ ((-1))))), o7, o8]) (st' := []) (bc26_111_14 call x5 _ z f) hc ?_
    show RC call (mP 111) 41 [some (vR 21), some (vR 13), some (vI x2), some (vI x3), some (vI x4), some (vI x5), some (vI (x4 &&& ((1 <<< (x5 &&& 31)) ^^^ ((-1))))), o7, o8] [vI r2] (LT u z2 f2) res
    refine rc_b (i' := 42) (ls' := [some (vR 21), some (vR 13), some (vI x2), some (vI x3), some (vI x4), some (vI x5), some (vI (x4 &&& ((1 <<< (x5 &&& 31)) ^^^ ((-1))))), o7, o8]) (st' := [vI 256, vI r2]) (L' := LT u z2 f2) 1 (bc26_111_15 call x2 x3 x4 x5 (x4 &&& ((1 <<< (x5 &&& 31)) ^^^ ((-1)))) o7 o8 r2 _) ?_
    obtain ⟨g1, H⟩ := H
    refine rc_g (i' := 43) (ls' := [some (vR 21), some (vR 13), some (vI x2), some (vI x3), some (vI x4), some (vI x5), some (vI (x4 &&& ((1 <<< (x5 &&& 31)) ^^^ ((-1))))), o7, o8]) (st' := [vI (r2 / 256)]) (L' := LT u z2 f2) (bc26_111_16 call r2 256 _ _) (cmp_ne.trans (decide_eq_true g1)) ?_
    refine rc_b (i' := 46) (ls' := [some (vR 21), some (vR 13), some (vI x2), some (vI x3), some (vI x4), some (vI x5), some (vI (x4 &&& ((1 <<< (x5 &&& 31)) ^^^ ((-1))))), some (vI (r2 / 256)), o8]) (st' := [vI x5, vR 13]) (L' := LT u z2 f2) 3 (bc26_111_17 call x2 x3 x4 x5 (x4 &&& ((1 <<< (x5 &&& 31)) ^^^ ((-1)))) o7 o8 (r2 / 256) _) ?_
    obtain ⟨r3, z3, f3, hc, H⟩ := H
    refine rc_call (t := 47) (ls' := [some (vR 21), some (vR 13), some (vI x2), some (vI x3), some (vI x4), some (vI x5), some (vI (x4 &&& ((1 <<< (x5 &&& 31)) ^^^ ((-1))))), some (vI (r2 / 256)), o8]) (st' := []) (bc26_111_18 call x5 _ z2 f2) hc ?_
    show RC call (mP 111) 47 [some (vR 21), some (vR 13), some (vI x2), some (vI x3), some (vI x4), some (vI x5), some (vI (x4 &&& ((1 <<< (x5 &&& 31)) ^^^ ((-1))))), some (vI (r2 / 256)), o8] [vI r3] (LT u z3 f3) res
    refine rc_b (i' := 48) (ls' := [some (vR 21), some (vR 13), some (vI x2), some (vI x3), some (vI x4), some (vI x5), some (vI (x4 &&& ((1 <<< (x5 &&& 31)) ^^^ ((-1))))), some (vI (r2 / 256)), o8]) (st' := [vI 256, vI r3]) (L' := LT u z3 f3) 1 (bc26_111_19 call x2 x3 x4 x5 (x4 &&& ((1 <<< (x5 &&& 31)) ^^^ ((-1)))) (r2 / 256) o8 r3 _) ?_
    obtain ⟨g1, H⟩ := H
    refine rc_g (i' := 49) (ls' := [some (vR 21), some (vR 13), some (vI x2), some (vI x3), some (vI x4), some (vI x5), some (vI (x4 &&& ((1 <<< (x5 &&& 31)) ^^^ ((-1))))), some (vI (r2 / 256)), o8]) (st' := [vI (r3 - r3 / 256 * 256)]) (L' := LT u z3 f3) (bc26_111_20 call r3 256 _ _) (cmp_ne.trans (decide_eq_true g1)) ?_
    refine rc_b (i' := 52) (ls' := [some (vR 21), some (vR 13), some (vI x2), some (vI x3), some (vI x4), some (vI x5), some (vI (x4 &&& ((1 <<< (x5 &&& 31)) ^^^ ((-1))))), some (vI (r2 / 256)), some (vI (r3 - r3 / 256 * 256))]) (st' := [vI x4, vI (x4 &&& ((1 <<< (x5 &&& 31)) ^^^ ((-1))))]) (L' := LT u z3 f3) 3 (bc26_111_21 call x2 x3 x4 x5 (x4 &&& ((1 <<< (x5 &&& 31)) ^^^ ((-1)))) (r2 / 256) o8 (r3 - r3 / 256 * 256) _) ?_
    refine rc_if (it := 75) (ie := 53) (ls' := [some (vR 21), some (vR 13), some (vI x2), some (vI x3), some (vI x4), some (vI x5), some (vI (x4 &&& ((1 <<< (x5 &&& 31)) ^^^ ((-1))))), some (vI (r2 / 256)), some (vI (r3 - r3 / 256 * 256))]) (st' := []) (bc26_111_22 call (x4 &&& ((1 <<< (x5 &&& 31)) ^^^ ((-1)))) x4 _ _) (fun q4 => ?_) (fun q4 => ?_)
    · have H := H.1 (cI3t q4 rfl rfl)
      refine rc_b (i' := 76) (ls' := [some (vR 21), some (vR 13), some (vI x2), some (vI x3), some (vI x4), some (vI (x5 + 1)), some (vI (x4 &&& ((1 <<< (x5 &&& 31)) ^^^ ((-1))))), some (vI (r2 / 256)), some (vI (r3 - r3 / 256 * 256))]) (st' := []) (L' := LT u z3 f3) 1 (bc26_111_23 call x2 x3 x4 x5 (x4 &&& ((1 <<< (x5 &&& 31)) ^^^ ((-1)))) (r2 / 256) (r3 - r3 / 256 * 256) _) ?_
      refine rc_b (i' := 26) (ls' := [some (vR 21), some (vR 13), some (vI x2), some (vI x3), some (vI x4), some (vI (x5 + 1)), some (vI (x4 &&& ((1 <<< (x5 &&& 31)) ^^^ ((-1))))), some (vI (r2 / 256)), some (vI (r3 - r3 / 256 * 256))]) (st' := []) (L' := LT u z3 f3) 1 (bc26_111_24 call x2 x3 x4 (x5 + 1) (x4 &&& ((1 <<< (x5 &&& 31)) ^^^ ((-1)))) (r2 / 256) (r3 - r3 / 256 * 256) _) ?_
      exact H
    · have H := H.2 (cI3f q4 rfl rfl)
      refine rc_b (i' := 56) (ls' := [some (vR 21), some (vR 13), some (vI x2), some (vI x3), some (vI x4), some (vI x5), some (vI (x4 &&& ((1 <<< (x5 &&& 31)) ^^^ ((-1))))), some (vI (r2 / 256)), some (vI (r3 - r3 / 256 * 256))]) (st' := [vI (x4 &&& ((1 <<< (x5 &&& 31)) ^^^ ((-1)))), vR 22]) (L' := LT u z3 f3) 3 (bc26_111_25 call x2 x3 x4 x5 (x4 &&& ((1 <<< (x5 &&& 31)) ^^^ ((-1)))) (r2 / 256) (r3 - r3 / 256 * 256) z3 f3) ?_
      obtain ⟨g1, H⟩ := H
      refine rc_g (i' := 57) (ls' := [some (vR 21), some (vR 13), some (vI x2), some (vI x3), some (vI x4), some (vI x5), some (vI (x4 &&& ((1 <<< (x5 &&& 31)) ^^^ ((-1))))), some (vI (r2 / 256)), some (vI (r3 - r3 / 256 * 256))]) (st' := [vI (f3 22 (ix (x4 &&& ((1 <<< (x5 &&& 31)) ^^^ ((-1))))))]) (L' := LT u z3 f3) (bc26_111_26 call (x4 &&& ((1 <<< (x5 &&& 31)) ^^^ ((-1)))) _ z3 f3) (pinG g1) ?_
      refine rc_b (i' := 58) (ls' := [some (vR 21), some (vR 13), some (vI x2), some (vI x3), some (vI x4), some (vI x5), some (vI (x4 &&& ((1 <<< (x5 &&& 31)) ^^^ ((-1))))), some (vI (r2 / 256)), some (vI (r3 - r3 / 256 * 256))]) (st' := [vI ((-1)), vI (f3 22 (ix (x4 &&& ((1 <<< (x5 &&& 31)) ^^^ ((-1))))))]) (L' := LT u z3 f3) 1 (bc26_111_27 call x2 x3 x4 x5 (x4 &&& ((1 <<< (x5 &&& 31)) ^^^ ((-1)))) (r2 / 256) (r3 - r3 / 256 * 256) (f3 22 (ix (x4 &&& ((1 <<< (x5 &&& 31)) ^^^ ((-1)))))) _) ?_
      refine rc_if (it := 75) (ie := 59) (ls' := [some (vR 21), some (vR 13), some (vI x2), some (vI x3), some (vI x4), some (vI x5), some (vI (x4 &&& ((1 <<< (x5 &&& 31)) ^^^ ((-1))))), some (vI (r2 / 256)), some (vI (r3 - r3 / 256 * 256))]) (st' := []) (bc26_111_28 call (f3 22 (ix (x4 &&& ((1 <<< (x5 &&& 31)) ^^^ ((-1)))))) ((-1)) _ _) (fun q5 => ?_) (fun q5 => ?_)
      · have H := H.1 (cI0t q5)
        refine rc_b (i' := 76) (ls' := [some (vR 21), some (vR 13), some (vI x2), some (vI x3), some (vI x4), some (vI (x5 + 1)), some (vI (x4 &&& ((1 <<< (x5 &&& 31)) ^^^ ((-1))))), some (vI (r2 / 256)), some (vI (r3 - r3 / 256 * 256))]) (st' := []) (L' := LT u z3 f3) 1 (bc26_111_23 call x2 x3 x4 x5 (x4 &&& ((1 <<< (x5 &&& 31)) ^^^ ((-1)))) (r2 / 256) (r3 - r3 / 256 * 256) _) ?_
        refine rc_b (i' := 26) (ls' := [some (vR 21), some (vR 13), some (vI x2), some (vI x3), some (vI x4), some (vI (x5 + 1)), some (vI (x4 &&& ((1 <<< (x5 &&& 31)) ^^^ ((-1))))), some (vI (r2 / 256)), some (vI (r3 - r3 / 256 * 256))]) (st' := []) (L' := LT u z3 f3) 1 (bc26_111_24 call x2 x3 x4 (x5 + 1) (x4 &&& ((1 <<< (x5 &&& 31)) ^^^ ((-1)))) (r2 / 256) (r3 - r3 / 256 * 256) _) ?_
        exact H
      · have H := H.2 (cI0f q5)
        refine rc_b (i' := 62) (ls' := [some (vR 21), some (vR 13), some (vI x2), some (vI x3), some (vI x4), some (vI x5), some (vI (x4 &&& ((1 <<< (x5 &&& 31)) ^^^ ((-1))))), some (vI (r2 / 256)), some (vI (r3 - r3 / 256 * 256))]) (st' := [vI (x4 &&& ((1 <<< (x5 &&& 31)) ^^^ ((-1)))), vR 22]) (L' := LT u z3 f3) 3 (bc26_111_29 call x2 x3 x4 x5 (x4 &&& ((1 <<< (x5 &&& 31)) ^^^ ((-1)))) (r2 / 256) (r3 - r3 / 256 * 256) z3 f3) ?_
        obtain ⟨g1, H⟩ := H
        refine rc_g (i' := 63) (ls' := [some (vR 21), some (vR 13), some (vI x2), some (vI x3), some (vI x4), some (vI x5), some (vI (x4 &&& ((1 <<< (x5 &&& 31)) ^^^ ((-1))))), some (vI (r2 / 256)), some (vI (r3 - r3 / 256 * 256))]) (st' := [vI (f3 22 (ix (x4 &&& ((1 <<< (x5 &&& 31)) ^^^ ((-1))))))]) (L' := LT u z3 f3) (bc26_111_30 call (x4 &&& ((1 <<< (x5 &&& 31)) ^^^ ((-1)))) _ z3 f3) (pinG g1) ?_
        refine rc_b (i' := 64) (ls' := [some (vR 21), some (vR 13), some (vI x2), some (vI x3), some (vI x4), some (vI x5), some (vI (x4 &&& ((1 <<< (x5 &&& 31)) ^^^ ((-1))))), some (vI (r2 / 256)), some (vI (r3 - r3 / 256 * 256))]) (st' := [vI (r3 - r3 / 256 * 256), vI (f3 22 (ix (x4 &&& ((1 <<< (x5 &&& 31)) ^^^ ((-1))))))]) (L' := LT u z3 f3) 1 (bc26_111_31 call x2 x3 x4 x5 (x4 &&& ((1 <<< (x5 &&& 31)) ^^^ ((-1)))) (r2 / 256) (r3 - r3 / 256 * 256) (f3 22 (ix (x4 &&& ((1 <<< (x5 &&& 31)) ^^^ ((-1)))))) _) ?_
        refine rc_if (it := 75) (ie := 65) (ls' := [some (vR 21), some (vR 13), some (vI x2), some (vI x3), some (vI x4), some (vI x5), some (vI (x4 &&& ((1 <<< (x5 &&& 31)) ^^^ ((-1))))), some (vI (r2 / 256)), some (vI (r3 - r3 / 256 * 256))]) (st' := []) (bc26_111_32 call (f3 22 (ix (x4 &&& ((1 <<< (x5 &&& 31)) ^^^ ((-1)))))) (r3 - r3 / 256 * 256) _ _) (fun q6 => ?_) (fun q6 => ?_)
        · have H := H.1 (cI4t q6 rfl rfl)
          refine rc_b (i' := 76) (ls' := [some (vR 21), some (vR 13), some (vI x2), some (vI x3), some (vI x4), some (vI (x5 + 1)), some (vI (x4 &&& ((1 <<< (x5 &&& 31)) ^^^ ((-1))))), some (vI (r2 / 256)), some (vI (r3 - r3 / 256 * 256))]) (st' := []) (L' := LT u z3 f3) 1 (bc26_111_23 call x2 x3 x4 x5 (x4 &&& ((1 <<< (x5 &&& 31)) ^^^ ((-1)))) (r2 / 256) (r3 - r3 / 256 * 256) _) ?_
          refine rc_b (i' := 26) (ls' := [some (vR 21), some (vR 13), some (vI x2), some (vI x3), some (vI x4), some (vI (x5 + 1)), some (vI (x4 &&& ((1 <<< (x5 &&& 31)) ^^^ ((-1))))), some (vI (r2 / 256)), some (vI (r3 - r3 / 256 * 256))]) (st' := []) (L' := LT u z3 f3) 1 (bc26_111_24 call x2 x3 x4 (x5 + 1) (x4 &&& ((1 <<< (x5 &&& 31)) ^^^ ((-1)))) (r2 / 256) (r3 - r3 / 256 * 256) _) ?_
          exact H
        · have H := H.2 (cI4f q6 rfl rfl)
          refine rc_b (i' := 71) (ls' := [some (vR 21), some (vR 13), some (vI x2), some (vI x3), some (vI x4), some (vI x5), some (vI (x4 &&& ((1 <<< (x5 &&& 31)) ^^^ ((-1))))), some (vI (r2 / 256)), some (vI (r3 - r3 / 256 * 256))]) (st' := [vI (x4 &&& ((1 <<< (x5 &&& 31)) ^^^ ((-1)))), vR 22, vI x4, vR 22]) (L' := LT u z3 f3) 6 (bc26_111_33 call x2 x3 x4 x5 (x4 &&& ((1 <<< (x5 &&& 31)) ^^^ ((-1)))) (r2 / 256) (r3 - r3 / 256 * 256) z3 f3) ?_
          obtain ⟨g1, H⟩ := H
          refine rc_g (i' := 72) (ls' := [some (vR 21), some (vR 13), some (vI x2), some (vI x3), some (vI x4), some (vI x5), some (vI (x4 &&& ((1 <<< (x5 &&& 31)) ^^^ ((-1))))), some (vI (r2 / 256)), some (vI (r3 - r3 / 256 * 256))]) (st' := [vI (f3 22 (ix (x4 &&& ((1 <<< (x5 &&& 31)) ^^^ ((-1)))))), vI x4, vR 22]) (L' := LT u z3 f3) (bc26_111_34 call (x4 &&& ((1 <<< (x5 &&& 31)) ^^^ ((-1)))) x4 _ z3 f3) (pinG g1) ?_
          refine rc_b (i' := 74) (ls' := [some (vR 21), some (vR 13), some (vI x2), some (vI x3), some (vI x4), some (vI x5), some (vI (x4 &&& ((1 <<< (x5 &&& 31)) ^^^ ((-1))))), some (vI (r2 / 256)), some (vI (r3 - r3 / 256 * 256))]) (st' := [vI ((f3 22 (ix (x4 &&& ((1 <<< (x5 &&& 31)) ^^^ ((-1)))))) + (r2 / 256)), vI x4, vR 22]) (L' := LT u z3 f3) 2 (bc26_111_35 call x2 x3 x4 x5 (x4 &&& ((1 <<< (x5 &&& 31)) ^^^ ((-1)))) (r2 / 256) (r3 - r3 / 256 * 256) (f3 22 (ix (x4 &&& ((1 <<< (x5 &&& 31)) ^^^ ((-1)))))) x4 _) ?_
          obtain ⟨g1, H⟩ := H
          refine rc_g (i' := 75) (ls' := [some (vR 21), some (vR 13), some (vI x2), some (vI x3), some (vI x4), some (vI x5), some (vI (x4 &&& ((1 <<< (x5 &&& 31)) ^^^ ((-1))))), some (vI (r2 / 256)), some (vI (r3 - r3 / 256 * 256))]) (st' := []) (L' := LT u z3 (uA f3 22 (upd (f3 22) (ix x4) ((f3 22 (ix (x4 &&& ((1 <<< (x5 &&& 31)) ^^^ ((-1)))))) + (r2 / 256))))) (bc26_111_36 call x4 ((f3 22 (ix (x4 &&& ((1 <<< (x5 &&& 31)) ^^^ ((-1)))))) + (r2 / 256)) _ z3 f3) (pinG g1) ?_
          refine rc_b (i' := 76) (ls' := [some (vR 21), some (vR 13), some (vI x2), some (vI x3), some (vI x4), some (vI (x5 + 1)), some (vI (x4 &&& ((1 <<< (x5 &&& 31)) ^^^ ((-1))))), some (vI (r2 / 256)), some (vI (r3 - r3 / 256 * 256))]) (st' := []) (L' := LT u z3 (uA f3 22 (upd (f3 22) (ix x4) ((f3 22 (ix (x4 &&& ((1 <<< (x5 &&& 31)) ^^^ ((-1)))))) + (r2 / 256))))) 1 (bc26_111_23 call x2 x3 x4 x5 (x4 &&& ((1 <<< (x5 &&& 31)) ^^^ ((-1)))) (r2 / 256) (r3 - r3 / 256 * 256) _) ?_
          refine rc_b (i' := 26) (ls' := [some (vR 21), some (vR 13), some (vI x2), some (vI x3), some (vI x4), some (vI (x5 + 1)), some (vI (x4 &&& ((1 <<< (x5 &&& 31)) ^^^ ((-1))))), some (vI (r2 / 256)), some (vI (r3 - r3 / 256 * 256))]) (st' := []) (L' := LT u z3 (uA f3 22 (upd (f3 22) (ix x4) ((f3 22 (ix (x4 &&& ((1 <<< (x5 &&& 31)) ^^^ ((-1)))))) + (r2 / 256))))) 1 (bc26_111_24 call x2 x3 x4 (x5 + 1) (x4 &&& ((1 <<< (x5 &&& 31)) ^^^ ((-1)))) (r2 / 256) (r3 - r3 / 256 * 256) _) ?_
          exact H
set_option maxRecDepth 100000 in
theorem b177_1 (call : QC FA) (z : Nat → Int32) (f : Nat → FA) (F : Nat) : rnG call 177 (F + 6) 0 [some (vR 0)] [] (LT u z f) = rnG call 177 F 6 [some (vR 0)] [vI 5, vR 2, vR 21] (LT u z f) := rfl
set_option maxRecDepth 100000 in
theorem b177_2 (call : QC FA) (x : Int32) (ls : List (Option PV)) (z : Nat → Int32) (f : Nat → FA) (F : Nat) : rnG call 177 (F + 1) 6 ls [vI x, vR 2, vR 21] (LT u z f) = bif ((Nat.beq 3 1 || (Nat.beq 3 2 || Nat.beq 3 3)) && pin x 9) then rnG call 177 F 7 ls [.inr (.inl (wT u (ix x))), vR 21] (LT u z f) else none := rfl
set_option maxRecDepth 100000 in
theorem b177_3 (call : QC FA) (ls : List (Option PV)) (z : Nat → Int32) (f : Nat → FA) (F : Nat) : rnG call 177 (F + 1) 7 ls [vR 13, vR 21] (LT u z f) = cbd (call 111 [vR 21, vR 13] (LT u z f)) (fun r L' => rnG call 177 F 8 ls (r.toList ++ []) L') := pcY (ih := rnG call 177 F) (call := call) (a := 111) (b := 1) (v := 4) (t := 8) (x := 21) (ls := ls) (As := [vR 13]) (st' := []) (L := LT u z f) rfl rfl rfl
set_option maxRecDepth 100000 in
theorem b177_4 (call : QC FA) (x : Int32) (ls : List (Option PV)) (L : QH FA) (F : Nat) : rnG call 177 (F + 1) 8 ls [vI x] L = some (some (vI x), L) := rfl
theorem vc177_0 (call : QC FA) (z : Nat → Int32) (f : Nat → FA) (res : Option PV × QH FA) (H : (∃ (r1 : Int32) (z1 : Nat → Int32) (f1 : Nat → FA), call 111 [vR 21, vR 13] (LT u z f) = some (some (vI r1), LT u z1 f1) ∧ res = (some (vI r1), LT u z1 f1))) : RC call (mP 177) 0 [some (vR 0)] [] (LT u z f) res := by
  refine rc_b (i' := 6) (ls' := [some (vR 0)]) (st' := [vI 5, vR 2, vR 21]) (L' := LT u z f) 6 (b177_1 call z f) ?_
  refine rc_g (i' := 7) (ls' := [some (vR 0)]) (st' := [.inr (.inl (wT u (ix 5))), vR 21]) (L' := LT u z f) (b177_2 call 5 _ z f) (by decide) ?_
  show RC call (mP 177) 7 [some (vR 0)] [vR 13, vR 21] (LT u z f) res
  obtain ⟨r1, z1, f1, hc, H⟩ := H
  refine rc_call (t := 8) (ls' := [some (vR 0)]) (st' := []) (b177_3 call _ z f) hc ?_
  show RC call (mP 177) 8 [some (vR 0)] [vI r1] (LT u z1 f1) res
  subst H
  exact rc_ret (b177_4 call _ _ _)
theorem bitc (d s : Nat) (hs : s < 256) {z : Nat → Int32} {f : Nat → FA} : mcall (d + 1) 79 [vI (nI s)] (LT u z f) = some (some (vI (nI (pcN s))), LT u z f) := by
  have key : ∀ s, s < 256 → (((((((((nI s) - ((pbin 8 (nI s) 1) &&& 1431655765)) &&& 858993459) + ((pbin 8 ((nI s) - ((pbin 8 (nI s) 1) &&& 1431655765)) 2) &&& 858993459)) + (pbin 8 ((((nI s) - ((pbin 8 (nI s) 1) &&& 1431655765)) &&& 858993459) + ((pbin 8 ((nI s) - ((pbin 8 (nI s) 1) &&& 1431655765)) 2) &&& 858993459)) 4)) &&& 252645135) + (pbin 8 ((((((nI s) - ((pbin 8 (nI s) 1) &&& 1431655765)) &&& 858993459) + ((pbin 8 ((nI s) - ((pbin 8 (nI s) 1) &&& 1431655765)) 2) &&& 858993459)) + (pbin 8 ((((nI s) - ((pbin 8 (nI s) 1) &&& 1431655765)) &&& 858993459) + ((pbin 8 ((nI s) - ((pbin 8 (nI s) 1) &&& 1431655765)) 2) &&& 858993459)) 4)) &&& 252645135) 8)) + (pbin 8 (((((((nI s) - ((pbin 8 (nI s) 1) &&& 1431655765)) &&& 858993459) + ((pbin 8 ((nI s) - ((pbin 8 (nI s) 1) &&& 1431655765)) 2) &&& 858993459)) + (pbin 8 ((((nI s) - ((pbin 8 (nI s) 1) &&& 1431655765)) &&& 858993459) + ((pbin 8 ((nI s) - ((pbin 8 (nI s) 1) &&& 1431655765)) 2) &&& 858993459)) 4)) &&& 252645135) + (pbin 8 ((((((nI s) - ((pbin 8 (nI s) 1) &&& 1431655765)) &&& 858993459) + ((pbin 8 ((nI s) - ((pbin 8 (nI s) 1) &&& 1431655765)) 2) &&& 858993459)) + (pbin 8 ((((nI s) - ((pbin 8 (nI s) 1) &&& 1431655765)) &&& 858993459) + ((pbin 8 ((nI s) - ((pbin 8 (nI s) 1) &&& 1431655765)) 2) &&& 858993459)) 4)) &&& 252645135) 8)) 16)) &&& 63) = nI (pcN s) := by decide +kernel
  refine mcall_i (mq79 (cu := [])).2.2 rfl (vc79_0 (mcall d) (nI s) z f _ ?_)
  rw [key s hs]
/-- doors as they are told -/
def DRt (n : Nat) (w b : Nat → Nat) (g : FA) : Prop := ∀ j, j < n → 1 ≤ w j ∧ w j ≤ 50 ∧ b j ≤ 200 ∧ g j = nI (w j * 256 + b j)
def RowS (w b : Nat → Nat) (n m : Nat) (g : FA) : Prop := ∀ s, s < m → g s = if stk w b n s = true then nI (Wn w s n) else -1
theorem nI_n1 {a : Nat} (ha : a < 2147483648) : ¬ nI a = -1 := im1n (by rw [I_nI ha]; omega)
theorem cs26 (d : Nat) (x2 x3 : Int32) {z : Nat → Int32} {f : Nat → FA} {n s : Nat} {w b : Nat → Nat} (hz : z 13 = nI n) (hn : n ≤ 8) (hD : DRt n w b (f 14)) (hs : s < 256) (h0 : ¬ s = 0) : ∀ t i, i + t = n → ∀ g, RowS w b n s g → g s = (if exB (lwB w b n s) i = true then nI (Wn w s n) else -1) → ∀ o6 o7 o8, ∃ g' p6 p7 p8, RowS w b n s g' ∧ g' s = (if exB (lwB w b n s) n = true then nI (Wn w s n) else -1) ∧ ∀ res, RC (mcall (d + 1)) (mP 111) 26 [some (vR 21), some (vR 13), some (vI x2), some (vI x3), some (vI (nI s)), some (vI (nI n)), p6, p7, p8] [] (LT u z (uA f 22 g')) res → RC (mcall (d + 1)) (mP 111) 26 [some (vR 21), some (vR 13), some (vI x2), some (vI x3), some (vI (nI s)), some (vI (nI i)), o6, o7, o8] [] (LT u z (uA f 22 g)) res := by
  intro t
  induction t with
  | zero =>
    intro i hi g h1 h2 o6 o7 o8
    obtain rfl : i = n := by omega
    exact ⟨g, o6, o7, o8, h1, h2, fun res h => h⟩
  | succ t ih =>
    intro i hi g h1 h2 o6 o7 o8
    obtain ⟨w1, w5, b2, e14⟩ := hD i (by omega)
    have hit := c_it5 (u := u) d (f := uA f 22 g) hz hn (k := i) (by omega)
    rw [uA_ne (show (14 : Nat) ≠ 22 by decide), e14] at hit
    have ed : nI (w i * 256 + b i) / 256 = nI (w i) := by
      rw [ndiv (a := w i * 256 + b i) (b := 256) rfl (by omega) (by omega) (by omega)]
      congr 1
      omega
    have er : nI (w i * 256 + b i) - nI (w i) * 256 = nI (b i) := by
      rw [← ed, nrem (a := w i * 256 + b i) (b := 256) rfl (by omega) (by omega) (by omega)]
      congr 1
      omega
    have ec := rb_code s hs i (by omega)
    have rle : rb s i ≤ s := by
      unfold rb
      split
      · exact Nat.sub_le _ _
      · exact Nat.le_refl _
    have step : ∀ g1, RowS w b n s g1 → g1 s = (if exB (lwB w b n s) (i + 1) = true then nI (Wn w s n) else -1) → ∃ g' p6 p7 p8, RowS w b n s g' ∧ g' s = (if exB (lwB w b n s) n = true then nI (Wn w s n) else -1) ∧ ∀ res, RC (mcall (d + 1)) (mP 111) 26 [some (vR 21), some (vR 13), some (vI x2), some (vI x3), some (vI (nI s)), some (vI (nI n)), p6, p7, p8] [] (LT u z (uA f 22 g')) res → RC (mcall (d + 1)) (mP 111) 26 [some (vR 21), some (vR 13), some (vI x2), some (vI x3), some (vI (nI s)), some (vI (nI (i + 1))), some (vI (nI (rb s i))), some (vI (nI (w i))), some (vI (nI (b i)))] [] (LT u z (uA f 22 g1)) res := fun g1 a1 a2 => ih (i + 1) (by omega) g1 a1 a2 _ _ _
    have same : lwB w b n s i = false → g s = (if exB (lwB w b n s) (i + 1) = true then nI (Wn w s n) else -1) := fun hl => by
      show _ = if (exB (lwB w b n s) i || lwB w b n s i) = true then _ else _
      rw [hl, Bool.or_false]
      exact h2
    have hin : ¬ I (nI n) ≤ I (nI i) := by rw [I_nI (n := n) (by omega), I_nI (n := i) (by omega)]; omega
    have ps : pin (nI s) 401 = true := pin_nI (by omega) (by omega)
    have pr : pin (nI (rb s i)) 401 = true := pin_nI (by omega) (by omega)
    have xr : ix (nI (rb s i)) = rb s i := ix_nI (by omega)
    cases hb : bt s i with
    | false =>
      have hr := rb_ge s hs i (by omega) hb
      have hl : lwB w b n s i = false := by
        unfold lwB
        rw [hb]
        rfl
      obtain ⟨g', p6, p7, p8, k1, k2, k3⟩ := step g h1 (same hl)
      refine ⟨g', p6, p7, p8, k1, k2, fun res h => vcc26_111_26 _ _ _ _ _ _ _ _ _ _ _ ⟨fun q => absurd (by rw [← hz]; exact q) hin, fun _ => ⟨_, _, _, hit, by decide, _, _, _, hit, by decide, ?_⟩⟩⟩
      rw [ed, er, ec, show nI i + 1 = nI (i + 1) from nI_add i 1]
      exact ⟨fun _ => k3 res h, fun q => absurd q (by rw [hr]; omega)⟩
    | true =>
      obtain ⟨r1, r2, r3⟩ := rb_lt s hs i (by omega) hb
      have gr := h1 (rb s i) r1
      have irs : I (nI (rb s i)) < I (nI s) := by rw [I_nI (n := rb s i) (by omega), I_nI (n := s) (by omega)]; omega
      have wle := Wn_le (w := w) (s := rb s i) n (fun i hi => (hD i hi).2.1)
      cases hst : stk w b n (rb s i) with
      | false =>
        have hl : lwB w b n s i = false := by
          unfold lwB
          rw [hst, Bool.false_and, Bool.and_false]
        rw [hst, if_neg (by decide)] at gr
        obtain ⟨g', p6, p7, p8, k1, k2, k3⟩ := step g h1 (same hl)
        refine ⟨g', p6, p7, p8, k1, k2, fun res h => vcc26_111_26 _ _ _ _ _ _ _ _ _ _ _ ⟨fun q => absurd (by rw [← hz]; exact q) hin, fun _ => ⟨_, _, _, hit, by decide, _, _, _, hit, by decide, ?_⟩⟩⟩
        rw [ed, er, ec, show nI i + 1 = nI (i + 1) from nI_add i 1, uA_self, xr, gr]
        exact ⟨fun q => by omega, fun _ => ⟨pr, fun _ => k3 res h, fun q => absurd rfl q⟩⟩
      | true =>
        rw [hst, if_pos rfl] at gr
        by_cases hw : Wn w (rb s i) n ≤ b i
        · have hl : lwB w b n s i = true := by
            unfold lwB
            rw [hb, hst, decide_eq_true hw]
            rfl
          obtain ⟨g', p6, p7, p8, k1, k2, k3⟩ := step (upd g s (nI (Wn w s n))) (fun s' hs' => by rw [pk_un (by omega)]; exact h1 s' hs') (by
            rw [pk_us]
            show _ = if (exB (lwB w b n s) i || lwB w b n s i) = true then _ else _
            rw [hl, Bool.or_true, if_pos rfl])
          refine ⟨g', p6, p7, p8, k1, k2, fun res h => vcc26_111_26 _ _ _ _ _ _ _ _ _ _ _ ⟨fun q => absurd (by rw [← hz]; exact q) hin, fun _ => ⟨_, _, _, hit, by decide, _, _, _, hit, by decide, ?_⟩⟩⟩
          rw [ed, er, ec, show nI i + 1 = nI (i + 1) from nI_add i 1, uA_self, xr, gr, show nI (Wn w (rb s i) n) + nI (w i) = nI (Wn w s n) from by rw [nI_add, ← Wn_rb hs (by omega) hb n hn (by omega)], uA_uA, ix_nI (j := s) (by omega)]
          refine ⟨fun q => by omega, fun _ => ⟨pr, fun q => absurd q (nI_n1 (by omega)), fun _ => ⟨pr, fun q => ?_, fun _ => ⟨pr, ps, k3 res h⟩⟩⟩⟩
          rw [I_nI (n := Wn w (rb s i) n) (by omega), I_nI (n := b i) (by omega)] at q
          omega
        · have hl : lwB w b n s i = false := by
            unfold lwB
            rw [decide_eq_false hw, Bool.and_false, Bool.and_false]
          obtain ⟨g', p6, p7, p8, k1, k2, k3⟩ := step g h1 (same hl)
          refine ⟨g', p6, p7, p8, k1, k2, fun res h => vcc26_111_26 _ _ _ _ _ _ _ _ _ _ _ ⟨fun q => absurd (by rw [← hz]; exact q) hin, fun _ => ⟨_, _, _, hit, by decide, _, _, _, hit, by decide, ?_⟩⟩⟩
          rw [ed, er, ec, show nI i + 1 = nI (i + 1) from nI_add i 1, uA_self, xr, gr]
          refine ⟨fun q => by omega, fun _ => ⟨pr, fun q => absurd q (nI_n1 (by omega)), fun _ => ⟨pr, fun _ => k3 res h, fun q => ?_⟩⟩⟩
          rw [I_nI (n := Wn w (rb s i) n) (by omega), I_nI (n := b i) (by omega)] at q
          omega
theorem cs16 (d : Nat) {z : Nat → Int32} {f : Nat → FA} {n : Nat} {w b : Nat → Nat} (hz : z 13 = nI n) (hn : n ≤ 8) (hD : DRt n w b (f 14)) : ∀ t s, s + t = 2 ^ n → 1 ≤ s → ∀ g, RowS w b n s g → ∀ o5 o6 o7 o8, ∃ g', RC (mcall (d + 1)) (mP 111) 16 [some (vR 21), some (vR 13), some (vI (nI (2 ^ n))), some (vI (nI (mxs (stk w b n) s))), some (vI (nI s)), o5, o6, o7, o8] [] (LT u z (uA f 22 g)) (some (vI (nI (mxs (stk w b n) (2 ^ n)))), LT u z (uA f 22 g')) := by
  have p2 := p2_le n (by omega)
  intro t
  induction t with
  | zero =>
    intro s hs h1 g hg o5 o6 o7 o8
    obtain rfl : s = 2 ^ n := by omega
    exact ⟨g, vcc16_111_16 _ _ _ _ _ _ _ _ _ _ _ ⟨fun _ => rfl, fun q => by omega⟩⟩
  | succ t ih =>
    intro s hs h1 g hg o5 o6 o7 o8
    have s256 : s < 256 := by omega
    obtain ⟨g1, p6, p7, p8, k1, k2, k3⟩ := cs26 (u := u) d (nI (2 ^ n)) (nI (mxs (stk w b n) s)) hz hn hD s256 (by omega) n 0 (by omega) (upd g s (-1)) (fun s' hs' => by rw [pk_un (by omega)]; exact hg s' hs') (by rw [pk_us]; rfl) o6 o7 o8
    have hst : stk w b n s = exB (lwB w b n s) n := by
      rw [stk_eq hn s s256, decide_eq_false (show ¬ s = 0 by omega), Bool.false_or]
    rw [← hst] at k2
    have hg1 : RowS w b n (s + 1) g1 := fun s' hs' => by
      by_cases q : s' = s
      · subst q
        exact k2
      · exact k1 s' (by omega)
    obtain ⟨g', k4⟩ := ih (s + 1) (by omega) (by omega) g1 hg1 (some (vI (nI n))) p6 p7 p8
    refine ⟨g', vcc16_111_16 _ _ _ _ _ _ _ _ _ _ _ ⟨fun q => ?_, fun _ => ⟨pin_nI (by omega) (by omega), ?_⟩⟩⟩
    · rw [I_nI (n := 2 ^ n) (by omega), I_nI (n := s) (by omega)] at q
      omega
    · rw [ix_nI (j := s) (by omega), uA_uA, uA_self]
      refine k3 _ (vcc26_111_26 _ _ _ _ _ _ _ _ _ _ _ ⟨fun _ => ⟨pin_nI (by omega) (by omega), fun q => ?_, fun q => ⟨_, _, _, bitc d s s256, fun q2 => ?_, fun q2 => ?_⟩⟩, fun q => by rw [hz] at q; omega⟩)
      · rw [uA_self, ix_nI (j := s) (by omega), k2] at q
        have hf : ¬ stk w b n s = true := fun c => by
          rw [if_pos c] at q
          have wle := Wn_le (w := w) (s := s) n (fun i hi => (hD i hi).2.1)
          exact nI_n1 (by omega) q
        rw [show mxs (stk w b n) (s + 1) = mxs (stk w b n) s from if_neg hf, ← nI_add s 1] at k4
        exact k4
      · rw [uA_self, ix_nI (j := s) (by omega), k2] at q
        have ht : stk w b n s = true := by
          by_cases c : stk w b n s = true
          · exact c
          · rw [if_neg c] at q
            exact absurd rfl q
        have m1 := mxs_le (stk w b n) s
        have pl := pcN_le s
        rw [I_nI (n := mxs (stk w b n) s) (by omega), I_nI (n := pcN s) (by omega)] at q2
        rw [show mxs (stk w b n) (s + 1) = pcN s from (if_pos ht).trans (by omega), ← nI_add s 1] at k4
        exact k4
      · rw [uA_self, ix_nI (j := s) (by omega), k2] at q
        have ht : stk w b n s = true := by
          by_cases c : stk w b n s = true
          · exact c
          · rw [if_neg c] at q
            exact absurd rfl q
        have m1 := mxs_le (stk w b n) s
        have pl := pcN_le s
        rw [I_nI (n := mxs (stk w b n) s) (by omega), I_nI (n := pcN s) (by omega)] at q2
        rw [show mxs (stk w b n) (s + 1) = mxs (stk w b n) s from (if_pos ht).trans (by omega), ← nI_add s 1] at k4
        exact k4
theorem c_stack (d : Nat) {z : Nat → Int32} {f : Nat → FA} {n : Nat} {w b : Nat → Nat} (hz : z 13 = nI n) (hn : n ≤ 8) (hD : DRt n w b (f 14)) : ∃ f1, (∀ k, k ≠ 22 → f1 k = f k) ∧ mcall (d + 3) 177 [vR 0] (LT u z f) = some (some (vI (nI (mxs (stk w b n) (2 ^ n)))), LT u z f1) := by
  have p1 : 1 ≤ 2 ^ n := Nat.one_le_two_pow
  have s0 : stk w b n 0 = true := rfl
  obtain ⟨g', k1⟩ := cs16 (u := u) d hz hn hD (2 ^ n - 1) 1 (by omega) (Nat.le_refl _) (upd (f 22) 0 0) (fun s hs => by
    obtain rfl : s = 0 := by omega
    rw [pk_us, s0, if_pos rfl]
    have : ∀ m, Wn w 0 m = 0 := by
      intro m
      induction m with
      | zero => rfl
      | succ m ih =>
        show Wn w 0 m + (if bt 0 m = true then w m else 0) = 0
        rw [ih, if_neg (by unfold bt; simp)]
    rw [this n]
    rfl) none none none none
  have e1 : mxs (stk w b n) 1 = 0 := by
    show (if stk w b n 0 = true then max 0 (pcN 0) else 0) = 0
    rw [s0, if_pos rfl]
    rfl
  rw [e1] at k1
  have e0 : ix 0 = 0 := by decide
  have h1 : mcall (d + 2) 111 [vR 21, vR 13] (LT u z f) = some (some (vI (nI (mxs (stk w b n) (2 ^ n)))), LT u z (uA f 22 g')) := mcall_i (mq111 (cu := [])).2.2 rfl (vc111_0 (mcall (d + 1)) none none none none none none none z f _ ⟨fun q => by rw [hz, I_nI (n := n) (by omega)] at q; omega, fun _ => ⟨by decide, by
    rw [hz, sh_code n (by omega), e0]
    exact k1⟩⟩)
  exact ⟨uA f 22 g', fun k hk => uA_ne hk, mcall_i (mq177 (cu := [])).2.2 rfl (vc177_0 (mcall (d + 2)) z f _ ⟨_, _, _, h1, rfl⟩)⟩
end TLs
