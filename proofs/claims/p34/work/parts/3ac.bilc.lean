/-! bills: which sets go together -/
def goB (a b : Nat → Nat) (s : Nat) : Nat → Bool
  | 0 => true
  | n + 1 => goB a b s n && !(bt s (a n) && bt s (b n))
theorem goB_no {a b : Nat → Nat} {s i : Nat} : ∀ {n}, i < n → (bt s (a i) && bt s (b i)) = true → ¬ goB a b s n = true := by
  intro n
  induction n with
  | zero => intro h; omega
  | succ n ih =>
    intro h c hg
    have hg : (goB a b s n && !(bt s (a n) && bt s (b n))) = true := hg
    rw [Bool.and_eq_true] at hg
    by_cases q : i = n
    · subst q
      rw [c] at hg
      exact absurd hg.2 (by decide)
    · exact ih (by omega) c hg.1
theorem both_c : ∀ s, s < 256 → ∀ a, a < 8 → ∀ b, b < 8 → (if (bt s a && bt s b) = true then (nI s &&& ((1 <<< (nI a &&& 31)) ||| (1 <<< (nI b &&& 31)))) = ((1 <<< (nI a &&& 31)) ||| (1 <<< (nI b &&& 31))) else ¬ (nI s &&& ((1 <<< (nI a &&& 31)) ||| (1 <<< (nI b &&& 31)))) = ((1 <<< (nI a &&& 31)) ||| (1 <<< (nI b &&& 31)))) := by decide +kernel
/-- the best set so far, how many there are -/
def bwP (p : Nat → Bool) : Nat → Nat × Nat
  | 0 => (0, 0)
  | m + 1 => if p m = true then ((if pcN (bwP p m).1 < pcN m then m else (bwP p m).1), (bwP p m).2 + 1) else bwP p m
theorem bwP_le (p : Nat → Bool) : ∀ m, (bwP p m).1 ≤ m ∧ (bwP p m).2 ≤ m := by
  intro m
  induction m with
  | zero => exact ⟨Nat.le_refl _, Nat.le_refl _⟩
  | succ m ih =>
    show (if p m = true then ((if pcN (bwP p m).1 < pcN m then m else (bwP p m).1), (bwP p m).2 + 1) else bwP p m).1 ≤ m + 1 ∧ (if p m = true then ((if pcN (bwP p m).1 < pcN m then m else (bwP p m).1), (bwP p m).2 + 1) else bwP p m).2 ≤ m + 1
    by_cases c : p m = true
    · rw [if_pos c]
      refine ⟨?_, by show (bwP p m).2 + 1 ≤ m + 1; omega⟩
      show (if pcN (bwP p m).1 < pcN m then m else (bwP p m).1) ≤ m + 1
      split <;> omega
    · rw [if_neg c]
      omega
theorem bwP_lt (p : Nat → Bool) : ∀ m, 1 ≤ m → (bwP p m).1 < m := by
  intro m
  induction m with
  | zero => intro h; omega
  | succ m ih =>
    intro _
    show (if p m = true then ((if pcN (bwP p m).1 < pcN m then m else (bwP p m).1), (bwP p m).2 + 1) else bwP p m).1 < m + 1
    have h0 := (bwP_le p m).1
    by_cases c : p m = true
    · rw [if_pos c]
      show (if pcN (bwP p m).1 < pcN m then m else (bwP p m).1) < m + 1
      split <;> omega
    · rw [if_neg c]
      omega
def blA (p : Nat → Bool) (x : Int32) : Int32 := if 0 ≤ I x ∧ I x ≤ 2 then (if x = 0 then nI (pcN (bwP p 256).1) else if x = 1 then nI (bwP p 256).1 else nI (bwP p 256).2) else -1
/-- couples as they are told -/
def CPt (n : Nat) (a b : Nat → Nat) (g : FA) : Prop := ∀ j, j < n → a j < 8 ∧ b j < 8 ∧ a j ≠ b j ∧ g j = nI (a j * 256 + b j)
theorem dec_a {a b : Nat} (ha : a < 8) (hb : b < 8) : nI (a * 256 + b) / 256 = nI a ∧ nI (a * 256 + b) - nI (a * 256 + b) / 256 * 256 = nI b := by
  constructor
  · rw [ndiv (a := a * 256 + b) (b := 256) rfl (by omega) (by omega) (by omega)]
    congr 1
    omega
  · rw [nrem (a := a * 256 + b) (b := 256) rfl (by omega) (by omega) (by omega)]
    congr 1
    omega
section TLs
variable {u : Nat → Option Nat}
set_option maxRecDepth 100000 in
theorem b79_1 (call : QC FA) (x0 : Int32) (L : QH FA) (F : Nat) : rnG call 79 (F + 14) 0 [some (vI x0)] [] L = rnG call 79 F 14 [some (vI (x0 - ((pbin 8 x0 1) &&& 1431655765)))] [vI (pbin 8 (x0 - ((pbin 8 x0 1) &&& 1431655765)) 2), vI ((x0 - ((pbin 8 x0 1) &&& 1431655765)) &&& 858993459)] L := rfl
set_option maxRecDepth 100000 in
theorem b79_2 (call : QC FA) (x0 : Int32) (s0 : Int32) (s1 : Int32) (L : QH FA) (F : Nat) : rnG call 79 (F + 14) 14 [some (vI x0)] [vI s0, vI s1] L = rnG call 79 F 28 [some (vI (((s1 + (s0 &&& 858993459)) + (pbin 8 (s1 + (s0 &&& 858993459)) 4)) &&& 252645135))] [vI (((s1 + (s0 &&& 858993459)) + (pbin 8 (s1 + (s0 &&& 858993459)) 4)) &&& 252645135), vI (((s1 + (s0 &&& 858993459)) + (pbin 8 (s1 + (s0 &&& 858993459)) 4)) &&& 252645135)] L := rfl
set_option maxRecDepth 100000 in
theorem b79_3 (call : QC FA) (x0 : Int32) (s0 : Int32) (s1 : Int32) (L : QH FA) (F : Nat) : rnG call 79 (F + 13) 28 [some (vI x0)] [vI s0, vI s1] L = rnG call 79 F 41 [some (vI ((s1 + (pbin 8 s0 8)) + (pbin 8 (s1 + (pbin 8 s0 8)) 16)))] [vI (((s1 + (pbin 8 s0 8)) + (pbin 8 (s1 + (pbin 8 s0 8)) 16)) &&& 63)] L := rfl
set_option maxRecDepth 100000 in
theorem b79_4 (call : QC FA) (x : Int32) (ls : List (Option PV)) (L : QH FA) (F : Nat) : rnG call 79 (F + 1) 41 ls [vI x] L = some (some (vI x), L) := rfl
theorem vc79_0 (call : QC FA) (x0 : Int32) (z : Nat → Int32) (f : Nat → FA) (res : Option PV × QH FA) (H : res = (some (vI ((((((((x0 - ((pbin 8 x0 1) &&& 1431655765)) &&& 858993459) + ((pbin 8 (x0 - ((pbin 8 x0 1) &&& 1431655765)) 2) &&& 858993459)) + (pbin 8 (((x0 - ((pbin 8 x0 1) &&& 1431655765)) &&& 858993459) + ((pbin 8 (x0 - ((pbin 8 x0 1) &&& 1431655765)) 2) &&& 858993459)) 4)) &&& 252645135) + (pbin 8 (((((x0 - ((pbin 8 x0 1) &&& 1431655765)) &&& 858993459) + ((pbin 8 (x0 - ((pbin 8 x0 1) &&& 1431655765)) 2) &&& 858993459)) + (pbin 8 (((x0 - ((pbin 8 x0 1) &&& 1431655765)) &&& 858993459) + ((pbin 8 (x0 - ((pbin 8 x0 1) &&& 1431655765)) 2) &&& 858993459)) 4)) &&& 252645135) 8)) + (pbin 8 ((((((x0 - ((pbin 8 x0 1) &&& 1431655765)) &&& 858993459) + ((pbin 8 (x0 - ((pbin 8 x0 1) &&& 1431655765)) 2) &&& 858993459)) + (pbin 8 (((x0 - ((pbin 8 x0 1) &&& 1431655765)) &&& 858993459) + ((pbin 8 (x0 - ((pbin 8 x0 1) &&& 1431655765)) 2) &&& 858993459)) 4)) &&& 252645135) + (pbin 8 (((((x0 - ((pbin 8 x0 1) &&& 1431655765)) &&& 858993459) + ((pbin 8 (x0 - ((pbin 8 x0 1) &&& 1431655765)) 2) &&& 858993459)) + (pbin 8 (((x0 - ((pbin 8 x0 1) &&& 1431655765)) &&& 858993459) + ((pbin 8 (x0 - ((pbin 8 x0 1) &&& 1431655765)) 2) &&& 858993459)) 4)) &&& 252645135) 8)) 16)) &&& 63)), LT u z f)) : RC call (mP 79) 0 [some (vI x0)] [] (LT u z f) res := by
  refine rc_b (i' := 14) (ls' := [some (vI (x0 - ((pbin 8 x0 1) &&& 1431655765)))]) (st' := [vI (pbin 8 (x0 - ((pbin 8 x0 1) &&& 1431655765)) 2), vI ((x0 - ((pbin 8 x0 1) &&& 1431655765)) &&& 858993459)]) (L' := LT u z f) 14 (b79_1 call x0 _) ?_
  refine rc_b (i' := 28) (ls' := [some (vI (((((x0 - ((pbin 8 x0 1) &&& 1431655765)) &&& 858993459) + ((pbin 8 (x0 - ((pbin 8 x0 1) &&& 1431655765)) 2) &&& 858993459)) + (pbin 8 (((x0 - ((pbin 8 x0 1) &&& 1431655765)) &&& 858993459) + ((pbin 8 (x0 - ((pbin 8 x0 1) &&& 1431655765)) 2) &&& 858993459)) 4)) &&& 252645135))]) (st' := [vI (((((x0 - ((pbin 8 x0 1) &&& 1431655765)) &&& 858993459) + ((pbin 8 (x0 - ((pbin 8 x0 1) &&& 1431655765)) 2) &&& 858993459)) + (pbin 8 (((x0 - ((pbin 8 x0 1) &&& 1431655765)) &&& 858993459) + ((pbin 8 (x0 - ((pbin 8 x0 1) &&& 1431655765)) 2) &&& 858993459)) 4)) &&& 252645135), vI (((((x0 - ((pbin 8 x0 1) &&& 1431655765)) &&& 858993459) + ((pbin 8 (x0 - ((pbin 8 x0 1) &&& 1431655765)) 2) &&& 858993459)) + (pbin 8 (((x0 - ((pbin 8 x0 1) &&& 1431655765)) &&& 858993459) + ((pbin 8 (x0 - ((pbin 8 x0 1) &&& 1431655765)) 2) &&& 858993459)) 4)) &&& 252645135)]) (L' := LT u z f) 14 (b79_2 call (x0 - ((pbin 8 x0 1) &&& 1431655765)) (pbin 8 (x0 - ((pbin 8 x0 1) &&& 1431655765)) 2) ((x0 - ((pbin 8 x0 1) &&& 1431655765)) &&& 858993459) _) ?_
  refine rc_b (i' := 41) (ls' := [some (vI (((((((x0 - ((pbin 8 x0 1) &&& 1431655765)) &&& 858993459) + ((pbin 8 (x0 - ((pbin 8 x0 1) &&& 1431655765)) 2) &&& 858993459)) + (pbin 8 (((x0 - ((pbin 8 x0 1) &&& 1431655765)) &&& 858993459) + ((pbin 8 (x0 - ((pbin 8 x0 1) &&& 1431655765)) 2) &&& 858993459)) 4)) &&& 252645135) + (pbin 8 (((((x0 - ((pbin 8 x0 1) &&& 1431655765)) &&& 858993459) + ((pbin 8 (x0 - ((pbin 8 x0 1) &&& 1431655765)) 2) &&& 858993459)) + (pbin 8 (((x0 - ((pbin 8 x0 1) &&& 1431655765)) &&& 858993459) + ((pbin 8 (x0 - ((pbin 8 x0 1) &&& 1431655765)) 2) &&& 858993459)) 4)) &&& 252645135) 8)) + (pbin 8 ((((((x0 - ((pbin 8 x0 1) &&& 1431655765)) &&& 858993459) + ((pbin 8 (x0 - ((pbin 8 x0 1) &&& 1431655765)) 2) &&& 858993459)) + (pbin 8 (((x0 - ((pbin 8 x0 1) &&& 1431655765)) &&& 858993459) + ((pbin 8 (x0 - ((pbin 8 x0 1) &&& 1431655765)) 2) &&& 858993459)) 4)) &&& 252645135) + (pbin 8 (((((x0 - ((pbin 8 x0 1) &&& 1431655765)) &&& 858993459) + ((pbin 8 (x0 - ((pbin 8 x0 1) &&& 1431655765)) 2) &&& 858993459)) + (pbin 8 (((x0 - ((pbin 8 x0 1) &&& 1431655765)) &&& 858993459) + ((pbin 8 (x0 - ((pbin 8 x0 1) &&& 1431655765)) 2) &&& 858993459)) 4)) &&& 252645135) 8)) 16)))]) (st' := [vI ((((((((x0 - ((pbin 8 x0 1) &&& 1431655765)) &&& 858993459) + ((pbin 8 (x0 - ((pbin 8 x0 1) &&& 1431655765)) 2) &&& 858993459)) + (pbin 8 (((x0 - ((pbin 8 x0 1) &&& 1431655765)) &&& 858993459) + ((pbin 8 (x0 - ((pbin 8 x0 1) &&& 1431655765)) 2) &&& 858993459)) 4)) &&& 252645135) + (pbin 8 (((((x0 - ((pbin 8 x0 1) &&& 1431655765)) &&& 858993459) + ((pbin 8 (x0 - ((pbin 8 x0 1) &&& 1431655765)) 2) &&& 858993459)) + (pbin 8 (((x0 - ((pbin 8 x0 1) &&& 1431655765)) &&& 858993459) + ((pbin 8 (x0 - ((pbin 8 x0 1) &&& 1431655765)) 2) &&& 858993459)) 4)) &&& 252645135) 8)) + (pbin 8 ((((((x0 - ((pbin 8 x0 1) &&& 1431655765)) &&& 858993459) + ((pbin 8 (x0 - ((pbin 8 x0 1) &&& 1431655765)) 2) &&& 858993459)) + (pbin 8 (((x0 - ((pbin 8 x0 1) &&& 1431655765)) &&& 858993459) + ((pbin 8 (x0 - ((pbin 8 x0 1) &&& 1431655765)) 2) &&& 858993459)) 4)) &&& 252645135) + (pbin 8 (((((x0 - ((pbin 8 x0 1) &&& 1431655765)) &&& 858993459) + ((pbin 8 (x0 - ((pbin 8 x0 1) &&& 1431655765)) 2) &&& 858993459)) + (pbin 8 (((x0 - ((pbin 8 x0 1) &&& 1431655765)) &&& 858993459) + ((pbin 8 (x0 - ((pbin 8 x0 1) &&& 1431655765)) 2) &&& 858993459)) 4)) &&& 252645135) 8)) 16)) &&& 63)]) (L' := LT u z f) 13 (b79_3 call (((((x0 - ((pbin 8 x0 1) &&& 1431655765)) &&& 858993459) + ((pbin 8 (x0 - ((pbin 8 x0 1) &&& 1431655765)) 2) &&& 858993459)) + (pbin 8 (((x0 - ((pbin 8 x0 1) &&& 1431655765)) &&& 858993459) + ((pbin 8 (x0 - ((pbin 8 x0 1) &&& 1431655765)) 2) &&& 858993459)) 4)) &&& 252645135) (((((x0 - ((pbin 8 x0 1) &&& 1431655765)) &&& 858993459) + ((pbin 8 (x0 - ((pbin 8 x0 1) &&& 1431655765)) 2) &&& 858993459)) + (pbin 8 (((x0 - ((pbin 8 x0 1) &&& 1431655765)) &&& 858993459) + ((pbin 8 (x0 - ((pbin 8 x0 1) &&& 1431655765)) 2) &&& 858993459)) 4)) &&& 252645135) (((((x0 - ((pbin 8 x0 1) &&& 1431655765)) &&& 858993459) + ((pbin 8 (x0 - ((pbin 8 x0 1) &&& 1431655765)) 2) &&& 858993459)) + (pbin 8 (((x0 - ((pbin 8 x0 1) &&& 1431655765)) &&& 858993459) + ((pbin 8 (x0 - ((pbin 8 x0 1) &&& 1431655765)) 2) &&& 858993459)) 4)) &&& 252645135) _) ?_
  subst H
  exact rc_ret (b79_4 call _ _ _)
set_option maxRecDepth 100000 in
theorem b107_1 (call : QC FA) (x1 : Int32) (o2 : Option PV) (o3 : Option PV) (L : QH FA) (F : Nat) : rnG call 107 (F + 2) 0 [some (vR 17), some (vI x1), o2, o3] [] L = rnG call 107 F 2 [some (vR 17), some (vI x1), some (vI 0), o3] [] L := rfl
theorem vc107_0 (call : QC FA) (x1 : Int32) (o2 : Option PV) (o3 : Option PV) (z : Nat → Int32) (f : Nat → FA) (res : Option PV × QH FA) (H : RC call (mP 107) 2 [some (vR 17), some (vI x1), some (vI 0), o3] [] (LT u z f) res) : RC call (mP 107) 0 [some (vR 17), some (vI x1), o2, o3] [] (LT u z f) res := by
  refine rc_b (i' := 2) (ls' := [some (vR 17), some (vI x1), some (vI 0), o3]) (st' := []) (L' := LT u z f) 2 (b107_1 call x1 o2 o3 _) ?_
  exact H
set_option maxRecDepth 100000 in
theorem bc2_107_1 (call : QC FA) (x1 : Int32) (x2 : Int32) (o3 : Option PV) (z : Nat → Int32) (f : Nat → FA) (F : Nat) : rnG call 107 (F + 3) 2 [some (vR 17), some (vI x1), some (vI x2), o3] [] (LT u z f) = rnG call 107 F 5 [some (vR 17), some (vI x1), some (vI x2), o3] [vI (z 17), vI x2] (LT u z f) := rfl
set_option maxRecDepth 100000 in
theorem bc2_107_2 (call : QC FA) (x y : Int32) (ls : List (Option PV)) (L : QH FA) (F : Nat) : rnG call 107 (F + 1) 5 ls [vI y, vI x] L = bif pcmp 3 x y then rnG call 107 F 31 ls [] L else rnG call 107 F 6 ls [] L := rfl
set_option maxRecDepth 100000 in
theorem bc2_107_3 (call : QC FA) (x1 : Int32) (x2 : Int32) (o3 : Option PV) (L : QH FA) (F : Nat) : rnG call 107 (F + 1) 31 [some (vR 17), some (vI x1), some (vI x2), o3] [] L = rnG call 107 F 32 [some (vR 17), some (vI x1), some (vI x2), o3] [vI 1] L := rfl
set_option maxRecDepth 100000 in
theorem bc2_107_4 (call : QC FA) (ls : List (Option PV)) (L : QH FA) (F : Nat) : rnG call 107 (F + 1) 32 ls [vI 1] L = some (some (vI 1), L) := rfl
set_option maxRecDepth 100000 in
theorem bc2_107_5 (call : QC FA) (x1 : Int32) (x2 : Int32) (o3 : Option PV) (L : QH FA) (F : Nat) : rnG call 107 (F + 3) 6 [some (vR 17), some (vI x1), some (vI x2), o3] [] L = rnG call 107 F 9 [some (vR 17), some (vI x1), some (vI x2), o3] [vI x2, vR 17, vI 1] L := rfl
set_option maxRecDepth 100000 in
theorem bc2_107_6 (call : QC FA) (a0 : Int32) (s0 : Int32) (ls : List (Option PV)) (z : Nat → Int32) (f : Nat → FA) (F : Nat) : rnG call 107 (F + 1) 9 ls [vI a0, vR 17, vI s0] (LT u z f) = cbd (call 3 [vR 17, vI a0] (LT u z f)) (fun r L' => rnG call 107 F 10 ls (r.toList ++ [vI s0]) L') := pcY (ih := rnG call 107 F) (call := call) (a := 3) (b := 1) (v := 9) (t := 10) (x := 17) (ls := ls) (As := [vI a0]) (st' := [vI s0]) (L := LT u z f) rfl rfl rfl
set_option maxRecDepth 100000 in
theorem bc2_107_7 (call : QC FA) (x1 : Int32) (x2 : Int32) (o3 : Option PV) (s0 : Int32) (s1 : Int32) (L : QH FA) (F : Nat) : rnG call 107 (F + 1) 10 [some (vR 17), some (vI x1), some (vI x2), o3] [vI s0, vI s1] L = rnG call 107 F 11 [some (vR 17), some (vI x1), some (vI x2), o3] [vI 256, vI s0, vI s1] L := rfl
set_option maxRecDepth 100000 in
theorem bc2_107_8 (call : QC FA) (x y : Int32) (s0 : Int32) (ls : List (Option PV)) (L : QH FA) (F : Nat) : rnG call 107 (F + 1) 11 ls [vI y, vI x, vI s0] L = bif pcmp 1 y 0 then rnG call 107 F 12 ls [vI (x / y), vI s0] L else none := rfl
set_option maxRecDepth 100000 in
theorem bc2_107_9 (call : QC FA) (x1 : Int32) (x2 : Int32) (o3 : Option PV) (s0 : Int32) (s1 : Int32) (L : QH FA) (F : Nat) : rnG call 107 (F + 4) 12 [some (vR 17), some (vI x1), some (vI x2), o3] [vI s0, vI s1] L = rnG call 107 F 16 [some (vR 17), some (vI x1), some (vI x2), o3] [vI x2, vR 17, vI 1, vI (s1 <<< (s0 &&& 31))] L := rfl
set_option maxRecDepth 100000 in
theorem bc2_107_10 (call : QC FA) (a0 : Int32) (s0 : Int32) (s1 : Int32) (ls : List (Option PV)) (z : Nat → Int32) (f : Nat → FA) (F : Nat) : rnG call 107 (F + 1) 16 ls [vI a0, vR 17, vI s0, vI s1] (LT u z f) = cbd (call 3 [vR 17, vI a0] (LT u z f)) (fun r L' => rnG call 107 F 17 ls (r.toList ++ [vI s0, vI s1]) L') := pcY (ih := rnG call 107 F) (call := call) (a := 3) (b := 1) (v := 9) (t := 17) (x := 17) (ls := ls) (As := [vI a0]) (st' := [vI s0, vI s1]) (L := LT u z f) rfl rfl rfl
set_option maxRecDepth 100000 in
theorem bc2_107_11 (call : QC FA) (x1 : Int32) (x2 : Int32) (o3 : Option PV) (s0 : Int32) (s1 : Int32) (s2 : Int32) (L : QH FA) (F : Nat) : rnG call 107 (F + 1) 17 [some (vR 17), some (vI x1), some (vI x2), o3] [vI s0, vI s1, vI s2] L = rnG call 107 F 18 [some (vR 17), some (vI x1), some (vI x2), o3] [vI 256, vI s0, vI s1, vI s2] L := rfl
set_option maxRecDepth 100000 in
theorem bc2_107_12 (call : QC FA) (x y : Int32) (s0 : Int32) (s1 : Int32) (ls : List (Option PV)) (L : QH FA) (F : Nat) : rnG call 107 (F + 1) 18 ls [vI y, vI x, vI s0, vI s1] L = bif pcmp 1 y 0 then rnG call 107 F 19 ls [vI (x - x / y * y), vI s0, vI s1] L else none := rfl
set_option maxRecDepth 100000 in
theorem bc2_107_13 (call : QC FA) (x1 : Int32) (x2 : Int32) (o3 : Option PV) (s0 : Int32) (s1 : Int32) (s2 : Int32) (L : QH FA) (F : Nat) : rnG call 107 (F + 7) 19 [some (vR 17), some (vI x1), some (vI x2), o3] [vI s0, vI s1, vI s2] L = rnG call 107 F 26 [some (vR 17), some (vI x1), some (vI x2), some (vI (s2 ||| (s1 <<< (s0 &&& 31))))] [vI (s2 ||| (s1 <<< (s0 &&& 31))), vI (x1 &&& (s2 ||| (s1 <<< (s0 &&& 31))))] L := rfl
set_option maxRecDepth 100000 in
theorem bc2_107_14 (call : QC FA) (x y : Int32) (ls : List (Option PV)) (L : QH FA) (F : Nat) : rnG call 107 (F + 1) 26 ls [vI y, vI x] L = bif pcmp 1 x y then rnG call 107 F 29 ls [] L else rnG call 107 F 27 ls [] L := rfl
set_option maxRecDepth 100000 in
theorem bc2_107_15 (call : QC FA) (x1 : Int32) (x2 : Int32) (x3 : Int32) (L : QH FA) (F : Nat) : rnG call 107 (F + 1) 29 [some (vR 17), some (vI x1), some (vI x2), some (vI x3)] [] L = rnG call 107 F 30 [some (vR 17), some (vI x1), some (vI (x2 + 1)), some (vI x3)] [] L := rfl
set_option maxRecDepth 100000 in
theorem bc2_107_16 (call : QC FA) (x1 : Int32) (x2 : Int32) (x3 : Int32) (L : QH FA) (F : Nat) : rnG call 107 (F + 1) 30 [some (vR 17), some (vI x1), some (vI x2), some (vI x3)] [] L = rnG call 107 F 2 [some (vR 17), some (vI x1), some (vI x2), some (vI x3)] [] L := rfl
set_option maxRecDepth 100000 in
theorem bc2_107_17 (call : QC FA) (x1 : Int32) (x2 : Int32) (x3 : Int32) (L : QH FA) (F : Nat) : rnG call 107 (F + 1) 27 [some (vR 17), some (vI x1), some (vI x2), some (vI x3)] [] L = rnG call 107 F 28 [some (vR 17), some (vI x1), some (vI x2), some (vI x3)] [vI 0] L := rfl
set_option maxRecDepth 100000 in
theorem bc2_107_18 (call : QC FA) (ls : List (Option PV)) (L : QH FA) (F : Nat) : rnG call 107 (F + 1) 28 ls [vI 0] L = some (some (vI 0), L) := rfl
theorem vcc2_107_2 (call : QC FA) (x1 : Int32) (x2 : Int32) (o3 : Option PV) (z : Nat → Int32) (f : Nat → FA) (res : Option PV × QH FA) (H : ((I (z 17) ≤ I x2 → res = (some (vI 1), LT u z f)) ∧ (I x2 < I (z 17) → (∃ (r1 : Int32) (z1 : Nat → Int32) (f1 : Nat → FA), call 3 [vR 17, vI x2] (LT u z f) = some (some (vI r1), LT u z1 f1) ∧ (¬ (256 : Int32) = 0 ∧ (∃ (r2 : Int32) (z2 : Nat → Int32) (f2 : Nat → FA), call 3 [vR 17, vI x2] (LT u z1 f1) = some (some (vI r2), LT u z2 f2) ∧ (¬ (256 : Int32) = 0 ∧ ((¬ x1 &&& ((1 <<< ((r1 / 256) &&& 31)) ||| (1 <<< ((r2 - r2 / 256 * 256) &&& 31))) = (1 <<< ((r1 / 256) &&& 31)) ||| (1 <<< ((r2 - r2 / 256 * 256) &&& 31)) → RC call (mP 107) 2 [some (vR 17), some (vI x1), some (vI (x2 + 1)), some (vI ((1 <<< ((r1 / 256) &&& 31)) ||| (1 <<< ((r2 - r2 / 256 * 256) &&& 31))))] [] (LT u z2 f2) res) ∧ (x1 &&& ((1 <<< ((r1 / 256) &&& 31)) ||| (1 <<< ((r2 - r2 / 256 * 256) &&& 31))) = (1 <<< ((r1 / 256) &&& 31)) ||| (1 <<< ((r2 - r2 / 256 * 256) &&& 31)) → res = (some (vI 0), LT u z2 f2)))))))))) : RC call (mP 107) 2 [some (vR 17), some (vI x1), some (vI x2), o3] [] (LT u z f) res := by
  refine rc_b (i' := 5) (ls' := [some (vR 17), some (vI x1), some (vI x2), o3]) (st' := [vI (z 17), vI x2]) (L' := LT u z f) 3 (bc2_107_1 call x1 x2 o3 z f) ?_
  refine rc_if (it := 31) (ie := 6) (ls' := [some (vR 17), some (vI x1), some (vI x2), o3]) (st' := []) (bc2_107_2 call x2 (z 17) _ _) (fun q1 => ?_) (fun q1 => ?_)
  · have H := H.1 (cI3t q1 rfl rfl)
    refine rc_b (i' := 32) (ls' := [some (vR 17), some (vI x1), some (vI x2), o3]) (st' := [vI 1]) (L' := LT u z f) 1 (bc2_107_3 call x1 x2 o3 _) ?_
    subst H
    exact rc_ret (bc2_107_4 call _ _)
  · have H := H.2 (cI3f q1 rfl rfl)
    refine rc_b (i' := 9) (ls' := [some (vR 17), some (vI x1), some (vI x2), o3]) (st' := [vI x2, vR 17, vI 1]) (L' := LT u z f) 3 (bc2_107_5 call x1 x2 o3 _) ?_
    obtain ⟨r1, z1, f1, hc, H⟩ := H
    refine rc_call (t := 10) (ls' := [some (vR 17), some (vI x1), some (vI x2), o3]) (st' := [vI 1]) (bc2_107_6 call x2 1 _ z f) hc ?_
    show RC call (mP 107) 10 [some (vR 17), some (vI x1), some (vI x2), o3] [vI r1, vI 1] (LT u z1 f1) res
    refine rc_b (i' := 11) (ls' := [some (vR 17), some (vI x1), some (vI x2), o3]) (st' := [vI 256, vI r1, vI 1]) (L' := LT u z1 f1) 1 (bc2_107_7 call x1 x2 o3 r1 1 _) ?_
    obtain ⟨g1, H⟩ := H
    refine rc_g (i' := 12) (ls' := [some (vR 17), some (vI x1), some (vI x2), o3]) (st' := [vI (r1 / 256), vI 1]) (L' := LT u z1 f1) (bc2_107_8 call r1 256 1 _ _) (cmp_ne.trans (decide_eq_true g1)) ?_
    refine rc_b (i' := 16) (ls' := [some (vR 17), some (vI x1), some (vI x2), o3]) (st' := [vI x2, vR 17, vI 1, vI (1 <<< ((r1 / 256) &&& 31))]) (L' := LT u z1 f1) 4 (bc2_107_9 call x1 x2 o3 (r1 / 256) 1 _) ?_
    obtain ⟨r2, z2, f2, hc, H⟩ := H
    refine rc_call (t := 17) (ls' := [some (vR 17), some (vI x1), some (vI x2), o3]) (st' := [vI 1, vI (1 <<< ((r1 / 256) &&& 31))]) (bc2_107_10 call x2 1 (1 <<< ((r1 / 256) &&& 31)) _ z1 f1) hc ?_
    show RC call (mP 107) 17 [some (vR 17), some (vI x1), some (vI x2), o3] [vI r2, vI 1, vI (1 <<< ((r1 / 256) &&& 31))] (LT u z2 f2) res
    refine rc_b (i' := 18) (ls' := [some (vR 17), some (vI x1), some (vI x2), o3]) (st' := [vI 256, vI r2, vI 1, vI (1 <<< ((r1 / 256) &&& 31))]) (L' := LT u z2 f2) 1 (bc2_107_11 call x1 x2 o3 r2 1 (1 <<< ((r1 / 256) &&& 31)) _) ?_
    obtain ⟨g1, H⟩ := H
    refine rc_g (i' := 19) (ls' := [some (vR 17), some (vI x1), some (vI x2), o3]) (st' := [vI (r2 - r2 / 256 * 256), vI 1, vI (1 <<< ((r1 / 256) &&& 31))]) (L' := LT u z2 f2) (bc2_107_12 call r2 256 1 (1 <<< ((r1 / 256) &&& 31)) _ _) (cmp_ne.trans (decide_eq_true g1)) ?_
    refine rc_b (i' := 26) (ls' := [some (vR 17), some (vI x1), some (vI x2), some (vI ((1 <<< ((r1 / 256) &&& 31)) ||| (1 <<< ((r2 - r2 / 256 * 256) &&& 31))))]) (st' := [vI ((1 <<< ((r1 / 256) &&& 31)) ||| (1 <<< ((r2 - r2 / 256 * 256) &&& 31))), vI (x1 &&& ((1 <<< ((r1 / 256) &&& 31)) ||| (1 <<< ((r2 - r2 / 256 * 256) &&& 31))))]) (L' := LT u z2 f2) 7 (bc2_107_13 call x1 x2 o3 (r2 - r2 / 256 * 256) 1 (1 <<< ((r1 / 256) &&& 31)) _) ?_
    refine rc_if (it := 29) (ie := 27) (ls' := [some (vR 17), some (vI x1), some (vI x2), some (vI ((1 <<< ((r1 / 256) &&& 31)) ||| (1 <<< ((r2 - r2 / 256 * 256) &&& 31))))]) (st' := []) (bc2_107_14 call (x1 &&& ((1 <<< ((r1 / 256) &&& 31)) ||| (1 <<< ((r2 - r2 / 256 * 256) &&& 31)))) ((1 <<< ((r1 / 256) &&& 31)) ||| (1 <<< ((r2 - r2 / 256 * 256) &&& 31))) _ _) (fun q2 => ?_) (fun q2 => ?_)
    · have H := H.1 (cI1t q2)
      refine rc_b (i' := 30) (ls' := [some (vR 17), some (vI x1), some (vI (x2 + 1)), some (vI ((1 <<< ((r1 / 256) &&& 31)) ||| (1 <<< ((r2 - r2 / 256 * 256) &&& 31))))]) (st' := []) (L' := LT u z2 f2) 1 (bc2_107_15 call x1 x2 ((1 <<< ((r1 / 256) &&& 31)) ||| (1 <<< ((r2 - r2 / 256 * 256) &&& 31))) _) ?_
      refine rc_b (i' := 2) (ls' := [some (vR 17), some (vI x1), some (vI (x2 + 1)), some (vI ((1 <<< ((r1 / 256) &&& 31)) ||| (1 <<< ((r2 - r2 / 256 * 256) &&& 31))))]) (st' := []) (L' := LT u z2 f2) 1 (bc2_107_16 call x1 (x2 + 1) ((1 <<< ((r1 / 256) &&& 31)) ||| (1 <<< ((r2 - r2 / 256 * 256) &&& 31))) _) ?_
      exact H
    · have H := H.2 (cI1f q2)
      refine rc_b (i' := 28) (ls' := [some (vR 17), some (vI x1), some (vI x2), some (vI ((1 <<< ((r1 / 256) &&& 31)) ||| (1 <<< ((r2 - r2 / 256 * 256) &&& 31))))]) (st' := [vI 0]) (L' := LT u z2 f2) 1 (bc2_107_17 call x1 x2 ((1 <<< ((r1 / 256) &&& 31)) ||| (1 <<< ((r2 - r2 / 256 * 256) &&& 31))) _) ?_
      subst H
      exact rc_ret (bc2_107_18 call _ _)
set_option maxRecDepth 100000 in
theorem b118_1 (call : QC FA) (x2 : Int32) (o3 : Option PV) (o4 : Option PV) (o5 : Option PV) (o6 : Option PV) (L : QH FA) (F : Nat) : rnG call 118 (F + 8) 0 [some (vR 21), some (vR 17), some (vI x2), o3, o4, o5, o6] [] L = rnG call 118 F 8 [some (vR 21), some (vR 17), some (vI x2), some (vI ((-1))), some (vI 0), some (vI 0), some (vI 0)] [] L := rfl
theorem vc118_0 (call : QC FA) (x2 : Int32) (o3 : Option PV) (o4 : Option PV) (o5 : Option PV) (o6 : Option PV) (z : Nat → Int32) (f : Nat → FA) (res : Option PV × QH FA) (H : RC call (mP 118) 8 [some (vR 21), some (vR 17), some (vI x2), some (vI ((-1))), some (vI 0), some (vI 0), some (vI 0)] [] (LT u z f) res) : RC call (mP 118) 0 [some (vR 21), some (vR 17), some (vI x2), o3, o4, o5, o6] [] (LT u z f) res := by
  refine rc_b (i' := 8) (ls' := [some (vR 21), some (vR 17), some (vI x2), some (vI ((-1))), some (vI 0), some (vI 0), some (vI 0)]) (st' := []) (L' := LT u z f) 8 (b118_1 call x2 o3 o4 o5 o6 _) ?_
  exact H
set_option maxRecDepth 100000 in
theorem bc8_118_1 (call : QC FA) (x2 : Int32) (x3 : Int32) (x4 : Int32) (x5 : Int32) (x6 : Int32) (L : QH FA) (F : Nat) : rnG call 118 (F + 2) 8 [some (vR 21), some (vR 17), some (vI x2), some (vI x3), some (vI x4), some (vI x5), some (vI x6)] [] L = rnG call 118 F 10 [some (vR 21), some (vR 17), some (vI x2), some (vI x3), some (vI x4), some (vI x5), some (vI x6)] [vI 256, vI x6] L := rfl
set_option maxRecDepth 100000 in
theorem bc8_118_2 (call : QC FA) (x y : Int32) (ls : List (Option PV)) (L : QH FA) (F : Nat) : rnG call 118 (F + 1) 10 ls [vI y, vI x] L = bif pcmp 3 x y then rnG call 118 F 27 ls [] L else rnG call 118 F 11 ls [] L := rfl
set_option maxRecDepth 100000 in
theorem bc8_118_3 (call : QC FA) (x2 : Int32) (x3 : Int32) (x4 : Int32) (x5 : Int32) (x6 : Int32) (L : QH FA) (F : Nat) : rnG call 118 (F + 1) 27 [some (vR 21), some (vR 17), some (vI x2), some (vI x3), some (vI x4), some (vI x5), some (vI x6)] [] L = rnG call 118 F 28 [some (vR 21), some (vR 17), some (vI x2), some (vI x3), some (vI x4), some (vI x5), some (vI x6)] [vI x2] L := rfl
set_option maxRecDepth 100000 in
theorem bc8_118_4 (call : QC FA) (x : Int32) (ls : List (Option PV)) (L : QH FA) (F : Nat) : rnG call 118 (F + 1) 28 ls [vI x] L = bif pcmp 1 x 0 then rnG call 118 F 31 ls [] L else rnG call 118 F 29 ls [] L := rfl
set_option maxRecDepth 100000 in
theorem bc8_118_5 (call : QC FA) (x2 : Int32) (x3 : Int32) (x4 : Int32) (x5 : Int32) (x6 : Int32) (L : QH FA) (F : Nat) : rnG call 118 (F + 2) 31 [some (vR 21), some (vR 17), some (vI x2), some (vI x3), some (vI x4), some (vI x5), some (vI x6)] [] L = rnG call 118 F 33 [some (vR 21), some (vR 17), some (vI x2), some (vI x3), some (vI x4), some (vI x5), some (vI x6)] [vI 1, vI x2] L := rfl
set_option maxRecDepth 100000 in
theorem bc8_118_6 (call : QC FA) (x y : Int32) (ls : List (Option PV)) (L : QH FA) (F : Nat) : rnG call 118 (F + 1) 33 ls [vI y, vI x] L = bif pcmp 1 x y then rnG call 118 F 36 ls [] L else rnG call 118 F 34 ls [] L := rfl
set_option maxRecDepth 100000 in
theorem bc8_118_7 (call : QC FA) (x2 : Int32) (x3 : Int32) (x4 : Int32) (x5 : Int32) (x6 : Int32) (L : QH FA) (F : Nat) : rnG call 118 (F + 1) 36 [some (vR 21), some (vR 17), some (vI x2), some (vI x3), some (vI x4), some (vI x5), some (vI x6)] [] L = rnG call 118 F 37 [some (vR 21), some (vR 17), some (vI x2), some (vI x3), some (vI x4), some (vI x5), some (vI x6)] [vI x5] L := rfl
set_option maxRecDepth 100000 in
theorem bc8_118_8 (call : QC FA) (x : Int32) (ls : List (Option PV)) (L : QH FA) (F : Nat) : rnG call 118 (F + 1) 37 ls [vI x] L = some (some (vI x), L) := rfl
set_option maxRecDepth 100000 in
theorem bc8_118_9 (call : QC FA) (x2 : Int32) (x3 : Int32) (x4 : Int32) (x5 : Int32) (x6 : Int32) (L : QH FA) (F : Nat) : rnG call 118 (F + 2) 34 [some (vR 21), some (vR 17), some (vI x2), some (vI x3), some (vI x4), some (vI x5), some (vI x6)] [] L = rnG call 118 F 37 [some (vR 21), some (vR 17), some (vI x2), some (vI x3), some (vI x4), some (vI x5), some (vI x6)] [vI x4] L := rfl
set_option maxRecDepth 100000 in
theorem bc8_118_10 (call : QC FA) (x2 : Int32) (x3 : Int32) (x4 : Int32) (x5 : Int32) (x6 : Int32) (L : QH FA) (F : Nat) : rnG call 118 (F + 1) 29 [some (vR 21), some (vR 17), some (vI x2), some (vI x3), some (vI x4), some (vI x5), some (vI x6)] [] L = rnG call 118 F 30 [some (vR 21), some (vR 17), some (vI x2), some (vI x3), some (vI x4), some (vI x5), some (vI x6)] [vI x3] L := rfl
set_option maxRecDepth 100000 in
theorem bc8_118_11 (call : QC FA) (x : Int32) (ls : List (Option PV)) (L : QH FA) (F : Nat) : rnG call 118 (F + 1) 30 ls [vI x] L = some (some (vI x), L) := rfl
set_option maxRecDepth 100000 in
theorem bc8_118_12 (call : QC FA) (x2 : Int32) (x3 : Int32) (x4 : Int32) (x5 : Int32) (x6 : Int32) (L : QH FA) (F : Nat) : rnG call 118 (F + 2) 11 [some (vR 21), some (vR 17), some (vI x2), some (vI x3), some (vI x4), some (vI x5), some (vI x6)] [] L = rnG call 118 F 13 [some (vR 21), some (vR 17), some (vI x2), some (vI x3), some (vI x4), some (vI x5), some (vI x6)] [vI x6, vR 17] L := rfl
set_option maxRecDepth 100000 in
theorem bc8_118_13 (call : QC FA) (a1 : Int32) (ls : List (Option PV)) (z : Nat → Int32) (f : Nat → FA) (F : Nat) : rnG call 118 (F + 1) 13 ls [vI a1, vR 17] (LT u z f) = cbd (call 107 [vR 17, vI a1] (LT u z f)) (fun r L' => rnG call 118 F 14 ls (r.toList ++ []) L') := pcZ (ih := rnG call 118 F) (call := call) (a := 107) (b := 2) (t := 14) (ls := ls) (As := [vR 17, vI a1]) (st' := []) (L := LT u z f) rfl rfl
set_option maxRecDepth 100000 in
theorem bc8_118_14 (call : QC FA) (x : Int32) (ls : List (Option PV)) (L : QH FA) (F : Nat) : rnG call 118 (F + 1) 14 ls [vI x] L = bif pcmp 0 x 0 then rnG call 118 F 25 ls [] L else rnG call 118 F 15 ls [] L := rfl
set_option maxRecDepth 100000 in
theorem bc8_118_15 (call : QC FA) (x2 : Int32) (x3 : Int32) (x4 : Int32) (x5 : Int32) (x6 : Int32) (L : QH FA) (F : Nat) : rnG call 118 (F + 1) 25 [some (vR 21), some (vR 17), some (vI x2), some (vI x3), some (vI x4), some (vI x5), some (vI x6)] [] L = rnG call 118 F 26 [some (vR 21), some (vR 17), some (vI x2), some (vI x3), some (vI x4), some (vI x5), some (vI (x6 + 1))] [] L := rfl
set_option maxRecDepth 100000 in
theorem bc8_118_16 (call : QC FA) (x2 : Int32) (x3 : Int32) (x4 : Int32) (x5 : Int32) (x6 : Int32) (L : QH FA) (F : Nat) : rnG call 118 (F + 1) 26 [some (vR 21), some (vR 17), some (vI x2), some (vI x3), some (vI x4), some (vI x5), some (vI x6)] [] L = rnG call 118 F 8 [some (vR 21), some (vR 17), some (vI x2), some (vI x3), some (vI x4), some (vI x5), some (vI x6)] [] L := rfl
set_option maxRecDepth 100000 in
theorem bc8_118_17 (call : QC FA) (x2 : Int32) (x3 : Int32) (x4 : Int32) (x5 : Int32) (x6 : Int32) (L : QH FA) (F : Nat) : rnG call 118 (F + 1) 15 [some (vR 21), some (vR 17), some (vI x2), some (vI x3), some (vI x4), some (vI x5), some (vI x6)] [] L = rnG call 118 F 16 [some (vR 21), some (vR 17), some (vI x2), some (vI x3), some (vI x4), some (vI (x5 + 1)), some (vI x6)] [] L := rfl
set_option maxRecDepth 100000 in
theorem bc8_118_18 (call : QC FA) (x2 : Int32) (x3 : Int32) (x4 : Int32) (x5 : Int32) (x6 : Int32) (L : QH FA) (F : Nat) : rnG call 118 (F + 1) 16 [some (vR 21), some (vR 17), some (vI x2), some (vI x3), some (vI x4), some (vI x5), some (vI x6)] [] L = rnG call 118 F 17 [some (vR 21), some (vR 17), some (vI x2), some (vI x3), some (vI x4), some (vI x5), some (vI x6)] [vI x6] L := rfl
set_option maxRecDepth 100000 in
theorem bc8_118_19 (call : QC FA) (a0 : Int32) (ls : List (Option PV)) (z : Nat → Int32) (f : Nat → FA) (F : Nat) : rnG call 118 (F + 1) 17 ls [vI a0] (LT u z f) = cbd (call 79 [vI a0] (LT u z f)) (fun r L' => rnG call 118 F 18 ls (r.toList ++ []) L') := pcZ (ih := rnG call 118 F) (call := call) (a := 79) (b := 1) (t := 18) (ls := ls) (As := [vI a0]) (st' := []) (L := LT u z f) rfl rfl
set_option maxRecDepth 100000 in
theorem bc8_118_20 (call : QC FA) (x2 : Int32) (x3 : Int32) (x4 : Int32) (x5 : Int32) (x6 : Int32) (s0 : Int32) (L : QH FA) (F : Nat) : rnG call 118 (F + 1) 18 [some (vR 21), some (vR 17), some (vI x2), some (vI x3), some (vI x4), some (vI x5), some (vI x6)] [vI s0] L = rnG call 118 F 19 [some (vR 21), some (vR 17), some (vI x2), some (vI x3), some (vI x4), some (vI x5), some (vI x6)] [vI x3, vI s0] L := rfl
set_option maxRecDepth 100000 in
theorem bc8_118_21 (call : QC FA) (x y : Int32) (ls : List (Option PV)) (L : QH FA) (F : Nat) : rnG call 118 (F + 1) 19 ls [vI y, vI x] L = bif pcmp 5 x y then rnG call 118 F 25 ls [] L else rnG call 118 F 20 ls [] L := rfl
set_option maxRecDepth 100000 in
theorem bc8_118_22 (call : QC FA) (x2 : Int32) (x3 : Int32) (x4 : Int32) (x5 : Int32) (x6 : Int32) (L : QH FA) (F : Nat) : rnG call 118 (F + 1) 20 [some (vR 21), some (vR 17), some (vI x2), some (vI x3), some (vI x4), some (vI x5), some (vI x6)] [] L = rnG call 118 F 21 [some (vR 21), some (vR 17), some (vI x2), some (vI x3), some (vI x4), some (vI x5), some (vI x6)] [vI x6] L := rfl
set_option maxRecDepth 100000 in
theorem bc8_118_23 (call : QC FA) (a0 : Int32) (ls : List (Option PV)) (z : Nat → Int32) (f : Nat → FA) (F : Nat) : rnG call 118 (F + 1) 21 ls [vI a0] (LT u z f) = cbd (call 79 [vI a0] (LT u z f)) (fun r L' => rnG call 118 F 22 ls (r.toList ++ []) L') := pcZ (ih := rnG call 118 F) (call := call) (a := 79) (b := 1) (t := 22) (ls := ls) (As := [vI a0]) (st' := []) (L := LT u z f) rfl rfl
set_option maxRecDepth 100000 in
theorem bc8_118_24 (call : QC FA) (x2 : Int32) (x3 : Int32) (x4 : Int32) (x5 : Int32) (x6 : Int32) (s0 : Int32) (L : QH FA) (F : Nat) : rnG call 118 (F + 3) 22 [some (vR 21), some (vR 17), some (vI x2), some (vI x3), some (vI x4), some (vI x5), some (vI x6)] [vI s0] L = rnG call 118 F 25 [some (vR 21), some (vR 17), some (vI x2), some (vI s0), some (vI x6), some (vI x5), some (vI x6)] [] L := rfl
theorem vcc8_118_8 (call : QC FA) (x2 : Int32) (x3 : Int32) (x4 : Int32) (x5 : Int32) (x6 : Int32) (z : Nat → Int32) (f : Nat → FA) (res : Option PV × QH FA) (H : ((256 ≤ I x6 → ((¬ x2 = 0 → ((¬ x2 = 1 → res = (some (vI x5), LT u z f)) ∧ (x2 = 1 → res = (some (vI x4), LT u z f)))) ∧ (x2 = 0 → res = (some (vI x3), LT u z f)))) ∧ (I x6 < 256 → (∃ (r1 : Int32) (z1 : Nat → Int32) (f1 : Nat → FA), call 107 [vR 17, vI x6] (LT u z f) = some (some (vI r1), LT u z1 f1) ∧ ((r1 = 0 → RC call (mP 118) 8 [some (vR 21), some (vR 17), some (vI x2), some (vI x3), some (vI x4), some (vI x5), some (vI (x6 + 1))] [] (LT u z1 f1) res) ∧ (¬ r1 = 0 → (∃ (r2 : Int32) (z2 : Nat → Int32) (f2 : Nat → FA), call 79 [vI x6] (LT u z1 f1) = some (some (vI r2), LT u z2 f2) ∧ ((I r2 ≤ I x3 → RC call (mP 118) 8 [some (vR 21), some (vR 17), some (vI x2), some (vI x3), some (vI x4), some (vI (x5 + 1)), some (vI (x6 + 1))] [] (LT u z2 f2) res) ∧ (I x3 < I r2 → (∃ (r3 : Int32) (z3 : Nat → Int32) (f3 : Nat → FA), call 79 [vI x6] (LT u z2 f2) = some (some (vI r3), LT u z3 f3) ∧ RC call (mP 118) 8 [some (vR 21), some (vR 17), some (vI x2), some (vI r3), some (vI x6), some (vI (x5 + 1)), some (vI (x6 + 1))] [] (LT u z3 f3) res)))))))))) : RC call (mP 118) 8 [some (vR 21), some (vR 17), some (vI x2), some (vI x3), some (vI x4), some (vI x5), some (vI x6)] [] (LT u z f) res := by
  refine rc_b (i' := 10) (ls' := [some (vR 21), some (vR 17), some (vI x2), some (vI x3), some (vI x4), some (vI x5), some (vI x6)]) (st' := [vI 256, vI x6]) (L' := LT u z f) 2 (bc8_118_1 call x2 x3 x4 x5 x6 _) ?_
  refine rc_if (it := 27) (ie := 11) (ls' := [some (vR 21), some (vR 17), some (vI x2), some (vI x3), some (vI x4), some (vI x5), some (vI x6)]) (st' := []) (bc8_118_2 call x6 256 _ _) (fun q1 => ?_) (fun q1 => ?_)
  · have H := H.1 (cI3t q1 rfl rfl)
    refine rc_b (i' := 28) (ls' := [some (vR 21), some (vR 17), some (vI x2), some (vI x3), some (vI x4), some (vI x5), some (vI x6)]) (st' := [vI x2]) (L' := LT u z f) 1 (bc8_118_3 call x2 x3 x4 x5 x6 _) ?_
    refine rc_if (it := 31) (ie := 29) (ls' := [some (vR 21), some (vR 17), some (vI x2), some (vI x3), some (vI x4), some (vI x5), some (vI x6)]) (st' := []) (bc8_118_4 call x2 _ _) (fun q2 => ?_) (fun q2 => ?_)
    · have H := H.1 (cI1t q2)
      refine rc_b (i' := 33) (ls' := [some (vR 21), some (vR 17), some (vI x2), some (vI x3), some (vI x4), some (vI x5), some (vI x6)]) (st' := [vI 1, vI x2]) (L' := LT u z f) 2 (bc8_118_5 call x2 x3 x4 x5 x6 _) ?_
      refine rc_if (it := 36) (ie := 34) (ls' := [some (vR 21), some (vR 17), some (vI x2), some (vI x3), some (vI x4), some (vI x5), some (vI x6)]) (st' := []) (bc8_118_6 call x2 1 _ _) (fun q3 => ?_) (fun q3 => ?_)
      · have H := H.1 (cI1t q3)
        refine rc_b (i' := 37) (ls' := [some (vR 21), some (vR 17), some (vI x2), some (vI x3), some (vI x4), some (vI x5), some (vI x6)]) (st' := [vI x5]) (L' := LT u z f) 1 (bc8_118_7 call x2 x3 x4 x5 x6 _) ?_
        subst H
        exact rc_ret (bc8_118_8 call _ _ _)
      · have H := H.2 (cI1f q3)
        refine rc_b (i' := 37) (ls' := [some (vR 21), some (vR 17), some (vI x2), some (vI x3), some (vI x4), some (vI x5), some (vI x6)]) (st' := [vI x4]) (L' := LT u z f) 2 (bc8_118_9 call x2 x3 x4 x5 x6 _) ?_
        subst H
        exact rc_ret (bc8_118_8 call _ _ _)
    · have H := H.2 (cI1f q2)
      refine rc_b (i' := 30) (ls' := [some (vR 21), some (vR 17), some (vI x2), some (vI x3), some (vI x4), some (vI x5), some (vI x6)]) (st' := [vI x3]) (L' := LT u z f) 1 (bc8_118_10 call x2 x3 x4 x5 x6 _) ?_
      subst H
      exact rc_ret (bc8_118_11 call _ _ _)
  · have H := H.2 (cI3f q1 rfl rfl)
    refine rc_b (i' := 13) (ls' := [some (vR 21), some (vR 17), some (vI x2), some (vI x3), some (vI x4), some (vI x5), some (vI x6)]) (st' := [vI x6, vR 17]) (L' := LT u z f) 2 (bc8_118_12 call x2 x3 x4 x5 x6 _) ?_
    obtain ⟨r1, z1, f1, hc, H⟩ := H
    refine rc_call (t := 14) (ls' := [some (vR 21), some (vR 17), some (vI x2), some (vI x3), some (vI x4), some (vI x5), some (vI x6)]) (st' := []) (bc8_118_13 call x6 _ z f) hc ?_
    show RC call (mP 118) 14 [some (vR 21), some (vR 17), some (vI x2), some (vI x3), some (vI x4), some (vI x5), some (vI x6)] [vI r1] (LT u z1 f1) res
    refine rc_if (it := 25) (ie := 15) (ls' := [some (vR 21), some (vR 17), some (vI x2), some (vI x3), some (vI x4), some (vI x5), some (vI x6)]) (st' := []) (bc8_118_14 call r1 _ _) (fun q4 => ?_) (fun q4 => ?_)
    · have H := H.1 (cI0t q4)
      refine rc_b (i' := 26) (ls' := [some (vR 21), some (vR 17), some (vI x2), some (vI x3), some (vI x4), some (vI x5), some (vI (x6 + 1))]) (st' := []) (L' := LT u z1 f1) 1 (bc8_118_15 call x2 x3 x4 x5 x6 _) ?_
      refine rc_b (i' := 8) (ls' := [some (vR 21), some (vR 17), some (vI x2), some (vI x3), some (vI x4), some (vI x5), some (vI (x6 + 1))]) (st' := []) (L' := LT u z1 f1) 1 (bc8_118_16 call x2 x3 x4 x5 (x6 + 1) _) ?_
      exact H
    · have H := H.2 (cI0f q4)
      refine rc_b (i' := 16) (ls' := [some (vR 21), some (vR 17), some (vI x2), some (vI x3), some (vI x4), some (vI (x5 + 1)), some (vI x6)]) (st' := []) (L' := LT u z1 f1) 1 (bc8_118_17 call x2 x3 x4 x5 x6 _) ?_
      refine rc_b (i' := 17) (ls' := [some (vR 21), some (vR 17), some (vI x2), some (vI x3), some (vI x4), some (vI (x5 + 1)), some (vI x6)]) (st' := [vI x6]) (L' := LT u z1 f1) 1 (bc8_118_18 call x2 x3 x4 (x5 + 1) x6 _) ?_
      obtain ⟨r2, z2, f2, hc, H⟩ := H
      refine rc_call (t := 18) (ls' := [some (vR 21), some (vR 17), some (vI x2), some (vI x3), some (vI x4), some (vI (x5 + 1)), some (vI x6)]) (st' := []) (bc8_118_19 call x6 _ z1 f1) hc ?_
      show RC call (mP 118) 18 [some (vR 21), some (vR 17), some (vI x2), some (vI x3), some (vI x4), some (vI (x5 + 1)), some (vI x6)] [vI r2] (LT u z2 f2) res
      refine rc_b (i' := 19) (ls' := [some (vR 21), some (vR 17), some (vI x2), some (vI x3), some (vI x4), some (vI (x5 + 1)), some (vI x6)]) (st' := [vI x3, vI r2]) (L' := LT u z2 f2) 1 (bc8_118_20 call x2 x3 x4 (x5 + 1) x6 r2 _) ?_
      refine rc_if (it := 25) (ie := 20) (ls' := [some (vR 21), some (vR 17), some (vI x2), some (vI x3), some (vI x4), some (vI (x5 + 1)), some (vI x6)]) (st' := []) (bc8_118_21 call r2 x3 _ _) (fun q5 => ?_) (fun q5 => ?_)
      · have H := H.1 (cI5t q5 rfl rfl)
        refine rc_b (i' := 26) (ls' := [some (vR 21), some (vR 17), some (vI x2), some (vI x3), some (vI x4), some (vI (x5 + 1)), some (vI (x6 + 1))]) (st' := []) (L' := LT u z2 f2) 1 (bc8_118_15 call x2 x3 x4 (x5 + 1) x6 _) ?_
        refine rc_b (i' := 8) (ls' := [some (vR 21), some (vR 17), some (vI x2), some (vI x3), some (vI x4), some (vI (x5 + 1)), some (vI (x6 + 1))]) (st' := []) (L' := LT u z2 f2) 1 (bc8_118_16 call x2 x3 x4 (x5 + 1) (x6 + 1) _) ?_
        exact H
      · have H := H.2 (cI5f q5 rfl rfl)
        refine rc_b (i' := 21) (ls' := [some (vR 21), some (vR 17), some (vI x2), some (vI x3), some (vI x4), some (vI (x5 + 1)), some (vI x6)]) (st' := [vI x6]) (L' := LT u z2 f2) 1 (bc8_118_22 call x2 x3 x4 (x5 + 1) x6 _) ?_
        obtain ⟨r3, z3, f3, hc, H⟩ := H
        refine rc_call (t := 22) (ls' := [some (vR 21), some (vR 17), some (vI x2), some (vI x3), some (vI x4), some (vI (x5 + 1)), some (vI x6)]) (st' := []) (bc8_118_23 call x6 _ z2 f2) hc ?_
        show RC call (mP 118) 22 [some (vR 21), some (vR 17), some (vI x2), some (vI x3), some (vI x4), some (vI (x5 + 1)), some (vI x6)] [vI r3] (LT u z3 f3) res
        refine rc_b (i' := 25) (ls' := [some (vR 21), some (vR 17), some (vI x2), some (vI r3), some (vI x6), some (vI (x5 + 1)), some (vI x6)]) (st' := []) (L' := LT u z3 f3) 3 (bc8_118_24 call x2 x3 x4 (x5 + 1) x6 r3 _) ?_
        refine rc_b (i' := 26) (ls' := [some (vR 21), some (vR 17), some (vI x2), some (vI r3), some (vI x6), some (vI (x5 + 1)), some (vI (x6 + 1))]) (st' := []) (L' := LT u z3 f3) 1 (bc8_118_15 call x2 r3 x6 (x5 + 1) x6 _) ?_
        refine rc_b (i' := 8) (ls' := [some (vR 21), some (vR 17), some (vI x2), some (vI r3), some (vI x6), some (vI (x5 + 1)), some (vI (x6 + 1))]) (st' := []) (L' := LT u z3 f3) 1 (bc8_118_16 call x2 r3 x6 (x5 + 1) (x6 + 1) _) ?_
        exact H
set_option maxRecDepth 100000 in
theorem b151_1 (call : QC FA) (x1 : Int32) (L : QH FA) (F : Nat) : rnG call 151 (F + 1) 0 [some (vR 0), some (vI x1)] [] L = rnG call 151 F 1 [some (vR 0), some (vI x1)] [vI x1] L := rfl
set_option maxRecDepth 100000 in
theorem b151_2 (call : QC FA) (x : Int32) (ls : List (Option PV)) (L : QH FA) (F : Nat) : rnG call 151 (F + 1) 1 ls [vI x] L = bif pcmp 2 x 0 then rnG call 151 F 5 ls [] L else rnG call 151 F 2 ls [] L := rfl
set_option maxRecDepth 100000 in
theorem b151_3 (call : QC FA) (x1 : Int32) (L : QH FA) (F : Nat) : rnG call 151 (F + 1) 5 [some (vR 0), some (vI x1)] [] L = rnG call 151 F 6 [some (vR 0), some (vI x1)] [vI ((-1))] L := rfl
set_option maxRecDepth 100000 in
theorem b151_4 (call : QC FA) (x : Int32) (ls : List (Option PV)) (L : QH FA) (F : Nat) : rnG call 151 (F + 1) 6 ls [vI x] L = some (some (vI x), L) := rfl
set_option maxRecDepth 100000 in
theorem b151_5 (call : QC FA) (x1 : Int32) (L : QH FA) (F : Nat) : rnG call 151 (F + 2) 2 [some (vR 0), some (vI x1)] [] L = rnG call 151 F 4 [some (vR 0), some (vI x1)] [vI 2, vI x1] L := rfl
set_option maxRecDepth 100000 in
theorem b151_6 (call : QC FA) (x y : Int32) (ls : List (Option PV)) (L : QH FA) (F : Nat) : rnG call 151 (F + 1) 4 ls [vI y, vI x] L = bif pcmp 5 x y then rnG call 151 F 7 ls [] L else rnG call 151 F 5 ls [] L := rfl
set_option maxRecDepth 100000 in
theorem b151_7 (call : QC FA) (x1 : Int32) (z : Nat → Int32) (f : Nat → FA) (F : Nat) : rnG call 151 (F + 6) 7 [some (vR 0), some (vI x1)] [] (LT u z f) = rnG call 151 F 13 [some (vR 0), some (vI x1)] [vI 7, vR 2, vR 21] (LT u z f) := rfl
set_option maxRecDepth 100000 in
theorem b151_8 (call : QC FA) (x : Int32) (ls : List (Option PV)) (z : Nat → Int32) (f : Nat → FA) (F : Nat) : rnG call 151 (F + 1) 13 ls [vI x, vR 2, vR 21] (LT u z f) = bif ((Nat.beq 3 1 || (Nat.beq 3 2 || Nat.beq 3 3)) && pin x 9) then rnG call 151 F 14 ls [.inr (.inl (wT u (ix x))), vR 21] (LT u z f) else none := rfl
set_option maxRecDepth 100000 in
theorem b151_9 (call : QC FA) (x1 : Int32) (L : QH FA) (F : Nat) : rnG call 151 (F + 1) 14 [some (vR 0), some (vI x1)] [vR 17, vR 21] L = rnG call 151 F 15 [some (vR 0), some (vI x1)] [vI x1, vR 17, vR 21] L := rfl
set_option maxRecDepth 100000 in
theorem b151_10 (call : QC FA) (a1 : Int32) (ls : List (Option PV)) (z : Nat → Int32) (f : Nat → FA) (F : Nat) : rnG call 151 (F + 1) 15 ls [vI a1, vR 17, vR 21] (LT u z f) = cbd (call 118 [vR 21, vR 17, vI a1] (LT u z f)) (fun r L' => rnG call 151 F 16 ls (r.toList ++ []) L') := pcY (ih := rnG call 151 F) (call := call) (a := 118) (b := 2) (v := 4) (t := 16) (x := 21) (ls := ls) (As := [vR 17, vI a1]) (st' := []) (L := LT u z f) rfl rfl rfl
set_option maxRecDepth 100000 in
theorem b151_11 (call : QC FA) (x : Int32) (ls : List (Option PV)) (L : QH FA) (F : Nat) : rnG call 151 (F + 1) 16 ls [vI x] L = some (some (vI x), L) := rfl
theorem vc151_0 (call : QC FA) (x1 : Int32) (z : Nat → Int32) (f : Nat → FA) (res : Option PV × QH FA) (H : ((I x1 < 0 → res = (some (vI ((-1))), LT u z f)) ∧ (0 ≤ I x1 → ((I x1 ≤ 2 → (∃ (r1 : Int32) (z1 : Nat → Int32) (f1 : Nat → FA), call 118 [vR 21, vR 17, vI x1] (LT u z f) = some (some (vI r1), LT u z1 f1) ∧ res = (some (vI r1), LT u z1 f1))) ∧ (2 < I x1 → res = (some (vI ((-1))), LT u z f)))))) : RC call (mP 151) 0 [some (vR 0), some (vI x1)] [] (LT u z f) res := by
  refine rc_b (i' := 1) (ls' := [some (vR 0), some (vI x1)]) (st' := [vI x1]) (L' := LT u z f) 1 (b151_1 call x1 _) ?_
  refine rc_if (it := 5) (ie := 2) (ls' := [some (vR 0), some (vI x1)]) (st' := []) (b151_2 call x1 _ _) (fun q1 => ?_) (fun q1 => ?_)
  · have H := H.1 (cI2t q1 rfl rfl)
    refine rc_b (i' := 6) (ls' := [some (vR 0), some (vI x1)]) (st' := [vI ((-1))]) (L' := LT u z f) 1 (b151_3 call x1 _) ?_
    subst H
    exact rc_ret (b151_4 call _ _ _)
  · have H := H.2 (cI2f q1 rfl rfl)
    refine rc_b (i' := 4) (ls' := [some (vR 0), some (vI x1)]) (st' := [vI 2, vI x1]) (L' := LT u z f) 2 (b151_5 call x1 _) ?_
    refine rc_if (it := 7) (ie := 5) (ls' := [some (vR 0), some (vI x1)]) (st' := []) (b151_6 call x1 2 _ _) (fun q2 => ?_) (fun q2 => ?_)
    · have H := H.1 (cI5t q2 rfl rfl)
      refine rc_b (i' := 13) (ls' := [some (vR 0), some (vI x1)]) (st' := [vI 7, vR 2, vR 21]) (L' := LT u z f) 6 (b151_7 call x1 z f) ?_
      refine rc_g (i' := 14) (ls' := [some (vR 0), some (vI x1)]) (st' := [.inr (.inl (wT u (ix 7))), vR 21]) (L' := LT u z f) (b151_8 call 7 _ z f) (by decide) ?_
      show RC call (mP 151) 14 [some (vR 0), some (vI x1)] [vR 17, vR 21] (LT u z f) res
      refine rc_b (i' := 15) (ls' := [some (vR 0), some (vI x1)]) (st' := [vI x1, vR 17, vR 21]) (L' := LT u z f) 1 (b151_9 call x1 _) ?_
      obtain ⟨r1, z1, f1, hc, H⟩ := H
      refine rc_call (t := 16) (ls' := [some (vR 0), some (vI x1)]) (st' := []) (b151_10 call x1 _ z f) hc ?_
      show RC call (mP 151) 16 [some (vR 0), some (vI x1)] [vI r1] (LT u z1 f1) res
      subst H
      exact rc_ret (b151_11 call _ _ _)
    · have H := H.2 (cI5f q2 rfl rfl)
      refine rc_b (i' := 6) (ls' := [some (vR 0), some (vI x1)]) (st' := [vI ((-1))]) (L' := LT u z f) 1 (b151_3 call x1 _) ?_
      subst H
      exact rc_ret (b151_4 call _ _ _)
theorem bitc (d s : Nat) (hs : s < 256) {z : Nat → Int32} {f : Nat → FA} : mcall (d + 1) 79 [vI (nI s)] (LT u z f) = some (some (vI (nI (pcN s))), LT u z f) := by
  have key : ∀ s, s < 256 → (((((((((nI s) - ((pbin 8 (nI s) 1) &&& 1431655765)) &&& 858993459) + ((pbin 8 ((nI s) - ((pbin 8 (nI s) 1) &&& 1431655765)) 2) &&& 858993459)) + (pbin 8 ((((nI s) - ((pbin 8 (nI s) 1) &&& 1431655765)) &&& 858993459) + ((pbin 8 ((nI s) - ((pbin 8 (nI s) 1) &&& 1431655765)) 2) &&& 858993459)) 4)) &&& 252645135) + (pbin 8 ((((((nI s) - ((pbin 8 (nI s) 1) &&& 1431655765)) &&& 858993459) + ((pbin 8 ((nI s) - ((pbin 8 (nI s) 1) &&& 1431655765)) 2) &&& 858993459)) + (pbin 8 ((((nI s) - ((pbin 8 (nI s) 1) &&& 1431655765)) &&& 858993459) + ((pbin 8 ((nI s) - ((pbin 8 (nI s) 1) &&& 1431655765)) 2) &&& 858993459)) 4)) &&& 252645135) 8)) + (pbin 8 (((((((nI s) - ((pbin 8 (nI s) 1) &&& 1431655765)) &&& 858993459) + ((pbin 8 ((nI s) - ((pbin 8 (nI s) 1) &&& 1431655765)) 2) &&& 858993459)) + (pbin 8 ((((nI s) - ((pbin 8 (nI s) 1) &&& 1431655765)) &&& 858993459) + ((pbin 8 ((nI s) - ((pbin 8 (nI s) 1) &&& 1431655765)) 2) &&& 858993459)) 4)) &&& 252645135) + (pbin 8 ((((((nI s) - ((pbin 8 (nI s) 1) &&& 1431655765)) &&& 858993459) + ((pbin 8 ((nI s) - ((pbin 8 (nI s) 1) &&& 1431655765)) 2) &&& 858993459)) + (pbin 8 ((((nI s) - ((pbin 8 (nI s) 1) &&& 1431655765)) &&& 858993459) + ((pbin 8 ((nI s) - ((pbin 8 (nI s) 1) &&& 1431655765)) 2) &&& 858993459)) 4)) &&& 252645135) 8)) 16)) &&& 63) = nI (pcN s) := by decide +kernel
  refine mcall_i (mq79 (cu := [])).2.2 rfl (vc79_0 (mcall d) (nI s) z f _ ?_)
  rw [key s hs]
theorem c_go (d : Nat) {z : Nat → Int32} {f : Nat → FA} {n s : Nat} {a b : Nat → Nat} (hz : z 17 = nI n) (hn : n ≤ 12) (hD : CPt n a b (f 18)) (hs : s < 256) : mcall (d + 2) 107 [vR 17, vI (nI s)] (LT u z f) = some (some (vI (if goB a b s n = true then 1 else 0)), LT u z f) := by
  have lp : ∀ t i, i + t = n → goB a b s i = true → ∀ o3, RC (mcall (d + 1)) (mP 107) 2 [some (vR 17), some (vI (nI s)), some (vI (nI i)), o3] [] (LT u z f) (some (vI (if goB a b s n = true then 1 else 0)), LT u z f) := by
    intro t
    induction t with
    | zero =>
      intro i hi hg o3
      obtain rfl : i = n := by omega
      exact vcc2_107_2 _ _ _ _ _ _ _ ⟨fun _ => by rw [if_pos hg], fun q => by rw [hz] at q; omega⟩
    | succ t ih =>
      intro i hi hg o3
      obtain ⟨a8, b8, ab, e⟩ := hD i (by omega)
      have hit := c_it7 (u := u) d (f := f) hz hn (k := i) (by omega)
      rw [e] at hit
      obtain ⟨e1, e2⟩ := dec_a a8 b8
      have hb := both_c s hs (a i) a8 (b i) b8
      refine vcc2_107_2 _ _ _ _ _ _ _ ⟨fun q => ?_, fun _ => ⟨_, _, _, hit, by decide, _, _, _, hit, by decide, ?_⟩⟩
      · rw [hz, I_nI (n := n) (by omega), I_nI (n := i) (by omega)] at q
        omega
      · rw [e2, e1]
        cases c : (bt s (a i) && bt s (b i)) with
        | true =>
          rw [c, if_pos rfl] at hb
          refine ⟨fun q => absurd hb q, fun _ => ?_⟩
          rw [if_neg (goB_no (by omega) c)]
        | false =>
          rw [c, if_neg (by decide)] at hb
          have h1 := ih (i + 1) (by omega) (by
            show (goB a b s i && !(bt s (a i) && bt s (b i))) = true
            rw [hg, c]
            rfl) (some (vI ((1 <<< (nI (a i) &&& 31)) ||| (1 <<< (nI (b i) &&& 31)))))
          rw [← nI_add i 1] at h1
          exact ⟨fun _ => h1, fun q => absurd q hb⟩
  exact mcall_i (mq107 (cu := [])).2.2 rfl (vc107_0 (mcall (d + 1)) (nI s) none none z f _ (lp n 0 (by omega) rfl none))
theorem c_together (d : Nat) (x2 : Int32) {z : Nat → Int32} {f : Nat → FA} {n : Nat} {a b : Nat → Nat} (hz : z 17 = nI n) (hn : n ≤ 12) (hD : CPt n a b (f 18)) : mcall (d + 3) 118 [vR 21, vR 17, vI x2] (LT u z f) = some (some (vI (if x2 = 0 then nI (pcN (bwP (fun s => goB a b s n) 256).1) else if x2 = 1 then nI (bwP (fun s => goB a b s n) 256).1 else nI (bwP (fun s => goB a b s n) 256).2)), LT u z f) := by
  have lp : ∀ t m, m + t = 256 → 1 ≤ m → RC (mcall (d + 2)) (mP 118) 8 [some (vR 21), some (vR 17), some (vI x2), some (vI (nI (pcN (bwP (fun s => goB a b s n) m).1))), some (vI (nI (bwP (fun s => goB a b s n) m).1)), some (vI (nI (bwP (fun s => goB a b s n) m).2)), some (vI (nI m))] [] (LT u z f) (some (vI (if x2 = 0 then nI (pcN (bwP (fun s => goB a b s n) 256).1) else if x2 = 1 then nI (bwP (fun s => goB a b s n) 256).1 else nI (bwP (fun s => goB a b s n) 256).2)), LT u z f) := by
    intro t
    induction t with
    | zero =>
      intro m hm _
      obtain rfl : m = 256 := by omega
      refine vcc8_118_8 _ _ _ _ _ _ _ _ _ ⟨fun _ => ⟨fun q0 => ⟨fun q1 => by rw [if_neg q0, if_neg q1], fun q1 => by rw [if_neg q0, if_pos q1]⟩, fun q0 => by rw [if_pos q0]⟩, fun q => by rw [I_nI (n := 256) (by omega)] at q; omega⟩
    | succ t ih =>
      intro m hm h1
      have h2 := ih (m + 1) (by omega) (by omega)
      have pb := pcN_le (bwP (fun s => goB a b s n) m).1
      have pm := pcN_le m
      rw [← nI_add m 1] at h2
      refine vcc8_118_8 _ _ _ _ _ _ _ _ _ ⟨fun q => by rw [I_nI (n := m) (by omega)] at q; omega, fun _ => ⟨_, _, _, c_go d hz hn hD (s := m) (by omega), fun q => ?_, fun q => ⟨_, _, _, bitc (d + 1) m (by omega), fun q2 => ?_, fun q2 => ⟨_, _, _, bitc (d + 1) m (by omega), ?_⟩⟩⟩⟩
      · have hg : ¬ goB a b m n = true := fun c => by
          rw [if_pos c] at q
          exact absurd q (by decide)
        rw [show bwP (fun s => goB a b s n) (m + 1) = bwP (fun s => goB a b s n) m from if_neg hg] at h2
        exact h2
      · have hg : goB a b m n = true := by
          by_cases c : goB a b m n = true
          · exact c
          · rw [if_neg c] at q
            exact absurd rfl q
        rw [I_nI (n := pcN m) (by omega), I_nI (n := pcN (bwP (fun s => goB a b s n) m).1) (by omega)] at q2
        rw [show bwP (fun s => goB a b s n) (m + 1) = ((bwP (fun s => goB a b s n) m).1, (bwP (fun s => goB a b s n) m).2 + 1) from (if_pos hg).trans (by rw [if_neg (by omega)]), ← nI_add (bwP (fun s => goB a b s n) m).2 1] at h2
        exact h2
      · have hg : goB a b m n = true := by
          by_cases c : goB a b m n = true
          · exact c
          · rw [if_neg c] at q
            exact absurd rfl q
        rw [I_nI (n := pcN m) (by omega), I_nI (n := pcN (bwP (fun s => goB a b s n) m).1) (by omega)] at q2
        rw [show bwP (fun s => goB a b s n) (m + 1) = (m, (bwP (fun s => goB a b s n) m).2 + 1) from (if_pos hg).trans (by rw [if_pos (by omega)]), ← nI_add (bwP (fun s => goB a b s n) m).2 1] at h2
        exact h2
  have g0 : goB a b 0 n = true := by
    have : ∀ m, goB a b 0 m = true := by
      intro m
      induction m with
      | zero => rfl
      | succ m ih =>
        show (goB a b 0 m && !(bt 0 (a m) && bt 0 (b m))) = true
        rw [ih, show bt 0 (a m) = false from by unfold bt; simp]
        rfl
    exact this n
  have h1 := lp 255 1 rfl (Nat.le_refl _)
  rw [show bwP (fun s => goB a b s n) 1 = (0, 1) from (if_pos g0).trans rfl] at h1
  refine mcall_i (mq118 (cu := [])).2.2 rfl (vc118_0 (mcall (d + 2)) x2 none none none none z f _ (vcc8_118_8 _ _ _ _ _ _ _ _ _ ⟨fun q => absurd q (by decide), fun _ => ⟨_, _, _, c_go d hz hn hD (s := 0) (by omega), fun q => ?_, fun _ => ⟨_, _, _, bitc (d + 1) 0 (by omega), fun q2 => absurd q2 (by decide), fun _ => ⟨_, _, _, bitc (d + 1) 0 (by omega), ?_⟩⟩⟩⟩))
  · rw [if_pos g0] at q
    exact absurd q (by decide)
  · exact h1
theorem c_bills (d : Nat) (x : Int32) {z : Nat → Int32} {f : Nat → FA} {n : Nat} {a b : Nat → Nat} (hz : z 17 = nI n) (hn : n ≤ 12) (hD : CPt n a b (f 18)) : mcall (d + 4) 151 [vR 0, vI x] (LT u z f) = some (some (vI (blA (fun s => goB a b s n) x)), LT u z f) := by
  unfold blA
  refine mcall_i (mq151 (cu := [])).2.2 rfl (vc151_0 (mcall (d + 3)) x z f _ ⟨fun q => ?_, fun q1 => ⟨fun q2 => ⟨_, _, _, c_together d x hz hn hD, ?_⟩, fun q => ?_⟩⟩)
  · rw [if_neg (by omega)]
  · rw [if_pos ⟨q1, q2⟩]
  · rw [if_neg (by omega)]
end TLs
