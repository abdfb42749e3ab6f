/-! lantern: what it shows, told by recursion -/
/-- the highest so far, how many are shown, the last -/
def lnS (h : Int32) (x k : Int32) (s : Int32 × Int32 × Int32) : Int32 × Int32 × Int32 := if I x ≤ I s.1 then s else if I h < I x then (x, s.2.1, s.2.2) else (x, s.2.1 + 1, k)
def lnF (h : Int32) (g : FA) : Nat → Int32 × Int32 × Int32
  | 0 => (-1, 0, -1)
  | n + 1 => lnS h (g n) (nI n) (lnF h g n)
theorem lnF_cong {h : Int32} {g g' : FA} : ∀ n, (∀ j, j < n → g' j = g j) → lnF h g' n = lnF h g n := by
  intro n
  induction n with
  | zero => intro _; rfl
  | succ n ih =>
    intro hg
    show lnS h (g' n) (nI n) (lnF h g' n) = lnS h (g n) (nI n) (lnF h g n)
    rw [ih (fun j hj => hg j (by omega)), hg n (by omega)]
def lnA (h w : Int32) (s : Int32 × Int32 × Int32) : Int32 := if w = 0 then s.2.1 else s.2.2
section TLs
variable {u : Nat → Option Nat}
set_option maxRecDepth 100000 in
theorem b115_1 (call : QC FA) (x2 : Int32) (x3 : Int32) (o4 : Option PV) (o5 : Option PV) (o6 : Option PV) (o7 : Option PV) (o8 : Option PV) (L : QH FA) (F : Nat) : rnG call 115 (F + 8) 0 [some (vR 21), some (vR 15), some (vI x2), some (vI x3), o4, o5, o6, o7, o8] [] L = rnG call 115 F 8 [some (vR 21), some (vR 15), some (vI x2), some (vI x3), some (vI ((-1))), some (vI 0), some (vI ((-1))), some (vI 0), o8] [] L := rfl
theorem vc115_0 (call : QC FA) (x2 : Int32) (x3 : Int32) (o4 : Option PV) (o5 : Option PV) (o6 : Option PV) (o7 : Option PV) (o8 : Option PV) (z : Nat → Int32) (f : Nat → FA) (res : Option PV × QH FA) (H : RC call (mP 115) 8 [some (vR 21), some (vR 15), some (vI x2), some (vI x3), some (vI ((-1))), some (vI 0), some (vI ((-1))), some (vI 0), o8] [] (LT u z f) res) : RC call (mP 115) 0 [some (vR 21), some (vR 15), some (vI x2), some (vI x3), o4, o5, o6, o7, o8] [] (LT u z f) res := by
  refine rc_b (i' := 8) (ls' := [some (vR 21), some (vR 15), some (vI x2), some (vI x3), some (vI ((-1))), some (vI 0), some (vI ((-1))), some (vI 0), o8]) (st' := []) (L' := LT u z f) 8 (b115_1 call x2 x3 o4 o5 o6 o7 o8 _) ?_
  exact H
set_option maxRecDepth 100000 in
theorem bc8_115_1 (call : QC FA) (x2 : Int32) (x3 : Int32) (x4 : Int32) (x5 : Int32) (x6 : Int32) (x7 : Int32) (o8 : Option PV) (z : Nat → Int32) (f : Nat → FA) (F : Nat) : rnG call 115 (F + 3) 8 [some (vR 21), some (vR 15), some (vI x2), some (vI x3), some (vI x4), some (vI x5), some (vI x6), some (vI x7), o8] [] (LT u z f) = rnG call 115 F 11 [some (vR 21), some (vR 15), some (vI x2), some (vI x3), some (vI x4), some (vI x5), some (vI x6), some (vI x7), o8] [vI (z 15), vI x7] (LT u z f) := rfl
set_option maxRecDepth 100000 in
theorem bc8_115_2 (call : QC FA) (x y : Int32) (ls : List (Option PV)) (L : QH FA) (F : Nat) : rnG call 115 (F + 1) 11 ls [vI y, vI x] L = bif pcmp 3 x y then rnG call 115 F 29 ls [] L else rnG call 115 F 12 ls [] L := rfl
set_option maxRecDepth 100000 in
theorem bc8_115_3 (call : QC FA) (x2 : Int32) (x3 : Int32) (x4 : Int32) (x5 : Int32) (x6 : Int32) (x7 : Int32) (o8 : Option PV) (L : QH FA) (F : Nat) : rnG call 115 (F + 1) 29 [some (vR 21), some (vR 15), some (vI x2), some (vI x3), some (vI x4), some (vI x5), some (vI x6), some (vI x7), o8] [] L = rnG call 115 F 30 [some (vR 21), some (vR 15), some (vI x2), some (vI x3), some (vI x4), some (vI x5), some (vI x6), some (vI x7), o8] [vI x3] L := rfl
set_option maxRecDepth 100000 in
theorem bc8_115_4 (call : QC FA) (x : Int32) (ls : List (Option PV)) (L : QH FA) (F : Nat) : rnG call 115 (F + 1) 30 ls [vI x] L = bif pcmp 0 x 0 then rnG call 115 F 33 ls [] L else rnG call 115 F 31 ls [] L := rfl
set_option maxRecDepth 100000 in
theorem bc8_115_5 (call : QC FA) (x2 : Int32) (x3 : Int32) (x4 : Int32) (x5 : Int32) (x6 : Int32) (x7 : Int32) (o8 : Option PV) (L : QH FA) (F : Nat) : rnG call 115 (F + 1) 33 [some (vR 21), some (vR 15), some (vI x2), some (vI x3), some (vI x4), some (vI x5), some (vI x6), some (vI x7), o8] [] L = rnG call 115 F 34 [some (vR 21), some (vR 15), some (vI x2), some (vI x3), some (vI x4), some (vI x5), some (vI x6), some (vI x7), o8] [vI x6] L := rfl
set_option maxRecDepth 100000 in
theorem bc8_115_6 (call : QC FA) (x : Int32) (ls : List (Option PV)) (L : QH FA) (F : Nat) : rnG call 115 (F + 1) 34 ls [vI x] L = some (some (vI x), L) := rfl
set_option maxRecDepth 100000 in
theorem bc8_115_7 (call : QC FA) (x2 : Int32) (x3 : Int32) (x4 : Int32) (x5 : Int32) (x6 : Int32) (x7 : Int32) (o8 : Option PV) (L : QH FA) (F : Nat) : rnG call 115 (F + 2) 31 [some (vR 21), some (vR 15), some (vI x2), some (vI x3), some (vI x4), some (vI x5), some (vI x6), some (vI x7), o8] [] L = rnG call 115 F 34 [some (vR 21), some (vR 15), some (vI x2), some (vI x3), some (vI x4), some (vI x5), some (vI x6), some (vI x7), o8] [vI x5] L := rfl
set_option maxRecDepth 100000 in
theorem bc8_115_8 (call : QC FA) (x2 : Int32) (x3 : Int32) (x4 : Int32) (x5 : Int32) (x6 : Int32) (x7 : Int32) (o8 : Option PV) (L : QH FA) (F : Nat) : rnG call 115 (F + 2) 12 [some (vR 21), some (vR 15), some (vI x2), some (vI x3), some (vI x4), some (vI x5), some (vI x6), some (vI x7), o8] [] L = rnG call 115 F 14 [some (vR 21), some (vR 15), some (vI x2), some (vI x3), some (vI x4), some (vI x5), some (vI x6), some (vI x7), o8] [vI x7, vR 15] L := rfl
set_option maxRecDepth 100000 in
theorem bc8_115_9 (call : QC FA) (a0 : Int32) (ls : List (Option PV)) (z : Nat → Int32) (f : Nat → FA) (F : Nat) : rnG call 115 (F + 1) 14 ls [vI a0, vR 15] (LT u z f) = cbd (call 3 [vR 15, vI a0] (LT u z f)) (fun r L' => rnG call 115 F 15 ls (r.toList ++ []) L') := pcY (ih := rnG call 115 F) (call := call) (a := 3) (b := 1) (v := 9) (t := 15) (x := 15) (ls := ls) (As := [vI a0]) (st' := []) (L := LT u z f) rfl rfl rfl
set_option maxRecDepth 100000 in
theorem bc8_115_10 (call : QC FA) (x2 : Int32) (x3 : Int32) (x4 : Int32) (x5 : Int32) (x6 : Int32) (x7 : Int32) (o8 : Option PV) (s0 : Int32) (L : QH FA) (F : Nat) : rnG call 115 (F + 3) 15 [some (vR 21), some (vR 15), some (vI x2), some (vI x3), some (vI x4), some (vI x5), some (vI x6), some (vI x7), o8] [vI s0] L = rnG call 115 F 18 [some (vR 21), some (vR 15), some (vI x2), some (vI x3), some (vI x4), some (vI x5), some (vI x6), some (vI x7), some (vI s0)] [vI x4, vI s0] L := rfl
set_option maxRecDepth 100000 in
theorem bc8_115_11 (call : QC FA) (x y : Int32) (ls : List (Option PV)) (L : QH FA) (F : Nat) : rnG call 115 (F + 1) 18 ls [vI y, vI x] L = bif pcmp 5 x y then rnG call 115 F 27 ls [] L else rnG call 115 F 19 ls [] L := rfl
set_option maxRecDepth 100000 in
theorem bc8_115_12 (call : QC FA) (x2 : Int32) (x3 : Int32) (x4 : Int32) (x5 : Int32) (x6 : Int32) (x7 : Int32) (x8 : Int32) (L : QH FA) (F : Nat) : rnG call 115 (F + 1) 27 [some (vR 21), some (vR 15), some (vI x2), some (vI x3), some (vI x4), some (vI x5), some (vI x6), some (vI x7), some (vI x8)] [] L = rnG call 115 F 28 [some (vR 21), some (vR 15), some (vI x2), some (vI x3), some (vI x4), some (vI x5), some (vI x6), some (vI (x7 + 1)), some (vI x8)] [] L := rfl
set_option maxRecDepth 100000 in
theorem bc8_115_13 (call : QC FA) (x2 : Int32) (x3 : Int32) (x4 : Int32) (x5 : Int32) (x6 : Int32) (x7 : Int32) (x8 : Int32) (L : QH FA) (F : Nat) : rnG call 115 (F + 1) 28 [some (vR 21), some (vR 15), some (vI x2), some (vI x3), some (vI x4), some (vI x5), some (vI x6), some (vI x7), some (vI x8)] [] L = rnG call 115 F 8 [some (vR 21), some (vR 15), some (vI x2), some (vI x3), some (vI x4), some (vI x5), some (vI x6), some (vI x7), some (vI x8)] [] L := rfl
set_option maxRecDepth 100000 in
theorem bc8_115_14 (call : QC FA) (x2 : Int32) (x3 : Int32) (x4 : Int32) (x5 : Int32) (x6 : Int32) (x7 : Int32) (x8 : Int32) (L : QH FA) (F : Nat) : rnG call 115 (F + 4) 19 [some (vR 21), some (vR 15), some (vI x2), some (vI x3), some (vI x4), some (vI x5), some (vI x6), some (vI x7), some (vI x8)] [] L = rnG call 115 F 23 [some (vR 21), some (vR 15), some (vI x2), some (vI x3), some (vI x8), some (vI x5), some (vI x6), some (vI x7), some (vI x8)] [vI x2, vI x8] L := rfl
set_option maxRecDepth 100000 in
theorem bc8_115_15 (call : QC FA) (x y : Int32) (ls : List (Option PV)) (L : QH FA) (F : Nat) : rnG call 115 (F + 1) 23 ls [vI y, vI x] L = bif pcmp 4 x y then rnG call 115 F 27 ls [] L else rnG call 115 F 24 ls [] L := rfl
set_option maxRecDepth 100000 in
theorem bc8_115_16 (call : QC FA) (x2 : Int32) (x3 : Int32) (x4 : Int32) (x5 : Int32) (x6 : Int32) (x7 : Int32) (x8 : Int32) (L : QH FA) (F : Nat) : rnG call 115 (F + 1) 24 [some (vR 21), some (vR 15), some (vI x2), some (vI x3), some (vI x4), some (vI x5), some (vI x6), some (vI x7), some (vI x8)] [] L = rnG call 115 F 25 [some (vR 21), some (vR 15), some (vI x2), some (vI x3), some (vI x4), some (vI (x5 + 1)), some (vI x6), some (vI x7), some (vI x8)] [] L := rfl
set_option maxRecDepth 100000 in
theorem bc8_115_17 (call : QC FA) (x2 : Int32) (x3 : Int32) (x4 : Int32) (x5 : Int32) (x6 : Int32) (x7 : Int32) (x8 : Int32) (L : QH FA) (F : Nat) : rnG call 115 (F + 2) 25 [some (vR 21), some (vR 15), some (vI x2), some (vI x3), some (vI x4), some (vI x5), some (vI x6), some (vI x7), some (vI x8)] [] L = rnG call 115 F 27 [some (vR 21), some (vR 15), some (vI x2), some (vI x3), some (vI x4), some (vI x5), some (vI x7), some (vI x7), some (vI x8)] [] L := rfl
theorem vcc8_115_8 (call : QC FA) (x2 : Int32) (x3 : Int32) (x4 : Int32) (x5 : Int32) (x6 : Int32) (x7 : Int32) (o8 : Option PV) (z : Nat → Int32) (f : Nat → FA) (res : Option PV × QH FA) (H : ((I (z 15) ≤ I x7 → ((x3 = 0 → res = (some (vI x6), LT u z f)) ∧ (¬ x3 = 0 → res = (some (vI x5), LT u z f)))) ∧ (I x7 < I (z 15) → (∃ (r1 : Int32) (z1 : Nat → Int32) (f1 : Nat → FA), call 3 [vR 15, vI x7] (LT u z f) = some (some (vI r1), LT u z1 f1) ∧ ((I r1 ≤ I x4 → RC call (mP 115) 8 [some (vR 21), some (vR 15), some (vI x2), some (vI x3), some (vI x4), some (vI x5), some (vI x6), some (vI (x7 + 1)), some (vI r1)] [] (LT u z1 f1) res) ∧ (I x4 < I r1 → ((I x2 < I r1 → RC call (mP 115) 8 [some (vR 21), some (vR 15), some (vI x2), some (vI x3), some (vI r1), some (vI x5), some (vI x6), some (vI (x7 + 1)), some (vI r1)] [] (LT u z1 f1) res) ∧ (I r1 ≤ I x2 → RC call (mP 115) 8 [some (vR 21), some (vR 15), some (vI x2), some (vI x3), some (vI r1), some (vI (x5 + 1)), some (vI x7), some (vI (x7 + 1)), some (vI r1)] [] (LT u z1 f1) res)))))))) : RC call (mP 115) 8 [some (vR 21), some (vR 15), some (vI x2), some (vI x3), some (vI x4), some (vI x5), some (vI x6), some (vI x7), o8] [] (LT u z f) res := by
  refine rc_b (i' := 11) (ls' := [some (vR 21), some (vR 15), some (vI x2), some (vI x3), some (vI x4), some (vI x5), some (vI x6), some (vI x7), o8]) (st' := [vI (z 15), vI x7]) (L' := LT u z f) 3 (bc8_115_1 call x2 x3 x4 x5 x6 x7 o8 z f) ?_
  refine rc_if (it := 29) (ie := 12) (ls' := [some (vR 21), some (vR 15), some (vI x2), some (vI x3), some (vI x4), some (vI x5), some (vI x6), some (vI x7), o8]) (st' := []) (bc8_115_2 call x7 (z 15) _ _) (fun q1 => ?_) (fun q1 => ?_)
  · have H := H.1 (cI3t q1 rfl rfl)
    refine rc_b (i' := 30) (ls' := [some (vR 21), some (vR 15), some (vI x2), some (vI x3), some (vI x4), some (vI x5), some (vI x6), some (vI x7), o8]) (st' := [vI x3]) (L' := LT u z f) 1 (bc8_115_3 call x2 x3 x4 x5 x6 x7 o8 _) ?_
    refine rc_if (it := 33) (ie := 31) (ls' := [some (vR 21), some (vR 15), some (vI x2), some (vI x3), some (vI x4), some (vI x5), some (vI x6), some (vI x7), o8]) (st' := []) (bc8_115_4 call x3 _ _) (fun q2 => ?_) (fun q2 => ?_)
    · have H := H.1 (cI0t q2)
      refine rc_b (i' := 34) (ls' := [some (vR 21), some (vR 15), some (vI x2), some (vI x3), some (vI x4), some (vI x5), some (vI x6), some (vI x7), o8]) (st' := [vI x6]) (L' := LT u z f) 1 (bc8_115_5 call x2 x3 x4 x5 x6 x7 o8 _) ?_
      subst H
      exact rc_ret (bc8_115_6 call _ _ _)
    · have H := H.2 (cI0f q2)
      refine rc_b (i' := 34) (ls' := [some (vR 21), some (vR 15), some (vI x2), some (vI x3), some (vI x4), some (vI x5), some (vI x6), some (vI x7), o8]) (st' := [vI x5]) (L' := LT u z f) 2 (bc8_115_7 call x2 x3 x4 x5 x6 x7 o8 _) ?_
      subst H
      exact rc_ret (bc8_115_6 call _ _ _)
  · have H := H.2 (cI3f q1 rfl rfl)
    refine rc_b (i' := 14) (ls' := [some (vR 21), some (vR 15), some (vI x2), some (vI x3), some (vI x4), some (vI x5), some (vI x6), some (vI x7), o8]) (st' := [vI x7, vR 15]) (L' := LT u z f) 2 (bc8_115_8 call x2 x3 x4 x5 x6 x7 o8 _) ?_
    obtain ⟨r1, z1, f1, hc, H⟩ := H
    refine rc_call (t := 15) (ls' := [some (vR 21), some (vR 15), some (vI x2), some (vI x3), some (vI x4), some (vI x5), some (vI x6), some (vI x7), o8]) (st' := []) (bc8_115_9 call x7 _ z f) hc ?_
    show RC call (mP 115) 15 [some (vR 21), some (vR 15), some (vI x2), some (vI x3), some (vI x4), some (vI x5), some (vI x6), some (vI x7), o8] [vI r1] (LT u z1 f1) res
    refine rc_b (i' := 18) (ls' := [some (vR 21), some (vR 15), some (vI x2), some (vI x3), some (vI x4), some (vI x5), some (vI x6), some (vI x7), some (vI r1)]) (st' := [vI x4, vI r1]) (L' := LT u z1 f1) 3 (bc8_115_10 call x2 x3 x4 x5 x6 x7 o8 r1 _) ?_
    refine rc_if (it := 27) (ie := 19) (ls' := [some (vR 21), some (vR 15), some (vI x2), some (vI x3), some (vI x4), some (vI x5), some (vI x6), some (vI x7), some (vI r1)]) (st' := []) (bc8_115_11 call r1 x4 _ _) (fun q3 => ?_) (fun q3 => ?_)
    · have H := H.1 (cI5t q3 rfl rfl)
      refine rc_b (i' := 28) (ls' := [some (vR 21), some (vR 15), some (vI x2), some (vI x3), some (vI x4), some (vI x5), some (vI x6), some (vI (x7 + 1)), some (vI r1)]) (st' := []) (L' := LT u z1 f1) 1 (bc8_115_12 call x2 x3 x4 x5 x6 x7 r1 _) ?_
      refine rc_b (i' := 8) (ls' := [some (vR 21), some (vR 15), some (vI x2), some (vI x3), some (vI x4), some (vI x5), some (vI x6), some (vI (x7 + 1)), some (vI r1)]) (st' := []) (L' := LT u z1 f1) 1 (bc8_115_13 call x2 x3 x4 x5 x6 (x7 + 1) r1 _) ?_
      exact H
    · have H := H.2 (cI5f q3 rfl rfl)
      refine rc_b (i' := 23) (ls' := [some (vR 21), some (vR 15), some (vI x2), some (vI x3), some (vI r1), some (vI x5), some (vI x6), some (vI x7), some (vI r1)]) (st' := [vI x2, vI r1]) (L' := LT u z1 f1) 4 (bc8_115_14 call x2 x3 x4 x5 x6 x7 r1 _) ?_
      refine rc_if (it := 27) (ie := 24) (ls' := [some (vR 21), some (vR 15), some (vI x2), some (vI x3), some (vI r1), some (vI x5), some (vI x6), some (vI x7), some (vI r1)]) (st' := []) (bc8_115_15 call r1 x2 _ _) (fun q4 => ?_) (fun q4 => ?_)
      · have H := H.1 (cI4t q4 rfl rfl)
        refine rc_b (i' := 28) (ls' := [some (vR 21), some (vR 15), some (vI x2), some (vI x3), some (vI r1), some (vI x5), some (vI x6), some (vI (x7 + 1)), some (vI r1)]) (st' := []) (L' := LT u z1 f1) 1 (bc8_115_12 call x2 x3 r1 x5 x6 x7 r1 _) ?_
        refine rc_b (i' := 8) (ls' := [some (vR 21), some (vR 15), some (vI x2), some (vI x3), some (vI r1), some (vI x5), some (vI x6), some (vI (x7 + 1)), some (vI r1)]) (st' := []) (L' := LT u z1 f1) 1 (bc8_115_13 call x2 x3 r1 x5 x6 (x7 + 1) r1 _) ?_
        exact H
      · have H := H.2 (cI4f q4 rfl rfl)
        refine rc_b (i' := 25) (ls' := [some (vR 21), some (vR 15), some (vI x2), some (vI x3), some (vI r1), some (vI (x5 + 1)), some (vI x6), some (vI x7), some (vI r1)]) (st' := []) (L' := LT u z1 f1) 1 (bc8_115_16 call x2 x3 r1 x5 x6 x7 r1 _) ?_
        refine rc_b (i' := 27) (ls' := [some (vR 21), some (vR 15), some (vI x2), some (vI x3), some (vI r1), some (vI (x5 + 1)), some (vI x7), some (vI x7), some (vI r1)]) (st' := []) (L' := LT u z1 f1) 2 (bc8_115_17 call x2 x3 r1 (x5 + 1) x6 x7 r1 _) ?_
        refine rc_b (i' := 28) (ls' := [some (vR 21), some (vR 15), some (vI x2), some (vI x3), some (vI r1), some (vI (x5 + 1)), some (vI x7), some (vI (x7 + 1)), some (vI r1)]) (st' := []) (L' := LT u z1 f1) 1 (bc8_115_12 call x2 x3 r1 (x5 + 1) x7 x7 r1 _) ?_
        refine rc_b (i' := 8) (ls' := [some (vR 21), some (vR 15), some (vI x2), some (vI x3), some (vI r1), some (vI (x5 + 1)), some (vI x7), some (vI (x7 + 1)), some (vI r1)]) (st' := []) (L' := LT u z1 f1) 1 (bc8_115_13 call x2 x3 r1 (x5 + 1) x7 (x7 + 1) r1 _) ?_
        exact H
set_option maxRecDepth 100000 in
theorem b166_1 (call : QC FA) (x1 : Int32) (x2 : Int32) (L : QH FA) (F : Nat) : rnG call 166 (F + 1) 0 [some (vR 0), some (vI x1), some (vI x2)] [] L = rnG call 166 F 1 [some (vR 0), some (vI x1), some (vI x2)] [vI x1] L := rfl
set_option maxRecDepth 100000 in
theorem b166_2 (call : QC FA) (x : Int32) (ls : List (Option PV)) (L : QH FA) (F : Nat) : rnG call 166 (F + 1) 1 ls [vI x] L = bif pcmp 2 x 0 then rnG call 166 F 10 ls [] L else rnG call 166 F 2 ls [] L := rfl
set_option maxRecDepth 100000 in
theorem b166_3 (call : QC FA) (x1 : Int32) (x2 : Int32) (L : QH FA) (F : Nat) : rnG call 166 (F + 1) 10 [some (vR 0), some (vI x1), some (vI x2)] [] L = rnG call 166 F 11 [some (vR 0), some (vI x1), some (vI x2)] [vI ((-1))] L := rfl
set_option maxRecDepth 100000 in
theorem b166_4 (call : QC FA) (x : Int32) (ls : List (Option PV)) (L : QH FA) (F : Nat) : rnG call 166 (F + 1) 11 ls [vI x] L = some (some (vI x), L) := rfl
set_option maxRecDepth 100000 in
theorem b166_5 (call : QC FA) (x1 : Int32) (x2 : Int32) (L : QH FA) (F : Nat) : rnG call 166 (F + 2) 2 [some (vR 0), some (vI x1), some (vI x2)] [] L = rnG call 166 F 4 [some (vR 0), some (vI x1), some (vI x2)] [vI 40, vI x1] L := rfl
set_option maxRecDepth 100000 in
theorem b166_6 (call : QC FA) (x y : Int32) (ls : List (Option PV)) (L : QH FA) (F : Nat) : rnG call 166 (F + 1) 4 ls [vI y, vI x] L = bif pcmp 4 x y then rnG call 166 F 10 ls [] L else rnG call 166 F 5 ls [] L := rfl
set_option maxRecDepth 100000 in
theorem b166_7 (call : QC FA) (x1 : Int32) (x2 : Int32) (L : QH FA) (F : Nat) : rnG call 166 (F + 1) 5 [some (vR 0), some (vI x1), some (vI x2)] [] L = rnG call 166 F 6 [some (vR 0), some (vI x1), some (vI x2)] [vI x2] L := rfl
set_option maxRecDepth 100000 in
theorem b166_8 (call : QC FA) (x : Int32) (ls : List (Option PV)) (L : QH FA) (F : Nat) : rnG call 166 (F + 1) 6 ls [vI x] L = bif pcmp 2 x 0 then rnG call 166 F 10 ls [] L else rnG call 166 F 7 ls [] L := rfl
set_option maxRecDepth 100000 in
theorem b166_9 (call : QC FA) (x1 : Int32) (x2 : Int32) (L : QH FA) (F : Nat) : rnG call 166 (F + 2) 7 [some (vR 0), some (vI x1), some (vI x2)] [] L = rnG call 166 F 9 [some (vR 0), some (vI x1), some (vI x2)] [vI 1, vI x2] L := rfl
set_option maxRecDepth 100000 in
theorem b166_10 (call : QC FA) (x y : Int32) (ls : List (Option PV)) (L : QH FA) (F : Nat) : rnG call 166 (F + 1) 9 ls [vI y, vI x] L = bif pcmp 5 x y then rnG call 166 F 12 ls [] L else rnG call 166 F 10 ls [] L := rfl
set_option maxRecDepth 100000 in
theorem b166_11 (call : QC FA) (x1 : Int32) (x2 : Int32) (z : Nat → Int32) (f : Nat → FA) (F : Nat) : rnG call 166 (F + 6) 12 [some (vR 0), some (vI x1), some (vI x2)] [] (LT u z f) = rnG call 166 F 18 [some (vR 0), some (vI x1), some (vI x2)] [vI 6, vR 2, vR 21] (LT u z f) := rfl
set_option maxRecDepth 100000 in
theorem b166_12 (call : QC FA) (x : Int32) (ls : List (Option PV)) (z : Nat → Int32) (f : Nat → FA) (F : Nat) : rnG call 166 (F + 1) 18 ls [vI x, vR 2, vR 21] (LT u z f) = bif ((Nat.beq 3 1 || (Nat.beq 3 2 || Nat.beq 3 3)) && pin x 9) then rnG call 166 F 19 ls [.inr (.inl (wT u (ix x))), vR 21] (LT u z f) else none := rfl
set_option maxRecDepth 100000 in
theorem b166_13 (call : QC FA) (x1 : Int32) (x2 : Int32) (L : QH FA) (F : Nat) : rnG call 166 (F + 2) 19 [some (vR 0), some (vI x1), some (vI x2)] [vR 15, vR 21] L = rnG call 166 F 21 [some (vR 0), some (vI x1), some (vI x2)] [vI x2, vI x1, vR 15, vR 21] L := rfl
set_option maxRecDepth 100000 in
theorem b166_14 (call : QC FA) (x : Int32) (s0 : Int32) (ls : List (Option PV)) (L : QH FA) (F : Nat) : rnG call 166 (F + 1) 21 ls [vI x, vI s0, vR 15, vR 21] L = bif pcmp 1 x 0 then rnG call 166 F 24 ls [vI s0, vR 15, vR 21] L else rnG call 166 F 22 ls [vI s0, vR 15, vR 21] L := rfl
set_option maxRecDepth 100000 in
theorem b166_15 (call : QC FA) (x1 : Int32) (x2 : Int32) (s0 : Int32) (L : QH FA) (F : Nat) : rnG call 166 (F + 1) 24 [some (vR 0), some (vI x1), some (vI x2)] [vI s0, vR 15, vR 21] L = rnG call 166 F 25 [some (vR 0), some (vI x1), some (vI x2)] [vI 0, vI s0, vR 15, vR 21] L := rfl
set_option maxRecDepth 100000 in
theorem b166_16 (call : QC FA) (a1 : Int32) (a2 : Int32) (ls : List (Option PV)) (z : Nat → Int32) (f : Nat → FA) (F : Nat) : rnG call 166 (F + 1) 25 ls [vI a2, vI a1, vR 15, vR 21] (LT u z f) = cbd (call 115 [vR 21, vR 15, vI a1, vI a2] (LT u z f)) (fun r L' => rnG call 166 F 26 ls (r.toList ++ []) L') := pcY (ih := rnG call 166 F) (call := call) (a := 115) (b := 3) (v := 4) (t := 26) (x := 21) (ls := ls) (As := [vR 15, vI a1, vI a2]) (st' := []) (L := LT u z f) rfl rfl rfl
set_option maxRecDepth 100000 in
theorem b166_17 (call : QC FA) (x : Int32) (ls : List (Option PV)) (L : QH FA) (F : Nat) : rnG call 166 (F + 1) 26 ls [vI x] L = some (some (vI x), L) := rfl
set_option maxRecDepth 100000 in
theorem b166_18 (call : QC FA) (x1 : Int32) (x2 : Int32) (s0 : Int32) (L : QH FA) (F : Nat) : rnG call 166 (F + 2) 22 [some (vR 0), some (vI x1), some (vI x2)] [vI s0, vR 15, vR 21] L = rnG call 166 F 25 [some (vR 0), some (vI x1), some (vI x2)] [vI 1, vI s0, vR 15, vR 21] L := rfl
theorem vc166_0 (call : QC FA) (x1 : Int32) (x2 : Int32) (z : Nat → Int32) (f : Nat → FA) (res : Option PV × QH FA) (H : ((I x1 < 0 → res = (some (vI ((-1))), LT u z f)) ∧ (0 ≤ I x1 → ((40 < I x1 → res = (some (vI ((-1))), LT u z f)) ∧ (I x1 ≤ 40 → ((I x2 < 0 → res = (some (vI ((-1))), LT u z f)) ∧ (0 ≤ I x2 → ((I x2 ≤ 1 → ((¬ x2 = 0 → (∃ (r1 : Int32) (z1 : Nat → Int32) (f1 : Nat → FA), call 115 [vR 21, vR 15, vI x1, vI 0] (LT u z f) = some (some (vI r1), LT u z1 f1) ∧ res = (some (vI r1), LT u z1 f1))) ∧ (x2 = 0 → (∃ (r2 : Int32) (z2 : Nat → Int32) (f2 : Nat → FA), call 115 [vR 21, vR 15, vI x1, vI 1] (LT u z f) = some (some (vI r2), LT u z2 f2) ∧ res = (some (vI r2), LT u z2 f2))))) ∧ (1 < I x2 → res = (some (vI ((-1))), LT u z f)))))))))) : RC call (mP 166) 0 [some (vR 0), some (vI x1), some (vI x2)] [] (LT u z f) res := by
  refine rc_b (i' := 1) (ls' := [some (vR 0), some (vI x1), some (vI x2)]) (st' := [vI x1]) (L' := LT u z f) 1 (b166_1 call x1 x2 _) ?_
  refine rc_if (it := 10) (ie := 2) (ls' := [some (vR 0), some (vI x1), some (vI x2)]) (st' := []) (b166_2 call x1 _ _) (fun q1 => ?_) (fun q1 => ?_)
  · have H := H.1 (cI2t q1 rfl rfl)
    refine rc_b (i' := 11) (ls' := [some (vR 0), some (vI x1), some (vI x2)]) (st' := [vI ((-1))]) (L' := LT u z f) 1 (b166_3 call x1 x2 _) ?_
    subst H
    exact rc_ret (b166_4 call _ _ _)
  · have H := H.2 (cI2f q1 rfl rfl)
    refine rc_b (i' := 4) (ls' := [some (vR 0), some (vI x1), some (vI x2)]) (st' := [vI 40, vI x1]) (L' := LT u z f) 2 (b166_5 call x1 x2 _) ?_
    refine rc_if (it := 10) (ie := 5) (ls' := [some (vR 0), some (vI x1), some (vI x2)]) (st' := []) (b166_6 call x1 40 _ _) (fun q2 => ?_) (fun q2 => ?_)
    · have H := H.1 (cI4t q2 rfl rfl)
      refine rc_b (i' := 11) (ls' := [some (vR 0), some (vI x1), some (vI x2)]) (st' := [vI ((-1))]) (L' := LT u z f) 1 (b166_3 call x1 x2 _) ?_
      subst H
      exact rc_ret (b166_4 call _ _ _)
    · have H := H.2 (cI4f q2 rfl rfl)
      refine rc_b (i' := 6) (ls' := [some (vR 0), some (vI x1), some (vI x2)]) (st' := [vI x2]) (L' := LT u z f) 1 (b166_7 call x1 x2 _) ?_
      refine rc_if (it := 10) (ie := 7) (ls' := [some (vR 0), some (vI x1), some (vI x2)]) (st' := []) (b166_8 call x2 _ _) (fun q3 => ?_) (fun q3 => ?_)
      · have H := H.1 (cI2t q3 rfl rfl)
        refine rc_b (i' := 11) (ls' := [some (vR 0), some (vI x1), some (vI x2)]) (st' := [vI ((-1))]) (L' := LT u z f) 1 (b166_3 call x1 x2 _) ?_
        subst H
        exact rc_ret (b166_4 call _ _ _)
      · have H := H.2 (cI2f q3 rfl rfl)
        refine rc_b (i' := 9) (ls' := [some (vR 0), some (vI x1), some (vI x2)]) (st' := [vI 1, vI x2]) (L' := LT u z f) 2 (b166_9 call x1 x2 _) ?_
        refine rc_if (it := 12) (ie := 10) (ls' := [some (vR 0), some (vI x1), some (vI x2)]) (st' := []) (b166_10 call x2 1 _ _) (fun q4 => ?_) (fun q4 => ?_)
        · have H := H.1 (cI5t q4 rfl rfl)
          refine rc_b (i' := 18) (ls' := [some (vR 0), some (vI x1), some (vI x2)]) (st' := [vI 6, vR 2, vR 21]) (L' := LT u z f) 6 (b166_11 call x1 x2 z f) ?_
          refine rc_g (i' := 19) (ls' := [some (vR 0), some (vI x1), some (vI x2)]) (st' := [.inr (.inl (wT u (ix 6))), vR 21]) (L' := LT u z f) (b166_12 call 6 _ z f) (by decide) ?_
          show RC call (mP 166) 19 [some (vR 0), some (vI x1), some (vI x2)] [vR 15, vR 21] (LT u z f) res
          refine rc_b (i' := 21) (ls' := [some (vR 0), some (vI x1), some (vI x2)]) (st' := [vI x2, vI x1, vR 15, vR 21]) (L' := LT u z f) 2 (b166_13 call x1 x2 _) ?_
          refine rc_if (it := 24) (ie := 22) (ls' := [some (vR 0), some (vI x1), some (vI x2)]) (st' := [vI x1, vR 15, vR 21]) (b166_14 call x2 x1 _ _) (fun q5 => ?_) (fun q5 => ?_)
          · have H := H.1 (cI1t q5)
            refine rc_b (i' := 25) (ls' := [some (vR 0), some (vI x1), some (vI x2)]) (st' := [vI 0, vI x1, vR 15, vR 21]) (L' := LT u z f) 1 (b166_15 call x1 x2 x1 _) ?_
            obtain ⟨r1, z1, f1, hc, H⟩ := H
            refine rc_call (t := 26) (ls' := [some (vR 0), some (vI x1), some (vI x2)]) (st' := []) (b166_16 call x1 0 _ z f) hc ?_
            show RC call (mP 166) 26 [some (vR 0), some (vI x1), some (vI x2)] [vI r1] (LT u z1 f1) res
            subst H
            exact rc_ret (b166_17 call _ _ _)
          · have H := H.2 (cI1f q5)
            refine rc_b (i' := 25) (ls' := [some (vR 0), some (vI x1), some (vI x2)]) (st' := [vI 1, vI x1, vR 15, vR 21]) (L' := LT u z f) 2 (b166_18 call x1 x2 x1 _) ?_
            obtain ⟨r2, z2, f2, hc, H⟩ := H
            refine rc_call (t := 26) (ls' := [some (vR 0), some (vI x1), some (vI x2)]) (st' := []) (b166_16 call x1 1 _ z f) hc ?_
            show RC call (mP 166) 26 [some (vR 0), some (vI x1), some (vI x2)] [vI r2] (LT u z2 f2) res
            subst H
            exact rc_ret (b166_17 call _ _ _)
        · have H := H.2 (cI5f q4 rfl rfl)
          refine rc_b (i' := 11) (ls' := [some (vR 0), some (vI x1), some (vI x2)]) (st' := [vI ((-1))]) (L' := LT u z f) 1 (b166_3 call x1 x2 _) ?_
          subst H
          exact rc_ret (b166_4 call _ _ _)
theorem shl (d : Nat) (h x3 : Int32) {z : Nat → Int32} {f : Nat → FA} {n : Nat} (hz : z 15 = nI n) (hn : n ≤ 12) : ∀ t i, i + t = n → ∀ o8, RC (mcall (d + 1)) (mP 115) 8 [some (vR 21), some (vR 15), some (vI h), some (vI x3), some (vI (lnF h (f 16) i).1), some (vI (lnF h (f 16) i).2.1), some (vI (lnF h (f 16) i).2.2), some (vI (nI i)), o8] [] (LT u z f) (some (vI (if x3 = 0 then (lnF h (f 16) n).2.2 else (lnF h (f 16) n).2.1)), LT u z f) := by
  intro t
  induction t with
  | zero =>
    intro i hi o8
    obtain rfl : i = n := by omega
    refine vcc8_115_8 _ _ _ _ _ _ _ _ _ _ _ ⟨fun _ => ⟨fun q => by rw [if_pos q], fun q => by rw [if_neg q]⟩, fun q => ?_⟩
    rw [hz, I_nI (n := i) (by omega)] at q
    omega
  | succ t ih =>
    intro i hi o8
    have h1 := fun o8 => ih (i + 1) (by omega) o8
    rw [← nI_add i 1] at h1
    refine vcc8_115_8 _ _ _ _ _ _ _ _ _ _ _ ⟨fun q => ?_, fun _ => ⟨_, _, _, c_it6 d hz hn (k := i) (by omega), fun q => ?_, fun q => ⟨fun q2 => ?_, fun q2 => ?_⟩⟩⟩
    · rw [hz, I_nI (n := n) (by omega), I_nI (n := i) (by omega)] at q
      omega
    · have e : lnF h (f 16) (i + 1) = lnF h (f 16) i := if_pos q
      rw [e] at h1
      exact h1 _
    · have e : lnF h (f 16) (i + 1) = (f 16 i, (lnF h (f 16) i).2.1, (lnF h (f 16) i).2.2) := (if_neg (by omega)).trans (if_pos q2)
      rw [e] at h1
      exact h1 _
    · have e : lnF h (f 16) (i + 1) = (f 16 i, (lnF h (f 16) i).2.1 + 1, nI i) := (if_neg (by omega)).trans (if_neg (by omega))
      rw [e] at h1
      exact h1 _
theorem c_lantern (d : Nat) (h w : Int32) {z : Nat → Int32} {f : Nat → FA} {n : Nat} (hz : z 15 = nI n) (hn : n ≤ 12) : mcall (d + 3) 166 [vR 0, vI h, vI w] (LT u z f) = some (some (vI (if (0 ≤ I h ∧ I h ≤ 40) ∧ (0 ≤ I w ∧ I w ≤ 1) then lnA h w (lnF h (f 16) n) else -1)), LT u z f) := by
  have go : ∀ res, _ → mcall (d + 3) 166 [vR 0, vI h, vI w] (LT u z f) = some res := fun res H => mcall_i (mq166 (cu := [])).2.2 rfl (vc166_0 (mcall (d + 2)) h w z f res H)
  have sh : ∀ x3, mcall (d + 2) 115 [vR 21, vR 15, vI h, vI x3] (LT u z f) = some (some (vI (if x3 = 0 then (lnF h (f 16) n).2.2 else (lnF h (f 16) n).2.1)), LT u z f) := fun x3 => mcall_i (mq115 (cu := [])).2.2 rfl (vc115_0 (mcall (d + 1)) h x3 none none none none none z f _ (shl d h x3 hz hn n 0 (by omega) none))
  refine go _ ⟨fun q => ?_, fun q1 => ⟨fun q => ?_, fun q2 => ⟨fun q => ?_, fun q3 => ⟨fun q4 => ⟨fun q => ⟨_, _, _, sh 0, ?_⟩, fun q => ⟨_, _, _, sh 1, ?_⟩⟩, fun q => ?_⟩⟩⟩⟩
  · rw [if_neg (by omega)]
  · rw [if_neg (by omega)]
  · rw [if_neg (by omega)]
  · rw [if_pos ⟨⟨q1, q2⟩, q3, q4⟩, if_pos rfl]
    unfold lnA
    rw [if_neg q]
  · rw [if_pos ⟨⟨q1, q2⟩, q3, q4⟩, if_neg (by decide)]
    unfold lnA
    rw [if_pos q]
  · rw [if_neg (by omega)]
end TLs
