/-! candles: what can be made of the ends, told by sets of sums -/
theorem b1_or (p q : Bool) : ((if p = true then (1 : Int32) else 0) ||| (if q = true then 1 else 0)) = if (p || q) = true then 1 else 0 := by
  cases p <;> cases q <;> decide
/-- the sums with one end more, down to v -/
def stq (b : Nat → Bool) (e v : Nat) : Nat → Bool := fun j => b j || (decide (v < j ∧ j ≤ 400 ∧ e ≤ j) && b (j - e))
def RowB (g : FA) (b : Nat → Bool) : Prop := ∀ j, j ≤ 400 → g j = if b j = true then 1 else 0
theorem stp_top {b : Nat → Bool} {e j : Nat} (hj : j ≤ 400) : stq b e 400 j = b j := by
  unfold stq
  rw [decide_eq_false (fun q => by omega), Bool.false_and, Bool.or_false]
theorem stp_lo {b : Nat → Bool} {e v j : Nat} (hj : j ≤ v) : stq b e v j = b j := by
  unfold stq
  rw [decide_eq_false (fun q => by omega), Bool.false_and, Bool.or_false]
theorem stp_s {b : Nat → Bool} {e v : Nat} (hv : v ≤ 400) (he : e ≤ v) (h1 : 1 ≤ e) {g g' : FA} (hg : RowB g (stq b e v)) (h : g' v = if (b v || b (v - e)) = true then 1 else 0) (ho : ∀ j, j ≠ v → g' j = g j) : RowB g' (stq b e (v - 1)) := by
  intro j hj
  by_cases q : j = v
  · subst q
    rw [h]
    unfold stq
    rw [decide_eq_true (show j - 1 < j ∧ j ≤ 400 ∧ e ≤ j by omega), Bool.true_and]
  · rw [ho j q, hg j hj]
    unfold stq
    rw [show decide (v < j ∧ j ≤ 400 ∧ e ≤ j) = decide (v - 1 < j ∧ j ≤ 400 ∧ e ≤ j) from decide_eq_decide.mpr (by omega)]
def enI (g : FA) (j : Nat) : Nat := (I (g j)).toNat
def bs (g : FA) : Nat → Nat → Bool
  | 0 => fun j => decide (j = 0)
  | k + 1 => stq (bs g k) (enI g k) (enI g k - 1)
theorem bs_cong {g g' : FA} : ∀ k, (∀ j, j < k → g' j = g j) → bs g' k = bs g k := by
  intro k
  induction k with
  | zero => intro _; rfl
  | succ k ih =>
    intro h
    show stq (bs g' k) (enI g' k) (enI g' k - 1) = stq (bs g k) (enI g k) (enI g k - 1)
    rw [ih (fun j hj => h j (by omega)), show enI g' k = enI g k from by unfold enI; rw [h k (by omega)]]
/-- how many below j, and the greatest -/
def cg (b : Nat → Bool) : Nat → Nat × Nat
  | 0 => (0, 0)
  | j + 1 => if b j = true then ((cg b j).1 + 1, j) else cg b j
def cnA (b : Nat → Bool) (n w : Int32) : Int32 := if (0 ≤ I n ∧ I n ≤ 400) ∧ (0 ≤ I w ∧ I w ≤ 1) then (if w = 0 then nI (cg b ((I n).toNat + 1)).1 else nI (cg b ((I n).toNat + 1)).2) else -1
section TLs
variable {u : Nat → Option Nat}
set_option maxRecDepth 100000 in
theorem bf_2_1 (call : QC FA) (x1 : Int32) (o2 : Option PV) (o3 : Option PV) (z : Nat → Int32) (f : Nat → FA) (F : Nat) : rnG call 2 (F + 5) 0 [some (vR 22), some (vI x1), o2, o3] [] (LT u z f) = rnG call 2 F 5 [some (vR 22), some (vI x1), some (vI 0), some (vI (nI 401))] [] (LT u z f) := rfl
theorem vcf_2_0 (call : QC FA) (x1 : Int32) (o2 : Option PV) (o3 : Option PV) (z : Nat → Int32) (f : Nat → FA) (res : Option PV × QH FA) (H : RC call (mP 2) 5 [some (vR 22), some (vI x1), some (vI 0), some (vI (nI 401))] [] (LT u z f) res) : RC call (mP 2) 0 [some (vR 22), some (vI x1), o2, o3] [] (LT u z f) res := by
  refine rc_b (i' := 5) (ls' := [some (vR 22), some (vI x1), some (vI 0), some (vI (nI 401))]) (st' := []) (L' := LT u z f) 5 (bf_2_1 call x1 o2 o3 z f) ?_
  exact H
set_option maxRecDepth 100000 in
theorem bfc_2_1 (call : QC FA) (x1 : Int32) (x2 : Int32) (x3 : Int32) (L : QH FA) (F : Nat) : rnG call 2 (F + 2) 5 [some (vR 22), some (vI x1), some (vI x2), some (vI x3)] [] L = rnG call 2 F 7 [some (vR 22), some (vI x1), some (vI x2), some (vI x3)] [vI x3, vI x2] L := rfl
set_option maxRecDepth 100000 in
theorem bfc_2_2 (call : QC FA) (x y : Int32) (ls : List (Option PV)) (L : QH FA) (F : Nat) : rnG call 2 (F + 1) 7 ls [vI y, vI x] L = bif pcmp 3 x y then rnG call 2 F 14 ls [] L else rnG call 2 F 8 ls [] L := rfl
set_option maxRecDepth 100000 in
theorem bfc_2_3 (call : QC FA) (ls : List (Option PV)) (L : QH FA) (F : Nat) : rnG call 2 (F + 1) 14 ls [] L = some (none, L) := rfl
set_option maxRecDepth 100000 in
theorem bfc_2_4 (call : QC FA) (x1 : Int32) (x2 : Int32) (x3 : Int32) (L : QH FA) (F : Nat) : rnG call 2 (F + 3) 8 [some (vR 22), some (vI x1), some (vI x2), some (vI x3)] [] L = rnG call 2 F 11 [some (vR 22), some (vI x1), some (vI x2), some (vI x3)] [vI x1, vI x2, vR 22] L := rfl
set_option maxRecDepth 100000 in
theorem bfc_2_5 (call : QC FA) (x y : Int32) (ls : List (Option PV)) (z : Nat → Int32) (f : Nat → FA) (F : Nat) : rnG call 2 (F + 1) 11 ls [vI y, vI x, vR 22] (LT u z f) = bif (Nat.beq 0 0 && pin x 401) then rnG call 2 F 12 ls [] (LT u z (uA f 22 (upd (f 22) (ix x) y))) else none := rfl
set_option maxRecDepth 100000 in
theorem bfc_2_6 (call : QC FA) (x1 : Int32) (x2 : Int32) (x3 : Int32) (L : QH FA) (F : Nat) : rnG call 2 (F + 1) 12 [some (vR 22), some (vI x1), some (vI x2), some (vI x3)] [] L = rnG call 2 F 13 [some (vR 22), some (vI x1), some (vI (x2 + 1)), some (vI x3)] [] L := rfl
set_option maxRecDepth 100000 in
theorem bfc_2_7 (call : QC FA) (x1 : Int32) (x2 : Int32) (x3 : Int32) (L : QH FA) (F : Nat) : rnG call 2 (F + 1) 13 [some (vR 22), some (vI x1), some (vI x2), some (vI x3)] [] L = rnG call 2 F 5 [some (vR 22), some (vI x1), some (vI x2), some (vI x3)] [] L := rfl
theorem vcfc_2_5 (call : QC FA) (x1 : Int32) (x2 : Int32) (x3 : Int32) (z : Nat → Int32) (f : Nat → FA) (res : Option PV × QH FA) (H : ((I x3 ≤ I x2 → res = (none, LT u z f)) ∧ (I x2 < I x3 → (pin x2 401 = true ∧ RC call (mP 2) 5 [some (vR 22), some (vI x1), some (vI (x2 + 1)), some (vI x3)] [] (LT u z (uA f 22 (upd (f 22) (ix x2) x1))) res)))) : RC call (mP 2) 5 [some (vR 22), some (vI x1), some (vI x2), some (vI x3)] [] (LT u z f) res := by
  refine rc_b (i' := 7) (ls' := [some (vR 22), some (vI x1), some (vI x2), some (vI x3)]) (st' := [vI x3, vI x2]) (L' := LT u z f) 2 (bfc_2_1 call x1 x2 x3 _) ?_
  refine rc_if (it := 14) (ie := 8) (ls' := [some (vR 22), some (vI x1), some (vI x2), some (vI x3)]) (st' := []) (bfc_2_2 call x2 x3 _ _) (fun q1 => ?_) (fun q1 => ?_)
  · have H := H.1 (cI3t q1 rfl rfl)
    subst H
    exact rc_ret (bfc_2_3 call _ _)
  · have H := H.2 (cI3f q1 rfl rfl)
    refine rc_b (i' := 11) (ls' := [some (vR 22), some (vI x1), some (vI x2), some (vI x3)]) (st' := [vI x1, vI x2, vR 22]) (L' := LT u z f) 3 (bfc_2_4 call x1 x2 x3 _) ?_
    obtain ⟨g1, H⟩ := H
    refine rc_g (i' := 12) (ls' := [some (vR 22), some (vI x1), some (vI x2), some (vI x3)]) (st' := []) (L' := LT u z (uA f 22 (upd (f 22) (ix x2) x1))) (bfc_2_5 call x2 x1 _ z f) (pinG g1) ?_
    refine rc_b (i' := 13) (ls' := [some (vR 22), some (vI x1), some (vI (x2 + 1)), some (vI x3)]) (st' := []) (L' := LT u z (uA f 22 (upd (f 22) (ix x2) x1))) 1 (bfc_2_6 call x1 x2 x3 _) ?_
    refine rc_b (i' := 5) (ls' := [some (vR 22), some (vI x1), some (vI (x2 + 1)), some (vI x3)]) (st' := []) (L' := LT u z (uA f 22 (upd (f 22) (ix x2) x1))) 1 (bfc_2_7 call x1 (x2 + 1) x3 _) ?_
    exact H
set_option maxRecDepth 100000 in
theorem b116_1 (call : QC FA) (x2 : Int32) (x3 : Int32) (o4 : Option PV) (o5 : Option PV) (o6 : Option PV) (z : Nat → Int32) (f : Nat → FA) (F : Nat) : rnG call 116 (F + 3) 0 [some (vR 21), some (vR 11), some (vI x2), some (vI x3), o4, o5, o6] [] (LT u z f) = rnG call 116 F 3 [some (vR 21), some (vR 11), some (vI x2), some (vI x3), o4, o5, o6] [vI 0, vR 22] (LT u z f) := rfl
set_option maxRecDepth 100000 in
theorem b116_2 (call : QC FA) (a1 : Int32) (ls : List (Option PV)) (z : Nat → Int32) (f : Nat → FA) (F : Nat) : rnG call 116 (F + 1) 3 ls [vI a1, vR 22] (LT u z f) = cbd (call 2 [vR 22, vI a1] (LT u z f)) (fun r L' => rnG call 116 F 4 ls (r.toList ++ []) L') := pcZ (ih := rnG call 116 F) (call := call) (a := 2) (b := 2) (t := 4) (ls := ls) (As := [vR 22, vI a1]) (st' := []) (L := LT u z f) rfl rfl
set_option maxRecDepth 100000 in
theorem b116_3 (call : QC FA) (x2 : Int32) (x3 : Int32) (o4 : Option PV) (o5 : Option PV) (o6 : Option PV) (z : Nat → Int32) (f : Nat → FA) (F : Nat) : rnG call 116 (F + 4) 4 [some (vR 21), some (vR 11), some (vI x2), some (vI x3), o4, o5, o6] [] (LT u z f) = rnG call 116 F 8 [some (vR 21), some (vR 11), some (vI x2), some (vI x3), o4, o5, o6] [vI 1, vI 0, vR 22] (LT u z f) := rfl
set_option maxRecDepth 100000 in
theorem b116_4 (call : QC FA) (x y : Int32) (ls : List (Option PV)) (z : Nat → Int32) (f : Nat → FA) (F : Nat) : rnG call 116 (F + 1) 8 ls [vI y, vI x, vR 22] (LT u z f) = bif (Nat.beq 0 0 && pin x 401) then rnG call 116 F 9 ls [] (LT u z (uA f 22 (upd (f 22) (ix x) y))) else none := rfl
set_option maxRecDepth 100000 in
theorem b116_5 (call : QC FA) (x2 : Int32) (x3 : Int32) (o4 : Option PV) (o5 : Option PV) (o6 : Option PV) (L : QH FA) (F : Nat) : rnG call 116 (F + 2) 9 [some (vR 21), some (vR 11), some (vI x2), some (vI x3), o4, o5, o6] [] L = rnG call 116 F 11 [some (vR 21), some (vR 11), some (vI x2), some (vI x3), some (vI 0), o5, o6] [] L := rfl
theorem vc116_0 (call : QC FA) (x2 : Int32) (x3 : Int32) (o4 : Option PV) (o5 : Option PV) (o6 : Option PV) (z : Nat → Int32) (f : Nat → FA) (res : Option PV × QH FA) (H : (∃ (z1 : Nat → Int32) (f1 : Nat → FA), call 2 [vR 22, vI 0] (LT u z f) = some (none, LT u z1 f1) ∧ (pin 0 401 = true ∧ RC call (mP 116) 11 [some (vR 21), some (vR 11), some (vI x2), some (vI x3), some (vI 0), o5, o6] [] (LT u z1 (uA f1 22 (upd (f1 22) (ix 0) 1))) res))) : RC call (mP 116) 0 [some (vR 21), some (vR 11), some (vI x2), some (vI x3), o4, o5, o6] [] (LT u z f) res := by
  refine rc_b (i' := 3) (ls' := [some (vR 21), some (vR 11), some (vI x2), some (vI x3), o4, o5, o6]) (st' := [vI 0, vR 22]) (L' := LT u z f) 3 (b116_1 call x2 x3 o4 o5 o6 z f) ?_
  obtain ⟨z1, f1, hc, H⟩ := H
  refine rc_call (t := 4) (ls' := [some (vR 21), some (vR 11), some (vI x2), some (vI x3), o4, o5, o6]) (st' := []) (b116_2 call 0 _ z f) hc ?_
  show RC call (mP 116) 4 [some (vR 21), some (vR 11), some (vI x2), some (vI x3), o4, o5, o6] [] (LT u z1 f1) res
  refine rc_b (i' := 8) (ls' := [some (vR 21), some (vR 11), some (vI x2), some (vI x3), o4, o5, o6]) (st' := [vI 1, vI 0, vR 22]) (L' := LT u z1 f1) 4 (b116_3 call x2 x3 o4 o5 o6 z1 f1) ?_
  obtain ⟨g1, H⟩ := H
  refine rc_g (i' := 9) (ls' := [some (vR 21), some (vR 11), some (vI x2), some (vI x3), o4, o5, o6]) (st' := []) (L' := LT u z1 (uA f1 22 (upd (f1 22) (ix 0) 1))) (b116_4 call 0 1 _ z1 f1) (pinG g1) ?_
  refine rc_b (i' := 11) (ls' := [some (vR 21), some (vR 11), some (vI x2), some (vI x3), some (vI 0), o5, o6]) (st' := []) (L' := LT u z1 (uA f1 22 (upd (f1 22) (ix 0) 1))) 2 (b116_5 call x2 x3 o4 o5 o6 _) ?_
  exact H
set_option maxRecDepth 100000 in
theorem bc11_116_1 (call : QC FA) (x2 : Int32) (x3 : Int32) (x4 : Int32) (o5 : Option PV) (o6 : Option PV) (z : Nat → Int32) (f : Nat → FA) (F : Nat) : rnG call 116 (F + 3) 11 [some (vR 21), some (vR 11), some (vI x2), some (vI x3), some (vI x4), o5, o6] [] (LT u z f) = rnG call 116 F 14 [some (vR 21), some (vR 11), some (vI x2), some (vI x3), some (vI x4), o5, o6] [vI (z 11), vI x4] (LT u z f) := rfl
set_option maxRecDepth 100000 in
theorem bc11_116_2 (call : QC FA) (x y : Int32) (ls : List (Option PV)) (L : QH FA) (F : Nat) : rnG call 116 (F + 1) 14 ls [vI y, vI x] L = bif pcmp 3 x y then rnG call 116 F 47 ls [] L else rnG call 116 F 15 ls [] L := rfl
set_option maxRecDepth 100000 in
theorem bc11_116_3 (call : QC FA) (x2 : Int32) (x3 : Int32) (x4 : Int32) (o5 : Option PV) (o6 : Option PV) (L : QH FA) (F : Nat) : rnG call 116 (F + 6) 47 [some (vR 21), some (vR 11), some (vI x2), some (vI x3), some (vI x4), o5, o6] [] L = rnG call 116 F 53 [some (vR 21), some (vR 11), some (vI x2), some (vI x3), some (vI 0), some (vI 0), some (vI 0)] [] L := rfl
set_option maxRecDepth 100000 in
theorem bc11_116_4 (call : QC FA) (x2 : Int32) (x3 : Int32) (x4 : Int32) (o5 : Option PV) (o6 : Option PV) (L : QH FA) (F : Nat) : rnG call 116 (F + 2) 15 [some (vR 21), some (vR 11), some (vI x2), some (vI x3), some (vI x4), o5, o6] [] L = rnG call 116 F 17 [some (vR 21), some (vR 11), some (vI x2), some (vI x3), some (vI x4), o5, o6] [vI x4, vR 11] L := rfl
set_option maxRecDepth 100000 in
theorem bc11_116_5 (call : QC FA) (a0 : Int32) (ls : List (Option PV)) (z : Nat → Int32) (f : Nat → FA) (F : Nat) : rnG call 116 (F + 1) 17 ls [vI a0, vR 11] (LT u z f) = cbd (call 3 [vR 11, vI a0] (LT u z f)) (fun r L' => rnG call 116 F 18 ls (r.toList ++ []) L') := pcY (ih := rnG call 116 F) (call := call) (a := 3) (b := 1) (v := 9) (t := 18) (x := 11) (ls := ls) (As := [vI a0]) (st' := []) (L := LT u z f) rfl rfl rfl
set_option maxRecDepth 100000 in
theorem bc11_116_6 (call : QC FA) (x2 : Int32) (x3 : Int32) (x4 : Int32) (o5 : Option PV) (o6 : Option PV) (s0 : Int32) (L : QH FA) (F : Nat) : rnG call 116 (F + 1) 18 [some (vR 21), some (vR 11), some (vI x2), some (vI x3), some (vI x4), o5, o6] [vI s0] L = rnG call 116 F 19 [some (vR 21), some (vR 11), some (vI x2), some (vI x3), some (vI x4), o5, o6] [vI 1, vI s0] L := rfl
set_option maxRecDepth 100000 in
theorem bc11_116_7 (call : QC FA) (x y : Int32) (ls : List (Option PV)) (L : QH FA) (F : Nat) : rnG call 116 (F + 1) 19 ls [vI y, vI x] L = bif pcmp 2 x y then rnG call 116 F 20 ls [vI y] L else rnG call 116 F 20 ls [vI x] L := pmxr (rnG call 116 F) 20 x y ls [] L rfl
set_option maxRecDepth 100000 in
theorem bc11_116_8 (call : QC FA) (x2 : Int32) (x3 : Int32) (x4 : Int32) (o5 : Option PV) (o6 : Option PV) (s0 : Int32) (z : Nat → Int32) (f : Nat → FA) (F : Nat) : rnG call 116 (F + 7) 20 [some (vR 21), some (vR 11), some (vI x2), some (vI x3), some (vI x4), o5, o6] [vI s0] (LT u z f) = rnG call 116 F 27 [some (vR 21), some (vR 11), some (vI x2), some (vI x3), some (vI x4), some (vI s0), some (vI ((nI 401) - 1))] [] (LT u z f) := rfl
theorem vcc11_116_11 (call : QC FA) (x2 : Int32) (x3 : Int32) (x4 : Int32) (o5 : Option PV) (o6 : Option PV) (z : Nat → Int32) (f : Nat → FA) (res : Option PV × QH FA) (H : ((I (z 11) ≤ I x4 → RC call (mP 116) 53 [some (vR 21), some (vR 11), some (vI x2), some (vI x3), some (vI 0), some (vI 0), some (vI 0)] [] (LT u z f) res) ∧ (I x4 < I (z 11) → (∃ (r1 : Int32) (z1 : Nat → Int32) (f1 : Nat → FA), call 3 [vR 11, vI x4] (LT u z f) = some (some (vI r1), LT u z1 f1) ∧ ((I r1 < 1 → RC call (mP 116) 27 [some (vR 21), some (vR 11), some (vI x2), some (vI x3), some (vI x4), some (vI 1), some (vI ((nI 401) - 1))] [] (LT u z1 f1) res) ∧ (1 ≤ I r1 → RC call (mP 116) 27 [some (vR 21), some (vR 11), some (vI x2), some (vI x3), some (vI x4), some (vI r1), some (vI ((nI 401) - 1))] [] (LT u z1 f1) res)))))) : RC call (mP 116) 11 [some (vR 21), some (vR 11), some (vI x2), some (vI x3), some (vI x4), o5, o6] [] (LT u z f) res := by
  refine rc_b (i' := 14) (ls' := [some (vR 21), some (vR 11), some (vI x2), some (vI x3), some (vI x4), o5, o6]) (st' := [vI (z 11), vI x4]) (L' := LT u z f) 3 (bc11_116_1 call x2 x3 x4 o5 o6 z f) ?_
  refine rc_if (it := 47) (ie := 15) (ls' := [some (vR 21), some (vR 11), some (vI x2), some (vI x3), some (vI x4), o5, o6]) (st' := []) (bc11_116_2 call x4 (z 11) _ _) (fun q1 => ?_) (fun q1 => ?_)
  · have H := H.1 (cI3t q1 rfl rfl)
    refine rc_b (i' := 53) (ls' := [some (vR 21), some (vR 11), some (vI x2), some (vI x3), some (vI 0), some (vI 0), some (vI 0)]) (st' := []) (L' := LT u z f) 6 (bc11_116_3 call x2 x3 x4 o5 o6 _) ?_
    exact H
  · have H := H.2 (cI3f q1 rfl rfl)
    refine rc_b (i' := 17) (ls' := [some (vR 21), some (vR 11), some (vI x2), some (vI x3), some (vI x4), o5, o6]) (st' := [vI x4, vR 11]) (L' := LT u z f) 2 (bc11_116_4 call x2 x3 x4 o5 o6 _) ?_
    obtain ⟨r1, z1, f1, hc, H⟩ := H
    refine rc_call (t := 18) (ls' := [some (vR 21), some (vR 11), some (vI x2), some (vI x3), some (vI x4), o5, o6]) (st' := []) (bc11_116_5 call x4 _ z f) hc ?_
    show RC call (mP 116) 18 [some (vR 21), some (vR 11), some (vI x2), some (vI x3), some (vI x4), o5, o6] [vI r1] (LT u z1 f1) res
    refine rc_b (i' := 19) (ls' := [some (vR 21), some (vR 11), some (vI x2), some (vI x3), some (vI x4), o5, o6]) (st' := [vI 1, vI r1]) (L' := LT u z1 f1) 1 (bc11_116_6 call x2 x3 x4 o5 o6 r1 _) ?_
    refine rc_if2 (it := 20) (ie := 20) (ls' := [some (vR 21), some (vR 11), some (vI x2), some (vI x3), some (vI x4), o5, o6]) (st1 := [vI 1]) (st2 := [vI r1]) (bc11_116_7 call r1 1 _ _) (fun q2 => ?_) (fun q2 => ?_)
    · have H := H.1 (cI2t q2 rfl rfl)
      refine rc_b (i' := 27) (ls' := [some (vR 21), some (vR 11), some (vI x2), some (vI x3), some (vI x4), some (vI 1), some (vI ((nI 401) - 1))]) (st' := []) (L' := LT u z1 f1) 7 (bc11_116_8 call x2 x3 x4 o5 o6 1 z1 f1) ?_
      exact H
    · have H := H.2 (cI2f q2 rfl rfl)
      refine rc_b (i' := 27) (ls' := [some (vR 21), some (vR 11), some (vI x2), some (vI x3), some (vI x4), some (vI r1), some (vI ((nI 401) - 1))]) (st' := []) (L' := LT u z1 f1) 7 (bc11_116_8 call x2 x3 x4 o5 o6 r1 z1 f1) ?_
      exact H
set_option maxRecDepth 100000 in
theorem bc27_116_1 (call : QC FA) (x2 : Int32) (x3 : Int32) (x4 : Int32) (x5 : Int32) (x6 : Int32) (L : QH FA) (F : Nat) : rnG call 116 (F + 2) 27 [some (vR 21), some (vR 11), some (vI x2), some (vI x3), some (vI x4), some (vI x5), some (vI x6)] [] L = rnG call 116 F 29 [some (vR 21), some (vR 11), some (vI x2), some (vI x3), some (vI x4), some (vI x5), some (vI x6)] [vI x5, vI x6] L := rfl
set_option maxRecDepth 100000 in
theorem bc27_116_2 (call : QC FA) (x y : Int32) (ls : List (Option PV)) (L : QH FA) (F : Nat) : rnG call 116 (F + 1) 29 ls [vI y, vI x] L = bif pcmp 2 x y then rnG call 116 F 45 ls [] L else rnG call 116 F 30 ls [] L := rfl
set_option maxRecDepth 100000 in
theorem bc27_116_3 (call : QC FA) (x2 : Int32) (x3 : Int32) (x4 : Int32) (x5 : Int32) (x6 : Int32) (L : QH FA) (F : Nat) : rnG call 116 (F + 1) 45 [some (vR 21), some (vR 11), some (vI x2), some (vI x3), some (vI x4), some (vI x5), some (vI x6)] [] L = rnG call 116 F 46 [some (vR 21), some (vR 11), some (vI x2), some (vI x3), some (vI (x4 + 1)), some (vI x5), some (vI x6)] [] L := rfl
set_option maxRecDepth 100000 in
theorem bc27_116_4 (call : QC FA) (x2 : Int32) (x3 : Int32) (x4 : Int32) (x5 : Int32) (x6 : Int32) (L : QH FA) (F : Nat) : rnG call 116 (F + 1) 46 [some (vR 21), some (vR 11), some (vI x2), some (vI x3), some (vI x4), some (vI x5), some (vI x6)] [] L = rnG call 116 F 11 [some (vR 21), some (vR 11), some (vI x2), some (vI x3), some (vI x4), some (vI x5), some (vI x6)] [] L := rfl
set_option maxRecDepth 100000 in
theorem bc27_116_5 (call : QC FA) (x2 : Int32) (x3 : Int32) (x4 : Int32) (x5 : Int32) (x6 : Int32) (z : Nat → Int32) (f : Nat → FA) (F : Nat) : rnG call 116 (F + 4) 30 [some (vR 21), some (vR 11), some (vI x2), some (vI x3), some (vI x4), some (vI x5), some (vI x6)] [] (LT u z f) = rnG call 116 F 34 [some (vR 21), some (vR 11), some (vI x2), some (vI x3), some (vI x4), some (vI x5), some (vI x6)] [vI x6, vR 22, vI x6, vR 22] (LT u z f) := rfl
set_option maxRecDepth 100000 in
theorem bc27_116_6 (call : QC FA) (x : Int32) (s0 : Int32) (ls : List (Option PV)) (z : Nat → Int32) (f : Nat → FA) (F : Nat) : rnG call 116 (F + 1) 34 ls [vI x, vR 22, vI s0, vR 22] (LT u z f) = bif (Nat.beq 0 0 && pin x 401) then rnG call 116 F 35 ls [vI (f 22 (ix x)), vI s0, vR 22] (LT u z f) else none := rfl
set_option maxRecDepth 100000 in
theorem bc27_116_7 (call : QC FA) (x2 : Int32) (x3 : Int32) (x4 : Int32) (x5 : Int32) (x6 : Int32) (s0 : Int32) (s1 : Int32) (z : Nat → Int32) (f : Nat → FA) (F : Nat) : rnG call 116 (F + 5) 35 [some (vR 21), some (vR 11), some (vI x2), some (vI x3), some (vI x4), some (vI x5), some (vI x6)] [vI s0, vI s1, vR 22] (LT u z f) = rnG call 116 F 40 [some (vR 21), some (vR 11), some (vI x2), some (vI x3), some (vI x4), some (vI x5), some (vI x6)] [vI (x6 - x5), vR 22, vI s0, vI s1, vR 22] (LT u z f) := rfl
set_option maxRecDepth 100000 in
theorem bc27_116_8 (call : QC FA) (x : Int32) (s0 : Int32) (s1 : Int32) (ls : List (Option PV)) (z : Nat → Int32) (f : Nat → FA) (F : Nat) : rnG call 116 (F + 1) 40 ls [vI x, vR 22, vI s0, vI s1, vR 22] (LT u z f) = bif (Nat.beq 0 0 && pin x 401) then rnG call 116 F 41 ls [vI (f 22 (ix x)), vI s0, vI s1, vR 22] (LT u z f) else none := rfl
set_option maxRecDepth 100000 in
theorem bc27_116_9 (call : QC FA) (x2 : Int32) (x3 : Int32) (x4 : Int32) (x5 : Int32) (x6 : Int32) (s0 : Int32) (s1 : Int32) (s2 : Int32) (L : QH FA) (F : Nat) : rnG call 116 (F + 1) 41 [some (vR 21), some (vR 11), some (vI x2), some (vI x3), some (vI x4), some (vI x5), some (vI x6)] [vI s0, vI s1, vI s2, vR 22] L = rnG call 116 F 42 [some (vR 21), some (vR 11), some (vI x2), some (vI x3), some (vI x4), some (vI x5), some (vI x6)] [vI (s1 ||| s0), vI s2, vR 22] L := rfl
set_option maxRecDepth 100000 in
theorem bc27_116_10 (call : QC FA) (x y : Int32) (ls : List (Option PV)) (z : Nat → Int32) (f : Nat → FA) (F : Nat) : rnG call 116 (F + 1) 42 ls [vI y, vI x, vR 22] (LT u z f) = bif (Nat.beq 0 0 && pin x 401) then rnG call 116 F 43 ls [] (LT u z (uA f 22 (upd (f 22) (ix x) y))) else none := rfl
theorem bc27_116_11i (ih : QK FA) (t : Nat) (v x : Int32) (l0 l1 l2 l3 l4 l5 : Option PV) (st : List PV) (L : QH FA) : p_iinc ih fzF 6 v t [l0, l1, l2, l3, l4, l5, some (vI x)] st L = ih t [l0, l1, l2, l3, l4, l5, some (vI (x + v))] st L := rfl
set_option maxRecDepth 100000 in
theorem bc27_116_11 (call : QC FA) (x2 : Int32) (x3 : Int32) (x4 : Int32) (x5 : Int32) (x6 : Int32) (L : QH FA) (F : Nat) : rnG call 116 (F + 1) 43 [some (vR 21), some (vR 11), some (vI x2), some (vI x3), some (vI x4), some (vI x5), some (vI x6)] [] L = rnG call 116 F 44 [some (vR 21), some (vR 11), some (vI x2), some (vI x3), some (vI x4), some (vI x5), some (vI (x6 + (-1)))] [] L := bc27_116_11i (rnG call 116 F) 44 (-1) x6 _ _ _ _ _ _ _ _
set_option maxRecDepth 100000 in
theorem bc27_116_12 (call : QC FA) (x2 : Int32) (x3 : Int32) (x4 : Int32) (x5 : Int32) (x6 : Int32) (L : QH FA) (F : Nat) : rnG call 116 (F + 1) 44 [some (vR 21), some (vR 11), some (vI x2), some (vI x3), some (vI x4), some (vI x5), some (vI x6)] [] L = rnG call 116 F 27 [some (vR 21), some (vR 11), some (vI x2), some (vI x3), some (vI x4), some (vI x5), some (vI x6)] [] L := rfl
theorem vcc27_116_27 (call : QC FA) (x2 : Int32) (x3 : Int32) (x4 : Int32) (x5 : Int32) (x6 : Int32) (z : Nat → Int32) (f : Nat → FA) (res : Option PV × QH FA) (H : ((I x6 < I x5 → RC call (mP 116) 11 [some (vR 21), some (vR 11), some (vI x2), some (vI x3), some (vI (x4 + 1)), some (vI x5), some (vI x6)] [] (LT u z f) res) ∧ (I x5 ≤ I x6 → (pin x6 401 = true ∧ (pin (x6 - x5) 401 = true ∧ (pin x6 401 = true ∧ RC call (mP 116) 27 [some (vR 21), some (vR 11), some (vI x2), some (vI x3), some (vI x4), some (vI x5), some (vI (x6 + (-1)))] [] (LT u z (uA f 22 (upd (f 22) (ix x6) ((f 22 (ix x6)) ||| (f 22 (ix (x6 - x5))))))) res)))))) : RC call (mP 116) 27 [some (vR 21), some (vR 11), some (vI x2), some (vI x3), some (vI x4), some (vI x5), some (vI x6)] [] (LT u z f) res := by
  refine rc_b (i' := 29) (ls' := [some (vR 21), some (vR 11), some (vI x2), some (vI x3), some (vI x4), some (vI x5), some (vI x6)]) (st' := [vI x5, vI x6]) (L' := LT u z f) 2 (bc27_116_1 call x2 x3 x4 x5 x6 _) ?_
  refine rc_if (it := 45) (ie := 30) (ls' := [some (vR 21), some (vR 11), some (vI x2), some (vI x3), some (vI x4), some (vI x5), some (vI x6)]) (st' := []) (bc27_116_2 call x6 x5 _ _) (fun q1 => ?_) (fun q1 => ?_)
  · have H := H.1 (cI2t q1 rfl rfl)
    refine rc_b (i' := 46) (ls' := [some (vR 21), some (vR 11), some (vI x2), some (vI x3), some (vI (x4 + 1)), some (vI x5), some (vI x6)]) (st' := []) (L' := LT u z f) 1 (bc27_116_3 call x2 x3 x4 x5 x6 _) ?_
    refine rc_b (i' := 11) (ls' := [some (vR 21), some (vR 11), some (vI x2), some (vI x3), some (vI (x4 + 1)), some (vI x5), some (vI x6)]) (st' := []) (L' := LT u z f) 1 (bc27_116_4 call x2 x3 (x4 + 1) x5 x6 _) ?_
    exact H
  · have H := H.2 (cI2f q1 rfl rfl)
    refine rc_b (i' := 34) (ls' := [some (vR 21), some (vR 11), some (vI x2), some (vI x3), some (vI x4), some (vI x5), some (vI x6)]) (st' := [vI x6, vR 22, vI x6, vR 22]) (L' := LT u z f) 4 (bc27_116_5 call x2 x3 x4 x5 x6 z f) ?_
    obtain ⟨g1, H⟩ := H
    refine rc_g (i' := 35) (ls' := [some (vR 21), some (vR 11), some (vI x2), some (vI x3), some (vI x4), some (vI x5), some (vI x6)]) (st' := [vI (f 22 (ix x6)), vI x6, vR 22]) (L' := LT u z f) (bc27_116_6 call x6 x6 _ z f) (pinG g1) ?_
    refine rc_b (i' := 40) (ls' := [some (vR 21), some (vR 11), some (vI x2), some (vI x3), some (vI x4), some (vI x5), some (vI x6)]) (st' := [vI (x6 - x5), vR 22, vI (f 22 (ix x6)), vI x6, vR 22]) (L' := LT u z f) 5 (bc27_116_7 call x2 x3 x4 x5 x6 (f 22 (ix x6)) x6 z f) ?_
    obtain ⟨g1, H⟩ := H
    refine rc_g (i' := 41) (ls' := [some (vR 21), some (vR 11), some (vI x2), some (vI x3), some (vI x4), some (vI x5), some (vI x6)]) (st' := [vI (f 22 (ix (x6 - x5))), vI (f 22 (ix x6)), vI x6, vR 22]) (L' := LT u z f) (bc27_116_8 call (x6 - x5) (f 22 (ix x6)) x6 _ z f) (pinG g1) ?_
    refine rc_b (i' := 42) (ls' := [some (vR 21), some (vR 11), some (vI x2), some (vI x3), some (vI x4), some (vI x5), some (vI x6)]) (st' := [vI ((f 22 (ix x6)) ||| (f 22 (ix (x6 - x5)))), vI x6, vR 22]) (L' := LT u z f) 1 (bc27_116_9 call x2 x3 x4 x5 x6 (f 22 (ix (x6 - x5))) (f 22 (ix x6)) x6 _) ?_
    obtain ⟨g1, H⟩ := H
    refine rc_g (i' := 43) (ls' := [some (vR 21), some (vR 11), some (vI x2), some (vI x3), some (vI x4), some (vI x5), some (vI x6)]) (st' := []) (L' := LT u z (uA f 22 (upd (f 22) (ix x6) ((f 22 (ix x6)) ||| (f 22 (ix (x6 - x5))))))) (bc27_116_10 call x6 ((f 22 (ix x6)) ||| (f 22 (ix (x6 - x5)))) _ z f) (pinG g1) ?_
    refine rc_b (i' := 44) (ls' := [some (vR 21), some (vR 11), some (vI x2), some (vI x3), some (vI x4), some (vI x5), some (vI (x6 + (-1)))]) (st' := []) (L' := LT u z (uA f 22 (upd (f 22) (ix x6) ((f 22 (ix x6)) ||| (f 22 (ix (x6 - x5))))))) 1 (bc27_116_11 call x2 x3 x4 x5 x6 _) ?_
    refine rc_b (i' := 27) (ls' := [some (vR 21), some (vR 11), some (vI x2), some (vI x3), some (vI x4), some (vI x5), some (vI (x6 + (-1)))]) (st' := []) (L' := LT u z (uA f 22 (upd (f 22) (ix x6) ((f 22 (ix x6)) ||| (f 22 (ix (x6 - x5))))))) 1 (bc27_116_12 call x2 x3 x4 x5 (x6 + (-1)) _) ?_
    exact H
set_option maxRecDepth 100000 in
theorem bc53_116_1 (call : QC FA) (x2 : Int32) (x3 : Int32) (x4 : Int32) (x5 : Int32) (x6 : Int32) (L : QH FA) (F : Nat) : rnG call 116 (F + 2) 53 [some (vR 21), some (vR 11), some (vI x2), some (vI x3), some (vI x4), some (vI x5), some (vI x6)] [] L = rnG call 116 F 55 [some (vR 21), some (vR 11), some (vI x2), some (vI x3), some (vI x4), some (vI x5), some (vI x6)] [vI x2, vI x6] L := rfl
set_option maxRecDepth 100000 in
theorem bc53_116_2 (call : QC FA) (x y : Int32) (ls : List (Option PV)) (L : QH FA) (F : Nat) : rnG call 116 (F + 1) 55 ls [vI y, vI x] L = bif pcmp 4 x y then rnG call 116 F 72 ls [] L else rnG call 116 F 56 ls [] L := rfl
set_option maxRecDepth 100000 in
theorem bc53_116_3 (call : QC FA) (x2 : Int32) (x3 : Int32) (x4 : Int32) (x5 : Int32) (x6 : Int32) (L : QH FA) (F : Nat) : rnG call 116 (F + 1) 72 [some (vR 21), some (vR 11), some (vI x2), some (vI x3), some (vI x4), some (vI x5), some (vI x6)] [] L = rnG call 116 F 73 [some (vR 21), some (vR 11), some (vI x2), some (vI x3), some (vI x4), some (vI x5), some (vI x6)] [vI x3] L := rfl
set_option maxRecDepth 100000 in
theorem bc53_116_4 (call : QC FA) (x : Int32) (ls : List (Option PV)) (L : QH FA) (F : Nat) : rnG call 116 (F + 1) 73 ls [vI x] L = bif pcmp 0 x 0 then rnG call 116 F 76 ls [] L else rnG call 116 F 74 ls [] L := rfl
set_option maxRecDepth 100000 in
theorem bc53_116_5 (call : QC FA) (x2 : Int32) (x3 : Int32) (x4 : Int32) (x5 : Int32) (x6 : Int32) (L : QH FA) (F : Nat) : rnG call 116 (F + 1) 76 [some (vR 21), some (vR 11), some (vI x2), some (vI x3), some (vI x4), some (vI x5), some (vI x6)] [] L = rnG call 116 F 77 [some (vR 21), some (vR 11), some (vI x2), some (vI x3), some (vI x4), some (vI x5), some (vI x6)] [vI x5] L := rfl
set_option maxRecDepth 100000 in
theorem bc53_116_6 (call : QC FA) (x : Int32) (ls : List (Option PV)) (L : QH FA) (F : Nat) : rnG call 116 (F + 1) 77 ls [vI x] L = some (some (vI x), L) := rfl
set_option maxRecDepth 100000 in
theorem bc53_116_7 (call : QC FA) (x2 : Int32) (x3 : Int32) (x4 : Int32) (x5 : Int32) (x6 : Int32) (L : QH FA) (F : Nat) : rnG call 116 (F + 2) 74 [some (vR 21), some (vR 11), some (vI x2), some (vI x3), some (vI x4), some (vI x5), some (vI x6)] [] L = rnG call 116 F 77 [some (vR 21), some (vR 11), some (vI x2), some (vI x3), some (vI x4), some (vI x5), some (vI x6)] [vI x4] L := rfl
set_option maxRecDepth 100000 in
theorem bc53_116_8 (call : QC FA) (x2 : Int32) (x3 : Int32) (x4 : Int32) (x5 : Int32) (x6 : Int32) (z : Nat → Int32) (f : Nat → FA) (F : Nat) : rnG call 116 (F + 4) 56 [some (vR 21), some (vR 11), some (vI x2), some (vI x3), some (vI x4), some (vI x5), some (vI x6)] [] (LT u z f) = rnG call 116 F 60 [some (vR 21), some (vR 11), some (vI x2), some (vI x3), some (vI x4), some (vI x5), some (vI x6)] [vI (nI 401), vI x6] (LT u z f) := rfl
set_option maxRecDepth 100000 in
theorem bc53_116_9 (call : QC FA) (x y : Int32) (ls : List (Option PV)) (L : QH FA) (F : Nat) : rnG call 116 (F + 1) 60 ls [vI y, vI x] L = bif pcmp 3 x y then rnG call 116 F 72 ls [] L else rnG call 116 F 61 ls [] L := rfl
set_option maxRecDepth 100000 in
theorem bc53_116_10 (call : QC FA) (x2 : Int32) (x3 : Int32) (x4 : Int32) (x5 : Int32) (x6 : Int32) (z : Nat → Int32) (f : Nat → FA) (F : Nat) : rnG call 116 (F + 3) 61 [some (vR 21), some (vR 11), some (vI x2), some (vI x3), some (vI x4), some (vI x5), some (vI x6)] [] (LT u z f) = rnG call 116 F 64 [some (vR 21), some (vR 11), some (vI x2), some (vI x3), some (vI x4), some (vI x5), some (vI x6)] [vI x6, vR 22] (LT u z f) := rfl
set_option maxRecDepth 100000 in
theorem bc53_116_11 (call : QC FA) (x : Int32) (ls : List (Option PV)) (z : Nat → Int32) (f : Nat → FA) (F : Nat) : rnG call 116 (F + 1) 64 ls [vI x, vR 22] (LT u z f) = bif (Nat.beq 0 0 && pin x 401) then rnG call 116 F 65 ls [vI (f 22 (ix x))] (LT u z f) else none := rfl
set_option maxRecDepth 100000 in
theorem bc53_116_12 (call : QC FA) (x2 : Int32) (x3 : Int32) (x4 : Int32) (x5 : Int32) (x6 : Int32) (s0 : Int32) (L : QH FA) (F : Nat) : rnG call 116 (F + 1) 65 [some (vR 21), some (vR 11), some (vI x2), some (vI x3), some (vI x4), some (vI x5), some (vI x6)] [vI s0] L = rnG call 116 F 66 [some (vR 21), some (vR 11), some (vI x2), some (vI x3), some (vI x4), some (vI x5), some (vI x6)] [vI 1, vI s0] L := rfl
set_option maxRecDepth 100000 in
theorem bc53_116_13 (call : QC FA) (x y : Int32) (ls : List (Option PV)) (L : QH FA) (F : Nat) : rnG call 116 (F + 1) 66 ls [vI y, vI x] L = bif pcmp 1 x y then rnG call 116 F 70 ls [] L else rnG call 116 F 67 ls [] L := rfl
set_option maxRecDepth 100000 in
theorem bc53_116_14 (call : QC FA) (x2 : Int32) (x3 : Int32) (x4 : Int32) (x5 : Int32) (x6 : Int32) (L : QH FA) (F : Nat) : rnG call 116 (F + 1) 70 [some (vR 21), some (vR 11), some (vI x2), some (vI x3), some (vI x4), some (vI x5), some (vI x6)] [] L = rnG call 116 F 71 [some (vR 21), some (vR 11), some (vI x2), some (vI x3), some (vI x4), some (vI x5), some (vI (x6 + 1))] [] L := rfl
set_option maxRecDepth 100000 in
theorem bc53_116_15 (call : QC FA) (x2 : Int32) (x3 : Int32) (x4 : Int32) (x5 : Int32) (x6 : Int32) (L : QH FA) (F : Nat) : rnG call 116 (F + 1) 71 [some (vR 21), some (vR 11), some (vI x2), some (vI x3), some (vI x4), some (vI x5), some (vI x6)] [] L = rnG call 116 F 53 [some (vR 21), some (vR 11), some (vI x2), some (vI x3), some (vI x4), some (vI x5), some (vI x6)] [] L := rfl
set_option maxRecDepth 100000 in
theorem bc53_116_16 (call : QC FA) (x2 : Int32) (x3 : Int32) (x4 : Int32) (x5 : Int32) (x6 : Int32) (L : QH FA) (F : Nat) : rnG call 116 (F + 1) 67 [some (vR 21), some (vR 11), some (vI x2), some (vI x3), some (vI x4), some (vI x5), some (vI x6)] [] L = rnG call 116 F 68 [some (vR 21), some (vR 11), some (vI x2), some (vI x3), some (vI (x4 + 1)), some (vI x5), some (vI x6)] [] L := rfl
set_option maxRecDepth 100000 in
theorem bc53_116_17 (call : QC FA) (x2 : Int32) (x3 : Int32) (x4 : Int32) (x5 : Int32) (x6 : Int32) (L : QH FA) (F : Nat) : rnG call 116 (F + 2) 68 [some (vR 21), some (vR 11), some (vI x2), some (vI x3), some (vI x4), some (vI x5), some (vI x6)] [] L = rnG call 116 F 70 [some (vR 21), some (vR 11), some (vI x2), some (vI x3), some (vI x4), some (vI x6), some (vI x6)] [] L := rfl
theorem vcc53_116_53 (call : QC FA) (x2 : Int32) (x3 : Int32) (x4 : Int32) (x5 : Int32) (x6 : Int32) (z : Nat → Int32) (f : Nat → FA) (res : Option PV × QH FA) (H : ((I x2 < I x6 → ((x3 = 0 → res = (some (vI x5), LT u z f)) ∧ (¬ x3 = 0 → res = (some (vI x4), LT u z f)))) ∧ (I x6 ≤ I x2 → ((I (nI 401) ≤ I x6 → ((x3 = 0 → res = (some (vI x5), LT u z f)) ∧ (¬ x3 = 0 → res = (some (vI x4), LT u z f)))) ∧ (I x6 < I (nI 401) → (pin x6 401 = true ∧ ((¬ f 22 (ix x6) = 1 → RC call (mP 116) 53 [some (vR 21), some (vR 11), some (vI x2), some (vI x3), some (vI x4), some (vI x5), some (vI (x6 + 1))] [] (LT u z f) res) ∧ (f 22 (ix x6) = 1 → RC call (mP 116) 53 [some (vR 21), some (vR 11), some (vI x2), some (vI x3), some (vI (x4 + 1)), some (vI x6), some (vI (x6 + 1))] [] (LT u z f) res)))))))) : RC call (mP 116) 53 [some (vR 21), some (vR 11), some (vI x2), some (vI x3), some (vI x4), some (vI x5), some (vI x6)] [] (LT u z f) res := by
  refine rc_b (i' := 55) (ls' := [some (vR 21), some (vR 11), some (vI x2), some (vI x3), some (vI x4), some (vI x5), some (vI x6)]) (st' := [vI x2, vI x6]) (L' := LT u z f) 2 (bc53_116_1 call x2 x3 x4 x5 x6 _) ?_
  refine rc_if (it := 72) (ie := 56) (ls' := [some (vR 21), some (vR 11), some (vI x2), some (vI x3), some (vI x4), some (vI x5), some (vI x6)]) (st' := []) (bc53_116_2 call x6 x2 _ _) (fun q1 => ?_) (fun q1 => ?_)
  · have H := H.1 (cI4t q1 rfl rfl)
    refine rc_b (i' := 73) (ls' := [some (vR 21), some (vR 11), some (vI x2), some (vI x3), some (vI x4), some (vI x5), some (vI x6)]) (st' := [vI x3]) (L' := LT u z f) 1 (bc53_116_3 call x2 x3 x4 x5 x6 _) ?_
    refine rc_if (it := 76) (ie := 74) (ls' := [some (vR 21), some (vR 11), some (vI x2), some (vI x3), some (vI x4), some (vI x5), some (vI x6)]) (st' := []) (bc53_116_4 call x3 _ _) (fun q2 => ?_) (fun q2 => ?_)
    · have H := H.1 (cI0t q2)
      refine rc_b (i' := 77) (ls' := [some (vR 21), some (vR 11), some (vI x2), some (vI x3), some (vI x4), some (vI x5), some (vI x6)]) (st' := [vI x5]) (L' := LT u z f) 1 (bc53_116_5 call x2 x3 x4 x5 x6 _) ?_
      subst H
      exact rc_ret (bc53_116_6 call _ _ _)
    · have H := H.2 (cI0f q2)
      refine rc_b (i' := 77) (ls' := [some (vR 21), some (vR 11), some (vI x2), some (vI x3), some (vI x4), some (vI x5), some (vI x6)]) (st' := [vI x4]) (L' := LT u z f) 2 (bc53_116_7 call x2 x3 x4 x5 x6 _) ?_
      subst H
      exact rc_ret (bc53_116_6 call _ _ _)
  · have H := H.2 (cI4f q1 rfl rfl)
    refine rc_b (i' := 60) (ls' := [some (vR 21), some (vR 11), some (vI x2), some (vI x3), some (vI x4), some (vI x5), some (vI x6)]) (st' := [vI (nI 401), vI x6]) (L' := LT u z f) 4 (bc53_116_8 call x2 x3 x4 x5 x6 z f) ?_
    refine rc_if (it := 72) (ie := 61) (ls' := [some (vR 21), some (vR 11), some (vI x2), some (vI x3), some (vI x4), some (vI x5), some (vI x6)]) (st' := []) (bc53_116_9 call x6 (nI 401) _ _) (fun q3 => ?_) (fun q3 => ?_)
    · have H := H.1 (cI3t q3 rfl rfl)
      refine rc_b (i' := 73) (ls' := [some (vR 21), some (vR 11), some (vI x2), some (vI x3), some (vI x4), some (vI x5), some (vI x6)]) (st' := [vI x3]) (L' := LT u z f) 1 (bc53_116_3 call x2 x3 x4 x5 x6 _) ?_
      refine rc_if (it := 76) (ie := 74) (ls' := [some (vR 21), some (vR 11), some (vI x2), some (vI x3), some (vI x4), some (vI x5), some (vI x6)]) (st' := []) (bc53_116_4 call x3 _ _) (fun q4 => ?_) (fun q4 => ?_)
      · have H := H.1 (cI0t q4)
        refine rc_b (i' := 77) (ls' := [some (vR 21), some (vR 11), some (vI x2), some (vI x3), some (vI x4), some (vI x5), some (vI x6)]) (st' := [vI x5]) (L' := LT u z f) 1 (bc53_116_5 call x2 x3 x4 x5 x6 _) ?_
        subst H
        exact rc_ret (bc53_116_6 call _ _ _)
      · have H := H.2 (cI0f q4)
        refine rc_b (i' := 77) (ls' := [some (vR 21), some (vR 11), some (vI x2), some (vI x3), some (vI x4), some (vI x5), some (vI x6)]) (st' := [vI x4]) (L' := LT u z f) 2 (bc53_116_7 call x2 x3 x4 x5 x6 _) ?_
        subst H
        exact rc_ret (bc53_116_6 call _ _ _)
    · have H := H.2 (cI3f q3 rfl rfl)
      refine rc_b (i' := 64) (ls' := [some (vR 21), some (vR 11), some (vI x2), some (vI x3), some (vI x4), some (vI x5), some (vI x6)]) (st' := [vI x6, vR 22]) (L' := LT u z f) 3 (bc53_116_10 call x2 x3 x4 x5 x6 z f) ?_
      obtain ⟨g1, H⟩ := H
      refine rc_g (i' := 65) (ls' := [some (vR 21), some (vR 11), some (vI x2), some (vI x3), some (vI x4), some (vI x5), some (vI x6)]) (st' := [vI (f 22 (ix x6))]) (L' := LT u z f) (bc53_116_11 call x6 _ z f) (pinG g1) ?_
      refine rc_b (i' := 66) (ls' := [some (vR 21), some (vR 11), some (vI x2), some (vI x3), some (vI x4), some (vI x5), some (vI x6)]) (st' := [vI 1, vI (f 22 (ix x6))]) (L' := LT u z f) 1 (bc53_116_12 call x2 x3 x4 x5 x6 (f 22 (ix x6)) _) ?_
      refine rc_if (it := 70) (ie := 67) (ls' := [some (vR 21), some (vR 11), some (vI x2), some (vI x3), some (vI x4), some (vI x5), some (vI x6)]) (st' := []) (bc53_116_13 call (f 22 (ix x6)) 1 _ _) (fun q5 => ?_) (fun q5 => ?_)
      · have H := H.1 (cI1t q5)
        refine rc_b (i' := 71) (ls' := [some (vR 21), some (vR 11), some (vI x2), some (vI x3), some (vI x4), some (vI x5), some (vI (x6 + 1))]) (st' := []) (L' := LT u z f) 1 (bc53_116_14 call x2 x3 x4 x5 x6 _) ?_
        refine rc_b (i' := 53) (ls' := [some (vR 21), some (vR 11), some (vI x2), some (vI x3), some (vI x4), some (vI x5), some (vI (x6 + 1))]) (st' := []) (L' := LT u z f) 1 (bc53_116_15 call x2 x3 x4 x5 (x6 + 1) _) ?_
        exact H
      · have H := H.2 (cI1f q5)
        refine rc_b (i' := 68) (ls' := [some (vR 21), some (vR 11), some (vI x2), some (vI x3), some (vI (x4 + 1)), some (vI x5), some (vI x6)]) (st' := []) (L' := LT u z f) 1 (bc53_116_16 call x2 x3 x4 x5 x6 _) ?_
        refine rc_b (i' := 70) (ls' := [some (vR 21), some (vR 11), some (vI x2), some (vI x3), some (vI (x4 + 1)), some (vI x6), some (vI x6)]) (st' := []) (L' := LT u z f) 2 (bc53_116_17 call x2 x3 (x4 + 1) x5 x6 _) ?_
        refine rc_b (i' := 71) (ls' := [some (vR 21), some (vR 11), some (vI x2), some (vI x3), some (vI (x4 + 1)), some (vI x6), some (vI (x6 + 1))]) (st' := []) (L' := LT u z f) 1 (bc53_116_14 call x2 x3 (x4 + 1) x6 x6 _) ?_
        refine rc_b (i' := 53) (ls' := [some (vR 21), some (vR 11), some (vI x2), some (vI x3), some (vI (x4 + 1)), some (vI x6), some (vI (x6 + 1))]) (st' := []) (L' := LT u z f) 1 (bc53_116_15 call x2 x3 (x4 + 1) x6 (x6 + 1) _) ?_
        exact H
set_option maxRecDepth 100000 in
theorem b154_1 (call : QC FA) (x1 : Int32) (x2 : Int32) (L : QH FA) (F : Nat) : rnG call 154 (F + 1) 0 [some (vR 0), some (vI x1), some (vI x2)] [] L = rnG call 154 F 1 [some (vR 0), some (vI x1), some (vI x2)] [vI x1] L := rfl
set_option maxRecDepth 100000 in
theorem b154_2 (call : QC FA) (x : Int32) (ls : List (Option PV)) (L : QH FA) (F : Nat) : rnG call 154 (F + 1) 1 ls [vI x] L = bif pcmp 2 x 0 then rnG call 154 F 10 ls [] L else rnG call 154 F 2 ls [] L := rfl
set_option maxRecDepth 100000 in
theorem b154_3 (call : QC FA) (x1 : Int32) (x2 : Int32) (L : QH FA) (F : Nat) : rnG call 154 (F + 1) 10 [some (vR 0), some (vI x1), some (vI x2)] [] L = rnG call 154 F 11 [some (vR 0), some (vI x1), some (vI x2)] [vI ((-1))] L := rfl
set_option maxRecDepth 100000 in
theorem b154_4 (call : QC FA) (x : Int32) (ls : List (Option PV)) (L : QH FA) (F : Nat) : rnG call 154 (F + 1) 11 ls [vI x] L = some (some (vI x), L) := rfl
set_option maxRecDepth 100000 in
theorem b154_5 (call : QC FA) (x1 : Int32) (x2 : Int32) (L : QH FA) (F : Nat) : rnG call 154 (F + 2) 2 [some (vR 0), some (vI x1), some (vI x2)] [] L = rnG call 154 F 4 [some (vR 0), some (vI x1), some (vI x2)] [vI 400, vI x1] L := rfl
set_option maxRecDepth 100000 in
theorem b154_6 (call : QC FA) (x y : Int32) (ls : List (Option PV)) (L : QH FA) (F : Nat) : rnG call 154 (F + 1) 4 ls [vI y, vI x] L = bif pcmp 4 x y then rnG call 154 F 10 ls [] L else rnG call 154 F 5 ls [] L := rfl
set_option maxRecDepth 100000 in
theorem b154_7 (call : QC FA) (x1 : Int32) (x2 : Int32) (L : QH FA) (F : Nat) : rnG call 154 (F + 1) 5 [some (vR 0), some (vI x1), some (vI x2)] [] L = rnG call 154 F 6 [some (vR 0), some (vI x1), some (vI x2)] [vI x2] L := rfl
set_option maxRecDepth 100000 in
theorem b154_8 (call : QC FA) (x : Int32) (ls : List (Option PV)) (L : QH FA) (F : Nat) : rnG call 154 (F + 1) 6 ls [vI x] L = bif pcmp 2 x 0 then rnG call 154 F 10 ls [] L else rnG call 154 F 7 ls [] L := rfl
set_option maxRecDepth 100000 in
theorem b154_9 (call : QC FA) (x1 : Int32) (x2 : Int32) (L : QH FA) (F : Nat) : rnG call 154 (F + 2) 7 [some (vR 0), some (vI x1), some (vI x2)] [] L = rnG call 154 F 9 [some (vR 0), some (vI x1), some (vI x2)] [vI 1, vI x2] L := rfl
set_option maxRecDepth 100000 in
theorem b154_10 (call : QC FA) (x y : Int32) (ls : List (Option PV)) (L : QH FA) (F : Nat) : rnG call 154 (F + 1) 9 ls [vI y, vI x] L = bif pcmp 5 x y then rnG call 154 F 12 ls [] L else rnG call 154 F 10 ls [] L := rfl
set_option maxRecDepth 100000 in
theorem b154_11 (call : QC FA) (x1 : Int32) (x2 : Int32) (z : Nat → Int32) (f : Nat → FA) (F : Nat) : rnG call 154 (F + 6) 12 [some (vR 0), some (vI x1), some (vI x2)] [] (LT u z f) = rnG call 154 F 18 [some (vR 0), some (vI x1), some (vI x2)] [vI 4, vR 2, vR 21] (LT u z f) := rfl
set_option maxRecDepth 100000 in
theorem b154_12 (call : QC FA) (x : Int32) (ls : List (Option PV)) (z : Nat → Int32) (f : Nat → FA) (F : Nat) : rnG call 154 (F + 1) 18 ls [vI x, vR 2, vR 21] (LT u z f) = bif ((Nat.beq 3 1 || (Nat.beq 3 2 || Nat.beq 3 3)) && pin x 9) then rnG call 154 F 19 ls [.inr (.inl (wT u (ix x))), vR 21] (LT u z f) else none := rfl
set_option maxRecDepth 100000 in
theorem b154_13 (call : QC FA) (x1 : Int32) (x2 : Int32) (L : QH FA) (F : Nat) : rnG call 154 (F + 2) 19 [some (vR 0), some (vI x1), some (vI x2)] [vR 11, vR 21] L = rnG call 154 F 21 [some (vR 0), some (vI x1), some (vI x2)] [vI x2, vI x1, vR 11, vR 21] L := rfl
set_option maxRecDepth 100000 in
theorem b154_14 (call : QC FA) (x : Int32) (s0 : Int32) (ls : List (Option PV)) (L : QH FA) (F : Nat) : rnG call 154 (F + 1) 21 ls [vI x, vI s0, vR 11, vR 21] L = bif pcmp 1 x 0 then rnG call 154 F 24 ls [vI s0, vR 11, vR 21] L else rnG call 154 F 22 ls [vI s0, vR 11, vR 21] L := rfl
set_option maxRecDepth 100000 in
theorem b154_15 (call : QC FA) (x1 : Int32) (x2 : Int32) (s0 : Int32) (L : QH FA) (F : Nat) : rnG call 154 (F + 1) 24 [some (vR 0), some (vI x1), some (vI x2)] [vI s0, vR 11, vR 21] L = rnG call 154 F 25 [some (vR 0), some (vI x1), some (vI x2)] [vI 0, vI s0, vR 11, vR 21] L := rfl
set_option maxRecDepth 100000 in
theorem b154_16 (call : QC FA) (a1 : Int32) (a2 : Int32) (ls : List (Option PV)) (z : Nat → Int32) (f : Nat → FA) (F : Nat) : rnG call 154 (F + 1) 25 ls [vI a2, vI a1, vR 11, vR 21] (LT u z f) = cbd (call 116 [vR 21, vR 11, vI a1, vI a2] (LT u z f)) (fun r L' => rnG call 154 F 26 ls (r.toList ++ []) L') := pcY (ih := rnG call 154 F) (call := call) (a := 116) (b := 3) (v := 4) (t := 26) (x := 21) (ls := ls) (As := [vR 11, vI a1, vI a2]) (st' := []) (L := LT u z f) rfl rfl rfl
set_option maxRecDepth 100000 in
theorem b154_17 (call : QC FA) (x : Int32) (ls : List (Option PV)) (L : QH FA) (F : Nat) : rnG call 154 (F + 1) 26 ls [vI x] L = some (some (vI x), L) := rfl
set_option maxRecDepth 100000 in
theorem b154_18 (call : QC FA) (x1 : Int32) (x2 : Int32) (s0 : Int32) (L : QH FA) (F : Nat) : rnG call 154 (F + 2) 22 [some (vR 0), some (vI x1), some (vI x2)] [vI s0, vR 11, vR 21] L = rnG call 154 F 25 [some (vR 0), some (vI x1), some (vI x2)] [vI 1, vI s0, vR 11, vR 21] L := rfl
theorem vc154_0 (call : QC FA) (x1 : Int32) (x2 : Int32) (z : Nat → Int32) (f : Nat → FA) (res : Option PV × QH FA) (H : ((I x1 < 0 → res = (some (vI ((-1))), LT u z f)) ∧ (0 ≤ I x1 → ((400 < I x1 → res = (some (vI ((-1))), LT u z f)) ∧ (I x1 ≤ 400 → ((I x2 < 0 → res = (some (vI ((-1))), LT u z f)) ∧ (0 ≤ I x2 → ((I x2 ≤ 1 → ((¬ x2 = 0 → (∃ (r1 : Int32) (z1 : Nat → Int32) (f1 : Nat → FA), call 116 [vR 21, vR 11, vI x1, vI 0] (LT u z f) = some (some (vI r1), LT u z1 f1) ∧ res = (some (vI r1), LT u z1 f1))) ∧ (x2 = 0 → (∃ (r2 : Int32) (z2 : Nat → Int32) (f2 : Nat → FA), call 116 [vR 21, vR 11, vI x1, vI 1] (LT u z f) = some (some (vI r2), LT u z2 f2) ∧ res = (some (vI r2), LT u z2 f2))))) ∧ (1 < I x2 → res = (some (vI ((-1))), LT u z f)))))))))) : RC call (mP 154) 0 [some (vR 0), some (vI x1), some (vI x2)] [] (LT u z f) res := by
  refine rc_b (i' := 1) (ls' := [some (vR 0), some (vI x1), some (vI x2)]) (st' := [vI x1]) (L' := LT u z f) 1 (b154_1 call x1 x2 _) ?_
  refine rc_if (it := 10) (ie := 2) (ls' := [some (vR 0), some (vI x1), some (vI x2)]) (st' := []) (b154_2 call x1 _ _) (fun q1 => ?_) (fun q1 => ?_)
  · have H := H.1 (cI2t q1 rfl rfl)
    refine rc_b (i' := 11) (ls' := [some (vR 0), some (vI x1), some (vI x2)]) (st' := [vI ((-1))]) (L' := LT u z f) 1 (b154_3 call x1 x2 _) ?_
    subst H
    exact rc_ret (b154_4 call _ _ _)
  · have H := H.2 (cI2f q1 rfl rfl)
    refine rc_b (i' := 4) (ls' := [some (vR 0), some (vI x1), some (vI x2)]) (st' := [vI 400, vI x1]) (L' := LT u z f) 2 (b154_5 call x1 x2 _) ?_
    refine rc_if (it := 10) (ie := 5) (ls' := [some (vR 0), some (vI x1), some (vI x2)]) (st' := []) (b154_6 call x1 400 _ _) (fun q2 => ?_) (fun q2 => ?_)
    · have H := H.1 (cI4t q2 rfl rfl)
      refine rc_b (i' := 11) (ls' := [some (vR 0), some (vI x1), some (vI x2)]) (st' := [vI ((-1))]) (L' := LT u z f) 1 (b154_3 call x1 x2 _) ?_
      subst H
      exact rc_ret (b154_4 call _ _ _)
    · have H := H.2 (cI4f q2 rfl rfl)
      refine rc_b (i' := 6) (ls' := [some (vR 0), some (vI x1), some (vI x2)]) (st' := [vI x2]) (L' := LT u z f) 1 (b154_7 call x1 x2 _) ?_
      refine rc_if (it := 10) (ie := 7) (ls' := [some (vR 0), some (vI x1), some (vI x2)]) (st' := []) (b154_8 call x2 _ _) (fun q3 => ?_) (fun q3 => ?_)
      · have H := H.1 (cI2t q3 rfl rfl)
        refine rc_b (i' := 11) (ls' := [some (vR 0), some (vI x1), some (vI x2)]) (st' := [vI ((-1))]) (L' := LT u z f) 1 (b154_3 call x1 x2 _) ?_
        subst H
        exact rc_ret (b154_4 call _ _ _)
      · have H := H.2 (cI2f q3 rfl rfl)
        refine rc_b (i' := 9) (ls' := [some (vR 0), some (vI x1), some (vI x2)]) (st' := [vI 1, vI x2]) (L' := LT u z f) 2 (b154_9 call x1 x2 _) ?_
        refine rc_if (it := 12) (ie := 10) (ls' := [some (vR 0), some (vI x1), some (vI x2)]) (st' := []) (b154_10 call x2 1 _ _) (fun q4 => ?_) (fun q4 => ?_)
        · have H := H.1 (cI5t q4 rfl rfl)
          refine rc_b (i' := 18) (ls' := [some (vR 0), some (vI x1), some (vI x2)]) (st' := [vI 4, vR 2, vR 21]) (L' := LT u z f) 6 (b154_11 call x1 x2 z f) ?_
          refine rc_g (i' := 19) (ls' := [some (vR 0), some (vI x1), some (vI x2)]) (st' := [.inr (.inl (wT u (ix 4))), vR 21]) (L' := LT u z f) (b154_12 call 4 _ z f) (by decide) ?_
          show RC call (mP 154) 19 [some (vR 0), some (vI x1), some (vI x2)] [vR 11, vR 21] (LT u z f) res
          refine rc_b (i' := 21) (ls' := [some (vR 0), some (vI x1), some (vI x2)]) (st' := [vI x2, vI x1, vR 11, vR 21]) (L' := LT u z f) 2 (b154_13 call x1 x2 _) ?_
          refine rc_if (it := 24) (ie := 22) (ls' := [some (vR 0), some (vI x1), some (vI x2)]) (st' := [vI x1, vR 11, vR 21]) (b154_14 call x2 x1 _ _) (fun q5 => ?_) (fun q5 => ?_)
          · have H := H.1 (cI1t q5)
            refine rc_b (i' := 25) (ls' := [some (vR 0), some (vI x1), some (vI x2)]) (st' := [vI 0, vI x1, vR 11, vR 21]) (L' := LT u z f) 1 (b154_15 call x1 x2 x1 _) ?_
            obtain ⟨r1, z1, f1, hc, H⟩ := H
            refine rc_call (t := 26) (ls' := [some (vR 0), some (vI x1), some (vI x2)]) (st' := []) (b154_16 call x1 0 _ z f) hc ?_
            show RC call (mP 154) 26 [some (vR 0), some (vI x1), some (vI x2)] [vI r1] (LT u z1 f1) res
            subst H
            exact rc_ret (b154_17 call _ _ _)
          · have H := H.2 (cI1f q5)
            refine rc_b (i' := 25) (ls' := [some (vR 0), some (vI x1), some (vI x2)]) (st' := [vI 1, vI x1, vR 11, vR 21]) (L' := LT u z f) 2 (b154_18 call x1 x2 x1 _) ?_
            obtain ⟨r2, z2, f2, hc, H⟩ := H
            refine rc_call (t := 26) (ls' := [some (vR 0), some (vI x1), some (vI x2)]) (st' := []) (b154_16 call x1 1 _ z f) hc ?_
            show RC call (mP 154) 26 [some (vR 0), some (vI x1), some (vI x2)] [vI r2] (LT u z2 f2) res
            subst H
            exact rc_ret (b154_17 call _ _ _)
        · have H := H.2 (cI5f q4 rfl rfl)
          refine rc_b (i' := 11) (ls' := [some (vR 0), some (vI x1), some (vI x2)]) (st' := [vI ((-1))]) (L' := LT u z f) 1 (b154_3 call x1 x2 _) ?_
          subst H
          exact rc_ret (b154_4 call _ _ _)
theorem fill22 (d : Nat) {z : Nat → Int32} {f : Nat → FA} : mcall (d + 1) 2 [vR 22, vI 0] (LT u z f) = some (none, LT u z (uA f 22 (zr0 (f 22) 401))) := by
  have lp : ∀ t n, n + t = 401 → RC (mcall d) (mP 2) 5 [some (vR 22), some (vI 0), some (vI (nI n)), some (vI (nI 401))] [] (LT u z (uA f 22 (zr0 (f 22) n))) (none, LT u z (uA f 22 (zr0 (f 22) 401))) := by
    intro t
    induction t with
    | zero =>
      intro n hn
      obtain rfl : n = 401 := by omega
      exact vcfc_2_5 _ _ _ _ _ _ _ ⟨fun _ => rfl, fun q => by omega⟩
    | succ t ih =>
      intro n hn
      have h := ih (n + 1) (by omega)
      rw [← nI_add n 1, ← zr0_s] at h
      refine vcfc_2_5 _ _ _ _ _ _ _ ⟨fun q => by rw [I_nI (n := n) (by omega), I_nI (n := 401) (by omega)] at q; omega, fun _ => ⟨pin_nI (by omega) (by omega), ?_⟩⟩
      rw [ix_nI (j := n) (by omega), uA_uA, uA_self]
      exact h
  have h := lp 401 0 rfl
  rw [zr0_0, uA_id rfl] at h
  exact mcall_i (mq2 (cu := [])).2.2 rfl (vcf_2_0 (mcall d) 0 none none z f _ h)
theorem cl27 (d : Nat) (x2 x3 : Int32) {z : Nat → Int32} {f : Nat → FA} (k e : Nat) (b : Nat → Bool) (h1 : 1 ≤ e) : ∀ t v, v + 1 = e + t → v ≤ 400 → ∀ g, RowB g (stq b e v) → ∃ g', RowB g' (stq b e (e - 1)) ∧ ∀ res, RC (mcall (d + 1)) (mP 116) 11 [some (vR 21), some (vR 11), some (vI x2), some (vI x3), some (vI (nI (k + 1))), some (vI (nI e)), some (vI (nI (e - 1)))] [] (LT u z (uA f 22 g')) res → RC (mcall (d + 1)) (mP 116) 27 [some (vR 21), some (vR 11), some (vI x2), some (vI x3), some (vI (nI k)), some (vI (nI e)), some (vI (nI v))] [] (LT u z (uA f 22 g)) res := by
  intro t
  induction t with
  | zero =>
    intro v hv h4 g hg
    obtain rfl : v = e - 1 := by omega
    refine ⟨g, hg, fun res h => vcc27_116_27 _ _ _ _ _ _ _ _ _ ⟨fun _ => ?_, fun q => ?_⟩⟩
    · rw [show nI k + 1 = nI (k + 1) from nI_add k 1]
      exact h
    · rw [I_nI (n := e) (by omega), I_nI (n := e - 1) (by omega)] at q
      omega
  | succ t ih =>
    intro v hv h4 g hg
    have hev : e ≤ v := by omega
    obtain ⟨g', k1, k2⟩ := ih (v - 1) (by omega) (by omega) (upd g v (g v ||| g (v - e))) (stp_s (by omega) hev h1 hg (by
      rw [pk_us, hg v (by omega), hg (v - e) (by omega), stp_lo (Nat.le_refl v), stp_lo (show v - e ≤ v by omega)]
      exact b1_or _ _) (fun j hj => pk_un hj))
    refine ⟨g', k1, fun res h => vcc27_116_27 _ _ _ _ _ _ _ _ _ ⟨fun q => ?_, fun _ => ⟨pin_nI (by omega) (by omega), ?_, pin_nI (by omega) (by omega), ?_⟩⟩⟩
    · rw [I_nI (n := e) (by omega), I_nI (n := v) (by omega)] at q
      omega
    · rw [nI_sub hev]
      exact pin_nI (by omega) (by omega)
    · rw [nI_sub hev, ix_nI (j := v) (by omega), ix_nI (j := v - e) (by omega), uA_uA, uA_self, nI_mm (by omega)]
      exact k2 res h
theorem cl11 (d : Nat) (x2 x3 : Int32) {z : Nat → Int32} {f : Nat → FA} {n : Nat} (hz : z 11 = nI n) (hn : n ≤ 8) (hI : ∀ j, j < n → 1 ≤ I (f 12 j) ∧ I (f 12 j) ≤ 50) : ∀ t k, k + t = n → ∀ g, RowB g (bs (f 12) k) → ∀ o5 o6, ∃ g', RowB g' (bs (f 12) n) ∧ ∀ res, RC (mcall (d + 1)) (mP 116) 53 [some (vR 21), some (vR 11), some (vI x2), some (vI x3), some (vI 0), some (vI 0), some (vI 0)] [] (LT u z (uA f 22 g')) res → RC (mcall (d + 1)) (mP 116) 11 [some (vR 21), some (vR 11), some (vI x2), some (vI x3), some (vI (nI k)), o5, o6] [] (LT u z (uA f 22 g)) res := by
  intro t
  induction t with
  | zero =>
    intro k hk g hg o5 o6
    obtain rfl : k = n := by omega
    refine ⟨g, hg, fun res h => vcc11_116_11 _ _ _ _ _ _ _ _ _ ⟨fun _ => h, fun q => ?_⟩⟩
    rw [hz] at q
    omega
  | succ t ih =>
    intro k hk g hg o5 o6
    obtain ⟨i1, i2⟩ := hI k (by omega)
    obtain ⟨e, he, e31, ie⟩ := nI_ofI (x := f 12 k) (by omega)
    have hen : enI (f 12) k = e := by
      unfold enI
      rw [ie]
      rfl
    obtain ⟨g1, k1, k2⟩ := cl27 (u := u) (z := z) (f := f) d x2 x3 k e (bs (f 12) k) (by omega) (401 - e) 400 (by omega) (Nat.le_refl _) g (fun j hj => by rw [stp_top hj]; exact hg j hj)
    have hb : bs (f 12) (k + 1) = stq (bs (f 12) k) e (e - 1) := by
      show stq (bs (f 12) k) (enI (f 12) k) (enI (f 12) k - 1) = _
      rw [hen]
    obtain ⟨g', k3, k4⟩ := ih (k + 1) (by omega) g1 (by rw [hb]; exact k1) (some (vI (nI e))) (some (vI (nI (e - 1))))
    refine ⟨g', k3, fun res h => vcc11_116_11 _ _ _ _ _ _ _ _ _ ⟨fun q => ?_, fun _ => ⟨_, _, _, c_it4 d (f := uA f 22 g) hz hn (k := k) (by omega), fun q => ?_, fun _ => ?_⟩⟩⟩
    · rw [hz, I_nI (n := n) (by omega), I_nI (n := k) (by omega)] at q
      omega
    · rw [uA_ne (show (12 : Nat) ≠ 22 by decide)] at q
      omega
    · rw [uA_ne (show (12 : Nat) ≠ 22 by decide), he, show nI 401 - 1 = nI 400 from nI_sub (a := 401) (b := 1) (by omega)]
      exact k2 res (k4 res h)
theorem cl53 (d : Nat) (x3 : Int32) {z : Nat → Int32} {f : Nat → FA} (b : Nat → Bool) {N : Nat} (hN : N ≤ 400) {g : FA} (hg : RowB g b) : ∀ t j, j + t = N + 1 → RC (mcall (d + 1)) (mP 116) 53 [some (vR 21), some (vR 11), some (vI (nI N)), some (vI x3), some (vI (nI (cg b j).1)), some (vI (nI (cg b j).2)), some (vI (nI j))] [] (LT u z (uA f 22 g)) (some (vI (if x3 = 0 then nI (cg b (N + 1)).2 else nI (cg b (N + 1)).1)), LT u z (uA f 22 g)) := by
  intro t
  induction t with
  | zero =>
    intro j hj
    obtain rfl : j = N + 1 := by omega
    refine vcc53_116_53 _ _ _ _ _ _ _ _ _ ⟨fun _ => ⟨fun q => by rw [if_pos q], fun q => by rw [if_neg q]⟩, fun q => ?_⟩
    rw [I_nI (n := N) (by omega), I_nI (n := N + 1) (by omega)] at q
    omega
  | succ t ih =>
    intro j hj
    have h := ih (j + 1) (by omega)
    rw [← nI_add j 1] at h
    have gj : uA f 22 g 22 (ix (nI j)) = if b j = true then 1 else 0 := by rw [uA_self, ix_nI (j := j) (by omega)]; exact hg j (by omega)
    refine vcc53_116_53 _ _ _ _ _ _ _ _ _ ⟨fun q => ?_, fun _ => ⟨fun q => ?_, fun _ => ⟨pin_nI (by omega) (by omega), fun q => ?_, fun q => ?_⟩⟩⟩
    · rw [I_nI (n := N) (by omega), I_nI (n := j) (by omega)] at q
      omega
    · rw [I_nI (n := 401) (by omega), I_nI (n := j) (by omega)] at q
      omega
    · have hb : ¬ b j = true := fun c => q (by rw [gj, if_pos c])
      have e : cg b (j + 1) = cg b j := if_neg hb
      rw [e] at h
      exact h
    · have hb : b j = true := by
        rw [gj] at q
        by_cases c : b j = true
        · exact c
        · rw [if_neg c] at q
          exact absurd q (by decide)
      have e : cg b (j + 1) = ((cg b j).1 + 1, j) := if_pos hb
      rw [e, ← nI_add] at h
      exact h
theorem c_candles (d : Nat) (x1 x2 : Int32) {z : Nat → Int32} {f : Nat → FA} {n : Nat} (hz : z 11 = nI n) (hn : n ≤ 8) (hI : ∀ j, j < n → 1 ≤ I (f 12 j) ∧ I (f 12 j) ≤ 50) : ∃ f1, (∀ k, k ≠ 22 → f1 k = f k) ∧ mcall (d + 3) 154 [vR 0, vI x1, vI x2] (LT u z f) = some (some (vI (cnA (bs (f 12) n) x1 x2)), LT u z f1) := by
  have go : ∀ res, _ → mcall (d + 3) 154 [vR 0, vI x1, vI x2] (LT u z f) = some res := fun res H => mcall_i (mq154 (cu := [])).2.2 rfl (vc154_0 (mcall (d + 2)) x1 x2 z f res H)
  by_cases hv : (0 ≤ I x1 ∧ I x1 ≤ 400) ∧ (0 ≤ I x2 ∧ I x2 ≤ 1)
  · obtain ⟨N, rfl, -, iN⟩ := nI_ofI (x := x1) (by omega)
    have hN : N ≤ 400 := by omega
    have r0 : RowB (upd (zr0 (f 22) 401) 0 1) (bs (f 12) 0) := by
      intro j hj
      by_cases q : j = 0
      · subst q
        rw [pk_us]
        rfl
      · rw [pk_un q]
        show (if j < 401 then (0 : Int32) else f 22 j) = if decide (j = 0) = true then 1 else 0
        rw [if_pos (by omega), if_neg (by simpa using q)]
    have sm : ∀ x3, ∃ g, mcall (d + 2) 116 [vR 21, vR 11, vI (nI N), vI x3] (LT u z f) = some (some (vI (if x3 = 0 then nI (cg (bs (f 12) n) (N + 1)).2 else nI (cg (bs (f 12) n) (N + 1)).1)), LT u z (uA f 22 g)) := fun x3 => by
      obtain ⟨g', k1, k2⟩ := cl11 (u := u) d (nI N) x3 hz hn hI n 0 (by omega) _ r0 none none
      refine ⟨g', mcall_i (mq116 (cu := [])).2.2 rfl (vc116_0 (mcall (d + 1)) (nI N) x3 none none none z f _ ⟨_, _, fill22 d, by decide, ?_⟩)⟩
      have e0 : ix 0 = 0 := by decide
      rw [uA_uA, uA_self, e0]
      exact k2 _ (cl53 d x3 (bs (f 12) n) hN k1 (N + 1) 0 (by omega))
    have hA : cnA (bs (f 12) n) (nI N) x2 = if x2 = 0 then nI (cg (bs (f 12) n) (N + 1)).1 else nI (cg (bs (f 12) n) (N + 1)).2 := by
      unfold cnA
      rw [if_pos hv, iN]
      rfl
    by_cases q : x2 = 0
    · obtain ⟨g, hg⟩ := sm 1
      refine ⟨uA f 22 g, fun k hk => uA_ne hk, go _ ⟨fun q => by omega, fun _ => ⟨fun q => by omega, fun _ => ⟨fun q => by omega, fun _ => ⟨fun _ => ⟨fun q2 => absurd q q2, fun _ => ⟨_, _, _, hg, ?_⟩⟩, fun q => by omega⟩⟩⟩⟩⟩
      rw [hA, if_pos q, if_neg (by decide)]
    · obtain ⟨g, hg⟩ := sm 0
      refine ⟨uA f 22 g, fun k hk => uA_ne hk, go _ ⟨fun q => by omega, fun _ => ⟨fun q => by omega, fun _ => ⟨fun q => by omega, fun _ => ⟨fun _ => ⟨fun _ => ⟨_, _, _, hg, ?_⟩, fun q2 => absurd q2 q⟩, fun q => by omega⟩⟩⟩⟩⟩
      rw [hA, if_neg q, if_pos rfl]
  · have hA : cnA (bs (f 12) n) x1 x2 = -1 := if_neg hv
    rw [hA]
    exact ⟨f, fun _ _ => rfl, go _ ⟨fun _ => rfl, fun q1 => ⟨fun _ => rfl, fun q2 => ⟨fun _ => rfl, fun q3 => ⟨fun q4 => absurd ⟨⟨q1, q2⟩, q3, q4⟩ hv, fun _ => rfl⟩⟩⟩⟩⟩
end TLs
