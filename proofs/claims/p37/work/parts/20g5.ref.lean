abbrev mL0 (t0 : Int32) (zz : Nat → Int32) (U E : Int32) (W f : FA) : QH FA := [.inr (12, [vI t0, vR 3, vR 4, vI (zz 3), vR 5, vI (zz 5), vI (zz 6), vR 6, vR 7, vR 8, vR 9, vR 10, vI (zz 12), vI (zz 13), vI (zz 14), vI (zz 15), vI (zz 16), vR 11, vR 12, vR 13, vR 14, vR 15, vR 16, vR 17, vR 18, vI (zz 25), vI (zz 26), vI (zz 27), vR 19, vI (zz 29), vI (zz 30), vI (zz 31), vI (zz 32), vI (zz 33), vI (zz 34), vR 20, vI (zz 36), vR 21, vI (zz 38), vR 22, vR 23, vR 24, vR 25, vI (zz 43), vR 26, vR 27, vI (zz 46), vR 28, vR 29, vR 30, vI (zz 50), vR 31, vI (zz 52), vR 32, vI (zz 54), vR 33, vR 34, vI (zz 57), vR 35, vR 36, vR 37, vI (zz 61), vR 38, vI (zz 63), vR 39, vI (zz 65), vR 40, vR 41, vR 1, vR 2, vI U, vI E, vI (zz 72), vI (zz 73), vI (zz 74), vR 42]), .inl (.inl (0, 19683, W)), .inl (.inl (0, 9, f))]
abbrev mL (zz : Nat → Int32) (U E : Int32) (W f : FA) : QH FA := mL0 0 zz U E W f
variable {zz : Nat → Int32}
def pm_r : List Nat := [0, 40, 41, 1, 2, 3, 4, 5, 6, 7, 8, 9, 10, 11, 12, 13, 14, 15, 16, 17, 18, 19, 20, 21, 22, 23, 24, 25, 26, 27, 28, 29, 30, 31, 32, 33, 34, 35, 36, 37, 38, 39, 42]
theorem bq_68_2 (d Fu F : Nat) (x y : Int32) (ls : List (Option PV)) (st : List PV) (L : QH FA) : rnF Fu d 68 (F + 1) 2 ls (vI y :: vI x :: st) L = bif pcmp 5 x y then rnF Fu d 68 F 5 ls st L else rnF Fu d 68 F 3 ls st L := rfl
theorem bq_47_2 (d Fu F : Nat) (x y : Int32) (ls : List (Option PV)) (st : List PV) (L : QH FA) : rnF Fu d 47 (F + 1) 2 ls (vI y :: vI x :: st) L = bif pcmp 2 x y then rnF Fu d 47 F 8 ls st L else rnF Fu d 47 F 3 ls st L := rfl
theorem bq_47_5 (d Fu F : Nat) (x y : Int32) (ls : List (Option PV)) (st : List PV) (L : QH FA) : rnF Fu d 47 (F + 1) 5 ls (vI y :: vI x :: st) L = bif pcmp 4 x y then rnF Fu d 47 F 8 ls st L else rnF Fu d 47 F 6 ls st L := rfl
theorem bq_76_4 (d Fu F : Nat) (x y : Int32) (ls : List (Option PV)) (st : List PV) (L : QH FA) : rnF Fu d 76 (F + 1) 4 ls (vI y :: vI x :: st) L = bif pcmp 1 x y then rnF Fu d 76 F 7 ls st L else rnF Fu d 76 F 5 ls st L := rfl
theorem bq_73_5 (d Fu F : Nat) (x y : Int32) (ls : List (Option PV)) (st : List PV) (L : QH FA) : rnF Fu d 73 (F + 1) 5 ls (vI y :: vI x :: st) L = bif pcmp 1 x y then rnF Fu d 73 F 20 ls st L else rnF Fu d 73 F 6 ls st L := rfl
theorem bq_73_11 (d Fu F : Nat) (x y : Int32) (ls : List (Option PV)) (st : List PV) (L : QH FA) : rnF Fu d 73 (F + 1) 11 ls (vI y :: vI x :: st) L = bif pcmp 1 x y then rnF Fu d 73 F 20 ls st L else rnF Fu d 73 F 12 ls st L := rfl
theorem bq_73_17 (d Fu F : Nat) (x y : Int32) (ls : List (Option PV)) (st : List PV) (L : QH FA) : rnF Fu d 73 (F + 1) 17 ls (vI y :: vI x :: st) L = bif pcmp 1 x y then rnF Fu d 73 F 20 ls st L else rnF Fu d 73 F 18 ls st L := rfl
theorem bq_72_4 (d Fu F : Nat) (x y : Int32) (ls : List (Option PV)) (st : List PV) (L : QH FA) : rnF Fu d 72 (F + 1) 4 ls (vI y :: vI x :: st) L = bif pcmp 3 x y then rnF Fu d 72 F 37 ls st L else rnF Fu d 72 F 5 ls st L := rfl
theorem cq_72_20 (call : QC FA) (F : Nat) (x1 : Int32) (x2 : Int32) (x3 : Int32) (x4 : Int32) (ls : List (Option PV)) (U E : Int32) (W f : FA) : run (mK rdF wrF fzF call 72) (F + 1) 20 ls [vI x4, vI x3, vI x2, vI x1, vR 0] (mL zz U E W f) = cbind (call 73 [vR 0, vI x1, vI x2, vI x3, vI x4] (mL zz U E W f)) (fun r L' => run (mK rdF wrF fzF call 72) F 21 ls (r.toList ++ []) L') := pcV (ih := run (mK rdF wrF fzF call 72) F) (call := call) (a := 73) (b := 4) (v := 12) (t := 21) (x := 0) (ls := ls) (As := [vI x1, vI x2, vI x3, vI x4]) (st' := []) (L := (mL zz U E W f)) rfl rfl rfl
theorem bq_72_21 (d Fu F : Nat) (x : Int32) (ls : List (Option PV)) (st : List PV) (L : QH FA) : rnF Fu d 72 (F + 1) 21 ls (vI x :: st) L = bif pcmp 1 x 0 then rnF Fu d 72 F 33 ls st L else rnF Fu d 72 F 22 ls st L := rfl
theorem cq_72_31 (call : QC FA) (F : Nat) (x1 : Int32) (x2 : Int32) (x3 : Int32) (x4 : Int32) (ls : List (Option PV)) (U E : Int32) (W f : FA) : run (mK rdF wrF fzF call 72) (F + 1) 31 ls [vI x4, vI x3, vI x2, vI x1, vR 0] (mL zz U E W f) = cbind (call 73 [vR 0, vI x1, vI x2, vI x3, vI x4] (mL zz U E W f)) (fun r L' => run (mK rdF wrF fzF call 72) F 32 ls (r.toList ++ []) L') := pcV (ih := run (mK rdF wrF fzF call 72) F) (call := call) (a := 73) (b := 4) (v := 12) (t := 32) (x := 0) (ls := ls) (As := [vI x1, vI x2, vI x3, vI x4]) (st' := []) (L := (mL zz U E W f)) rfl rfl rfl
theorem bq_72_32 (d Fu F : Nat) (x : Int32) (ls : List (Option PV)) (st : List PV) (L : QH FA) : rnF Fu d 72 (F + 1) 32 ls (vI x :: st) L = bif pcmp 0 x 0 then rnF Fu d 72 F 35 ls st L else rnF Fu d 72 F 33 ls st L := rfl
theorem cq_72_42 (call : QC FA) (F : Nat) (x1 : Int32) (x2 : Int32) (x3 : Int32) (x4 : Int32) (ls : List (Option PV)) (U E : Int32) (W f : FA) : run (mK rdF wrF fzF call 72) (F + 1) 42 ls [vI x4, vI x3, vI x2, vI x1, vR 0] (mL zz U E W f) = cbind (call 73 [vR 0, vI x1, vI x2, vI x3, vI x4] (mL zz U E W f)) (fun r L' => run (mK rdF wrF fzF call 72) F 43 ls (r.toList ++ []) L') := pcV (ih := run (mK rdF wrF fzF call 72) F) (call := call) (a := 73) (b := 4) (v := 12) (t := 43) (x := 0) (ls := ls) (As := [vI x1, vI x2, vI x3, vI x4]) (st' := []) (L := (mL zz U E W f)) rfl rfl rfl
theorem bq_72_43 (d Fu F : Nat) (x : Int32) (ls : List (Option PV)) (st : List PV) (L : QH FA) : rnF Fu d 72 (F + 1) 43 ls (vI x :: st) L = bif pcmp 1 x 0 then rnF Fu d 72 F 51 ls st L else rnF Fu d 72 F 44 ls st L := rfl
theorem cq_72_49 (call : QC FA) (F : Nat) (x1 : Int32) (x2 : Int32) (x3 : Int32) (x4 : Int32) (ls : List (Option PV)) (U E : Int32) (W f : FA) : run (mK rdF wrF fzF call 72) (F + 1) 49 ls [vI x4, vI x3, vI x2, vI x1, vR 0] (mL zz U E W f) = cbind (call 73 [vR 0, vI x1, vI x2, vI x3, vI x4] (mL zz U E W f)) (fun r L' => run (mK rdF wrF fzF call 72) F 50 ls (r.toList ++ []) L') := pcV (ih := run (mK rdF wrF fzF call 72) F) (call := call) (a := 73) (b := 4) (v := 12) (t := 50) (x := 0) (ls := ls) (As := [vI x1, vI x2, vI x3, vI x4]) (st' := []) (L := (mL zz U E W f)) rfl rfl rfl
theorem bq_72_50 (d Fu F : Nat) (x : Int32) (ls : List (Option PV)) (st : List PV) (L : QH FA) : rnF Fu d 72 (F + 1) 50 ls (vI x :: st) L = bif pcmp 0 x 0 then rnF Fu d 72 F 53 ls st L else rnF Fu d 72 F 51 ls st L := rfl
theorem bq_77_6 (d Fu F : Nat) (x y : Int32) (ls : List (Option PV)) (st : List PV) (L : QH FA) : rnF Fu d 77 (F + 1) 6 ls (vI y :: vI x :: st) L = bif pcmp 5 x y then rnF Fu d 77 F 13 ls st L else rnF Fu d 77 F 7 ls st L := rfl
theorem iq_3_4 (ih : QK FA) (t : Nat) (v x : Int32) (l0 l1 l2 : Option PV) (st : List PV) (L : QH FA) : p_iinc ih fzF 3 v t [l0, l1, l2, some (vI x)] st L = ih t [l0, l1, l2, some (vI (x + v))] st L := rfl
theorem bq_71_11 (d Fu F : Nat) (x : Int32) (ls : List (Option PV)) (st : List PV) (L : QH FA) : rnF Fu d 71 (F + 1) 11 ls (vI x :: st) L = bif pcmp 2 x 0 then rnF Fu d 71 F 49 ls st L else rnF Fu d 71 F 12 ls st L := rfl
theorem bq_71_28 (d Fu F : Nat) (x y : Int32) (ls : List (Option PV)) (st : List PV) (L : QH FA) : rnF Fu d 71 (F + 1) 28 ls (vI y :: vI x :: st) L = bif pcmp 1 x y then rnF Fu d 71 F 35 ls st L else rnF Fu d 71 F 29 ls st L := rfl
theorem bq_71_40 (d Fu F : Nat) (x y : Int32) (ls : List (Option PV)) (st : List PV) (L : QH FA) : rnF Fu d 71 (F + 1) 40 ls (vI y :: vI x :: st) L = bif pcmp 1 x y then rnF Fu d 71 F 47 ls st L else rnF Fu d 71 F 41 ls st L := rfl
theorem iq_4_5 (ih : QK FA) (t : Nat) (v x : Int32) (l0 l1 l2 l3 : Option PV) (st : List PV) (L : QH FA) : p_iinc ih fzF 4 v t [l0, l1, l2, l3, some (vI x)] st L = ih t [l0, l1, l2, l3, some (vI (x + v))] st L := rfl
theorem gmax_c (x y : Int32) : gmax x y = if x ≤ y then y else x := by
  unfold gmax
  by_cases h : x < y
  · rw [if_pos h, if_pos (Int32.le_of_lt h)]
  · rw [if_neg h]
    by_cases h2 : x ≤ y
    · rw [if_pos h2, Int32.le_antisymm h2 (Int32.not_lt.mp h)]
    · rw [if_neg h2]
theorem bz_t {b : Bool} (h : ¬ bzb b = 0) : b = true := by cases b with
  | false => exact absurd rfl h
  | true => rfl
theorem bz_f {b : Bool} (h : bzb b = 0) : b = false := by cases b with
  | false => rfl
  | true => exact absurd h (by decide)
theorem st4 {a b c a' b' c' : Int32} {w z : PV} (h1 : a = a') (h2 : b = b') (h3 : c = c') : [w, vI c, vI b, vI a, z] = [w, vI c', vI b', vI a', z] := by rw [h1, h2, h3]
theorem nI_dec (k : Nat) : nI (k + 1) + (-1) = nI k := by
  have h := nI_pred k
  rw [Int32.sub_eq_add_neg] at h
  exact h
theorem r_great {d : Nat} {U E : Int32} {W f : FA} {x y : Int32} : MC (d + 1) 68 [vR 0, vI x, vI y] (mL zz U E W f) (some (vI (gmax x y)), mL zz U E W f) := by
  refine mc_of rfl ?_
  show Rn (d) 68 0 [some (vR 0), some (vI x), some (vI y)] [] (mL zz U E W f) _
  refine rb (i' := 2) (ls' := [some (vR 0), some (vI x), some (vI y)]) (st' := [vI y, vI x]) (L' := (mL zz U E W f)) 2 (fun _ _ => rfl) ?_
  refine rn_if (b := 5) (x := x) (y := y) (it := 5) (ie := 3) (ls' := [some (vR 0), some (vI x), some (vI y)]) (st' := []) (fun Fu F => bq_68_2 _ Fu F _ _ _ _ _) (fun q1 => ?_) (fun q1 => ?_)
  · have q1 := of_decide_eq_true (cmp_le.symm.trans q1)
    refine rb (i' := 6) (ls' := [some (vR 0), some (vI x), some (vI y)]) (st' := [vI y]) (L' := (mL zz U E W f)) 1 (fun _ _ => rfl) ?_
    exact rn_fin (fun _ _ => rfl) (by rw [gmax_c, if_pos q1])
  · have q1 := of_decide_eq_false (cmp_le.symm.trans q1)
    refine rb (i' := 6) (ls' := [some (vR 0), some (vI x), some (vI y)]) (st' := [vI x]) (L' := (mL zz U E W f)) 2 (fun _ _ => rfl) ?_
    exact rn_fin (fun _ _ => rfl) (by rw [gmax_c, if_neg q1])
theorem r_in1 {d : Nat} {U E : Int32} {W f : FA} {x a b : Int32} (h1 : ¬ x < a) (h2 : ¬ b < x) : MC (d + 1) 47 [vR 0, vI x, vI a, vI b] (mL zz U E W f) (some (vI 1), mL zz U E W f) := by
  refine mc_of rfl ?_
  show Rn (d) 47 0 [some (vR 0), some (vI x), some (vI a), some (vI b)] [] (mL zz U E W f) _
  refine rb (i' := 2) (ls' := [some (vR 0), some (vI x), some (vI a), some (vI b)]) (st' := [vI a, vI x]) (L' := (mL zz U E W f)) 2 (fun _ _ => rfl) ?_
  refine rn_if (b := 2) (x := x) (y := a) (it := 8) (ie := 3) (ls' := [some (vR 0), some (vI x), some (vI a), some (vI b)]) (st' := []) (fun Fu F => bq_47_2 _ Fu F _ _ _ _ _) (fun k1 => absurd (of_decide_eq_true (cmp_lt.symm.trans k1)) (show ¬ ((x : Int32) < (a : Int32)) from h1)) (fun _ => ?_)
  refine rb (i' := 5) (ls' := [some (vR 0), some (vI x), some (vI a), some (vI b)]) (st' := [vI b, vI x]) (L' := (mL zz U E W f)) 2 (fun _ _ => rfl) ?_
  refine rn_if (b := 4) (x := x) (y := b) (it := 8) (ie := 6) (ls' := [some (vR 0), some (vI x), some (vI a), some (vI b)]) (st' := []) (fun Fu F => bq_47_5 _ Fu F _ _ _ _ _) (fun k2 => absurd (of_decide_eq_true (cmp_gt.symm.trans k2)) (show ¬ ((b : Int32) < (x : Int32)) from h2)) (fun _ => ?_)
  refine rb (i' := 9) (ls' := [some (vR 0), some (vI x), some (vI a), some (vI b)]) (st' := [vI 1]) (L' := (mL zz U E W f)) 2 (fun _ _ => rfl) ?_
  exact rn_fin (fun _ _ => rfl) (rfl)
theorem r_in0 {d : Nat} {U E : Int32} {W f : FA} {x a b : Int32} (h : x < a ∨ b < x) : MC (d + 1) 47 [vR 0, vI x, vI a, vI b] (mL zz U E W f) (some (vI 0), mL zz U E W f) := by
  refine mc_of rfl ?_
  show Rn (d) 47 0 [some (vR 0), some (vI x), some (vI a), some (vI b)] [] (mL zz U E W f) _
  refine rb (i' := 2) (ls' := [some (vR 0), some (vI x), some (vI a), some (vI b)]) (st' := [vI a, vI x]) (L' := (mL zz U E W f)) 2 (fun _ _ => rfl) ?_
  refine rn_if (b := 2) (x := x) (y := a) (it := 8) (ie := 3) (ls' := [some (vR 0), some (vI x), some (vI a), some (vI b)]) (st' := []) (fun Fu F => bq_47_2 _ Fu F _ _ _ _ _) (fun q1 => ?_) (fun q1 => ?_)
  · have q1 := of_decide_eq_true (cmp_lt.symm.trans q1)
    refine rb (i' := 9) (ls' := [some (vR 0), some (vI x), some (vI a), some (vI b)]) (st' := [vI 0]) (L' := (mL zz U E W f)) 1 (fun _ _ => rfl) ?_
    exact rn_fin (fun _ _ => rfl) (rfl)
  · have q1 := of_decide_eq_false (cmp_lt.symm.trans q1)
    refine rb (i' := 5) (ls' := [some (vR 0), some (vI x), some (vI a), some (vI b)]) (st' := [vI b, vI x]) (L' := (mL zz U E W f)) 2 (fun _ _ => rfl) ?_
    refine rn_if (b := 4) (x := x) (y := b) (it := 8) (ie := 6) (ls' := [some (vR 0), some (vI x), some (vI a), some (vI b)]) (st' := []) (fun Fu F => bq_47_5 _ Fu F _ _ _ _ _) (fun q2 => ?_) (fun q2 => ?_)
    · have q2 := of_decide_eq_true (cmp_gt.symm.trans q2)
      refine rb (i' := 9) (ls' := [some (vR 0), some (vI x), some (vI a), some (vI b)]) (st' := [vI 0]) (L' := (mL zz U E W f)) 1 (fun _ _ => rfl) ?_
      exact rn_fin (fun _ _ => rfl) (rfl)
    · have q2 := of_decide_eq_false (cmp_gt.symm.trans q2)
      exact absurd h (fun q => q.elim q1 q2)
theorem r_next {d u e : Nat} {W f : FA} (hu : u < 10) (he : e < 10) : MC (d + 1) 76 [vR 0] (mL zz (nI u) (nI e) W f) (some (vI (nI (if u = e then 1 else 2))), mL zz (nI u) (nI e) W f) := by
  refine mc_of rfl ?_
  show Rn (d) 76 0 [some (vR 0)] [] (mL zz (nI u) (nI e) W f) _
  refine rb (i' := 4) (ls' := [some (vR 0)]) (st' := [vI (nI e), vI (nI u)]) (L' := (mL zz (nI u) (nI e) W f)) 4 (fun _ _ => rfl) ?_
  refine rn_if (b := 1) (x := nI u) (y := nI e) (it := 7) (ie := 5) (ls' := [some (vR 0)]) (st' := []) (fun Fu F => bq_76_4 _ Fu F _ _ _ _ _) (fun q1 => ?_) (fun q1 => ?_)
  · have q1 := of_decide_eq_true (cmp_ne.symm.trans q1)
    refine rb (i' := 8) (ls' := [some (vR 0)]) (st' := [vI 2]) (L' := (mL zz (nI u) (nI e) W f)) 1 (fun _ _ => rfl) ?_
    exact rn_fin (fun _ _ => rfl) (by rw [if_neg (fun z => q1 (by rw [z]))]; rfl)
  · have q1 := of_decide_eq_false (cmp_ne.symm.trans q1)
    refine rb (i' := 8) (ls' := [some (vR 0)]) (st' := [vI 1]) (L' := (mL zz (nI u) (nI e) W f)) 2 (fun _ _ => rfl) ?_
    exact rn_fin (fun _ _ => rfl) (by rw [if_pos ((gnI_inj hu he).mp (Decidable.of_not_not q1))]; rfl)
theorem r_are {d c w x y z : Nat} {U E : Int32} {W f : FA} (hB : Bd f c) (hw : w < 3) (hx : x < 9) (hy : y < 9) (hz : z < 9) : MC (d + 1) 73 [vR 0, vI (nI x), vI (nI y), vI (nI z), vI (nI w)] (mL zz U E W f) (some (vI (bzb (tri c w x y z))), mL zz U E W f) := by
  refine mc_of rfl ?_
  show Rn (d) 73 0 [some (vR 0), some (vI (nI x)), some (vI (nI y)), some (vI (nI z)), some (vI (nI w))] [] (mL zz U E W f) _
  refine rb (i' := 3) (ls' := [some (vR 0), some (vI (nI x)), some (vI (nI y)), some (vI (nI z)), some (vI (nI w))]) (st' := [vI (nI x), vR 2]) (L' := (mL zz U E W f)) 3 (fun _ _ => rfl) ?_
  refine rn_g (g := (Nat.beq 0 0 && pin (nI x) 9)) (i' := 4) (ls' := [some (vR 0), some (vI (nI x)), some (vI (nI y)), some (vI (nI z)), some (vI (nI w))]) (st' := [vI (f (ix (nI x)))]) (L' := (mL zz U E W f)) (fun _ _ => rfl) (gpin_nI hx (by decide)) ?_
  refine rn_top (x := f (ix (nI x))) (y := nI (dg c x)) ((congrArg f (gix_nI (by omega))).trans (hB x hx)) ?_
  refine rb (i' := 5) (ls' := [some (vR 0), some (vI (nI x)), some (vI (nI y)), some (vI (nI z)), some (vI (nI w))]) (st' := [vI (nI w), vI (nI (dg c x))]) (L' := (mL zz U E W f)) 1 (fun _ _ => rfl) ?_
  refine rn_if (b := 1) (x := nI (dg c x)) (y := nI w) (it := 20) (ie := 6) (ls' := [some (vR 0), some (vI (nI x)), some (vI (nI y)), some (vI (nI z)), some (vI (nI w))]) (st' := []) (fun Fu F => bq_73_5 _ Fu F _ _ _ _ _) (fun q1 => ?_) (fun q1 => ?_)
  · have q1 := of_decide_eq_true (cmp_ne.symm.trans q1)
    refine rb (i' := 21) (ls' := [some (vR 0), some (vI (nI x)), some (vI (nI y)), some (vI (nI z)), some (vI (nI w))]) (st' := [vI 0]) (L' := (mL zz U E W f)) 1 (fun _ _ => rfl) ?_
    exact rn_fin (fun _ _ => rfl) (by
          unfold tri
          have hne : Nat.beq (dg c x) w = false := Bool.eq_false_iff.mpr (fun z => q1 (congrArg nI (Nat.eq_of_beq_eq_true z)))
          simp [hne, bzb])
  · have q1 := of_decide_eq_false (cmp_ne.symm.trans q1)
    refine rb (i' := 9) (ls' := [some (vR 0), some (vI (nI x)), some (vI (nI y)), some (vI (nI z)), some (vI (nI w))]) (st' := [vI (nI y), vR 2]) (L' := (mL zz U E W f)) 3 (fun _ _ => rfl) ?_
    refine rn_g (g := (Nat.beq 0 0 && pin (nI y) 9)) (i' := 10) (ls' := [some (vR 0), some (vI (nI x)), some (vI (nI y)), some (vI (nI z)), some (vI (nI w))]) (st' := [vI (f (ix (nI y)))]) (L' := (mL zz U E W f)) (fun _ _ => rfl) (gpin_nI hy (by decide)) ?_
    refine rn_top (x := f (ix (nI y))) (y := nI (dg c y)) ((congrArg f (gix_nI (by omega))).trans (hB y hy)) ?_
    refine rb (i' := 11) (ls' := [some (vR 0), some (vI (nI x)), some (vI (nI y)), some (vI (nI z)), some (vI (nI w))]) (st' := [vI (nI w), vI (nI (dg c y))]) (L' := (mL zz U E W f)) 1 (fun _ _ => rfl) ?_
    refine rn_if (b := 1) (x := nI (dg c y)) (y := nI w) (it := 20) (ie := 12) (ls' := [some (vR 0), some (vI (nI x)), some (vI (nI y)), some (vI (nI z)), some (vI (nI w))]) (st' := []) (fun Fu F => bq_73_11 _ Fu F _ _ _ _ _) (fun q2 => ?_) (fun q2 => ?_)
    · have q2 := of_decide_eq_true (cmp_ne.symm.trans q2)
      refine rb (i' := 21) (ls' := [some (vR 0), some (vI (nI x)), some (vI (nI y)), some (vI (nI z)), some (vI (nI w))]) (st' := [vI 0]) (L' := (mL zz U E W f)) 1 (fun _ _ => rfl) ?_
      exact rn_fin (fun _ _ => rfl) (by
            unfold tri
            have hne : Nat.beq (dg c y) w = false := Bool.eq_false_iff.mpr (fun z => q2 (congrArg nI (Nat.eq_of_beq_eq_true z)))
            simp [hne, bzb])
    · have q2 := of_decide_eq_false (cmp_ne.symm.trans q2)
      refine rb (i' := 15) (ls' := [some (vR 0), some (vI (nI x)), some (vI (nI y)), some (vI (nI z)), some (vI (nI w))]) (st' := [vI (nI z), vR 2]) (L' := (mL zz U E W f)) 3 (fun _ _ => rfl) ?_
      refine rn_g (g := (Nat.beq 0 0 && pin (nI z) 9)) (i' := 16) (ls' := [some (vR 0), some (vI (nI x)), some (vI (nI y)), some (vI (nI z)), some (vI (nI w))]) (st' := [vI (f (ix (nI z)))]) (L' := (mL zz U E W f)) (fun _ _ => rfl) (gpin_nI hz (by decide)) ?_
      refine rn_top (x := f (ix (nI z))) (y := nI (dg c z)) ((congrArg f (gix_nI (by omega))).trans (hB z hz)) ?_
      refine rb (i' := 17) (ls' := [some (vR 0), some (vI (nI x)), some (vI (nI y)), some (vI (nI z)), some (vI (nI w))]) (st' := [vI (nI w), vI (nI (dg c z))]) (L' := (mL zz U E W f)) 1 (fun _ _ => rfl) ?_
      refine rn_if (b := 1) (x := nI (dg c z)) (y := nI w) (it := 20) (ie := 18) (ls' := [some (vR 0), some (vI (nI x)), some (vI (nI y)), some (vI (nI z)), some (vI (nI w))]) (st' := []) (fun Fu F => bq_73_17 _ Fu F _ _ _ _ _) (fun q3 => ?_) (fun q3 => ?_)
      · have q3 := of_decide_eq_true (cmp_ne.symm.trans q3)
        refine rb (i' := 21) (ls' := [some (vR 0), some (vI (nI x)), some (vI (nI y)), some (vI (nI z)), some (vI (nI w))]) (st' := [vI 0]) (L' := (mL zz U E W f)) 1 (fun _ _ => rfl) ?_
        exact rn_fin (fun _ _ => rfl) (by
              unfold tri
              have hne : Nat.beq (dg c z) w = false := Bool.eq_false_iff.mpr (fun z => q3 (congrArg nI (Nat.eq_of_beq_eq_true z)))
              simp [hne, bzb])
      · have q3 := of_decide_eq_false (cmp_ne.symm.trans q3)
        refine rb (i' := 21) (ls' := [some (vR 0), some (vI (nI x)), some (vI (nI y)), some (vI (nI z)), some (vI (nI w))]) (st' := [vI 1]) (L' := (mL zz U E W f)) 2 (fun _ _ => rfl) ?_
        exact rn_fin (fun _ _ => rfl) (by
              unfold tri
              rw [(gnI_inj (by have := dg_lt c x; omega) (by omega)).mp (Decidable.of_not_not q1), (gnI_inj (by have := dg_lt c y; omega) (by omega)).mp (Decidable.of_not_not q2), (gnI_inj (by have := dg_lt c z; omega) (by omega)).mp (Decidable.of_not_not q3)]
              simp [bzb])
theorem r_three {d c w : Nat} {U E : Int32} {W f : FA} (hB : Bd f c) (hw : w < 3) : MC (d + 1 + 1) 72 [vR 0, vI (nI w)] (mL zz U E W f) (some (vI (bzb (three c w))), mL zz U E W f) := by
  refine mc_of rfl ?_
  show Rn (d + 1) 72 0 [some (vR 0), some (vI (nI w)), none] [] (mL zz U E W f) _
  refine rb (i' := 4) (ls' := [some (vR 0), some (vI (nI w)), some (vI 0)]) (st' := [vI 3, vI 0]) (L' := (mL zz U E W f)) 4 (fun _ _ => rfl) ?_
  refine rn_if (b := 3) (x := 0) (y := 3) (it := 37) (ie := 5) (ls' := [some (vR 0), some (vI (nI w)), some (vI 0)]) (st' := []) (fun Fu F => bq_72_4 _ Fu F _ _ _ _ _) (fun k1 => absurd (of_decide_eq_true (cmp_ge.symm.trans k1)) (show ¬ ((3 : Int32) ≤ (0 : Int32)) from by decide +kernel)) (fun _ => ?_)
  refine rb (i' := 20) (ls' := [some (vR 0), some (vI (nI w)), some (vI 0)]) (st' := [vI (nI w), vI ((3 * 0) + 2), vI ((3 * 0) + 1), vI (3 * 0), vR 0]) (L' := (mL zz U E W f)) 15 (fun _ _ => rfl) ?_
  refine rn_eq (ls' := [some (vR 0), some (vI (nI w)), some (vI 0)]) (st' := [vI (nI w), vI (nI 2), vI (nI 1), vI (nI 0), vR 0]) (L' := (mL zz U E W f)) rfl (st4 (show (3 * 0 : Int32) = nI 0 by decide +kernel) (show ((3 * 0) + 1 : Int32) = nI 1 by decide +kernel) (show ((3 * 0) + 2 : Int32) = nI 2 by decide +kernel)) rfl ?_
  refine rn_call (a := 73) (As := [vR 0, vI (nI 0), vI (nI 1), vI (nI 2), vI (nI w)]) (t := 21) (ls' := [some (vR 0), some (vI (nI w)), some (vI 0)]) (st' := []) (fun Fu F => cq_72_20 (evF Fu _) F _ _ _ _ _ _ _ _ _) (r_are (x := 0) (y := 1) (z := 2) hB hw (by decide) (by decide) (by decide)) ?_
  refine rn_eq (ls' := [some (vR 0), some (vI (nI w)), some (vI 0)]) (st' := [vI (bzb (tri c w 0 1 2))]) (L' := (mL zz U E W f)) rfl rfl rfl ?_
  refine rn_if (b := 1) (x := bzb (tri c w 0 1 2)) (y := 0) (it := 33) (ie := 22) (ls' := [some (vR 0), some (vI (nI w)), some (vI 0)]) (st' := []) (fun Fu F => bq_72_21 _ Fu F _ _ _ _) (fun q1 => ?_) (fun q1 => ?_)
  · have q1 := of_decide_eq_true (cmp_ne.symm.trans q1)
    refine rb (i' := 34) (ls' := [some (vR 0), some (vI (nI w)), some (vI 0)]) (st' := [vI 1]) (L' := (mL zz U E W f)) 1 (fun _ _ => rfl) ?_
    exact rn_fin (fun _ _ => rfl) (by rw [show three c w = true by simp [three, bz_t q1]]; rfl)
  · have q1 := of_decide_eq_false (cmp_ne.symm.trans q1)
    refine rb (i' := 31) (ls' := [some (vR 0), some (vI (nI w)), some (vI 0)]) (st' := [vI (nI w), vI (0 + 6), vI (0 + 3), vI 0, vR 0]) (L' := (mL zz U E W f)) 9 (fun _ _ => rfl) ?_
    refine rn_eq (ls' := [some (vR 0), some (vI (nI w)), some (vI 0)]) (st' := [vI (nI w), vI (nI 6), vI (nI 3), vI (nI 0), vR 0]) (L' := (mL zz U E W f)) rfl (st4 (show (0 : Int32) = nI 0 by decide +kernel) (show (0 + 3 : Int32) = nI 3 by decide +kernel) (show (0 + 6 : Int32) = nI 6 by decide +kernel)) rfl ?_
    refine rn_call (a := 73) (As := [vR 0, vI (nI 0), vI (nI 3), vI (nI 6), vI (nI w)]) (t := 32) (ls' := [some (vR 0), some (vI (nI w)), some (vI 0)]) (st' := []) (fun Fu F => cq_72_31 (evF Fu _) F _ _ _ _ _ _ _ _ _) (r_are (x := 0) (y := 3) (z := 6) hB hw (by decide) (by decide) (by decide)) ?_
    refine rn_eq (ls' := [some (vR 0), some (vI (nI w)), some (vI 0)]) (st' := [vI (bzb (tri c w 0 3 6))]) (L' := (mL zz U E W f)) rfl rfl rfl ?_
    refine rn_if (b := 0) (x := bzb (tri c w 0 3 6)) (y := 0) (it := 35) (ie := 33) (ls' := [some (vR 0), some (vI (nI w)), some (vI 0)]) (st' := []) (fun Fu F => bq_72_32 _ Fu F _ _ _ _) (fun q2 => ?_) (fun q2 => ?_)
    · have q2 := of_decide_eq_true (cmp_eq.symm.trans q2)
      refine rb (i' := 4) (ls' := [some (vR 0), some (vI (nI w)), some (vI (0 + 1))]) (st' := [vI 3, vI (0 + 1)]) (L' := (mL zz U E W f)) 4 (fun _ _ => rfl) ?_
      refine rn_if (b := 3) (x := 0 + 1) (y := 3) (it := 37) (ie := 5) (ls' := [some (vR 0), some (vI (nI w)), some (vI (0 + 1))]) (st' := []) (fun Fu F => bq_72_4 _ Fu F _ _ _ _ _) (fun k2 => absurd (of_decide_eq_true (cmp_ge.symm.trans k2)) (show ¬ ((3 : Int32) ≤ (0 + 1 : Int32)) from by decide +kernel)) (fun _ => ?_)
      refine rb (i' := 20) (ls' := [some (vR 0), some (vI (nI w)), some (vI (0 + 1))]) (st' := [vI (nI w), vI ((3 * (0 + 1)) + 2), vI ((3 * (0 + 1)) + 1), vI (3 * (0 + 1)), vR 0]) (L' := (mL zz U E W f)) 15 (fun _ _ => rfl) ?_
      refine rn_eq (ls' := [some (vR 0), some (vI (nI w)), some (vI (0 + 1))]) (st' := [vI (nI w), vI (nI 5), vI (nI 4), vI (nI 3), vR 0]) (L' := (mL zz U E W f)) rfl (st4 (show (3 * (0 + 1) : Int32) = nI 3 by decide +kernel) (show ((3 * (0 + 1)) + 1 : Int32) = nI 4 by decide +kernel) (show ((3 * (0 + 1)) + 2 : Int32) = nI 5 by decide +kernel)) rfl ?_
      refine rn_call (a := 73) (As := [vR 0, vI (nI 3), vI (nI 4), vI (nI 5), vI (nI w)]) (t := 21) (ls' := [some (vR 0), some (vI (nI w)), some (vI (0 + 1))]) (st' := []) (fun Fu F => cq_72_20 (evF Fu _) F _ _ _ _ _ _ _ _ _) (r_are (x := 3) (y := 4) (z := 5) hB hw (by decide) (by decide) (by decide)) ?_
      refine rn_eq (ls' := [some (vR 0), some (vI (nI w)), some (vI (0 + 1))]) (st' := [vI (bzb (tri c w 3 4 5))]) (L' := (mL zz U E W f)) rfl rfl rfl ?_
      refine rn_if (b := 1) (x := bzb (tri c w 3 4 5)) (y := 0) (it := 33) (ie := 22) (ls' := [some (vR 0), some (vI (nI w)), some (vI (0 + 1))]) (st' := []) (fun Fu F => bq_72_21 _ Fu F _ _ _ _) (fun q3 => ?_) (fun q3 => ?_)
      · have q3 := of_decide_eq_true (cmp_ne.symm.trans q3)
        refine rb (i' := 34) (ls' := [some (vR 0), some (vI (nI w)), some (vI (0 + 1))]) (st' := [vI 1]) (L' := (mL zz U E W f)) 1 (fun _ _ => rfl) ?_
        exact rn_fin (fun _ _ => rfl) (by rw [show three c w = true by simp [three, bz_f (Decidable.of_not_not q1), bz_f q2, bz_t q3]]; rfl)
      · have q3 := of_decide_eq_false (cmp_ne.symm.trans q3)
        refine rb (i' := 31) (ls' := [some (vR 0), some (vI (nI w)), some (vI (0 + 1))]) (st' := [vI (nI w), vI ((0 + 1) + 6), vI ((0 + 1) + 3), vI (0 + 1), vR 0]) (L' := (mL zz U E W f)) 9 (fun _ _ => rfl) ?_
        refine rn_eq (ls' := [some (vR 0), some (vI (nI w)), some (vI (0 + 1))]) (st' := [vI (nI w), vI (nI 7), vI (nI 4), vI (nI 1), vR 0]) (L' := (mL zz U E W f)) rfl (st4 (show (0 + 1 : Int32) = nI 1 by decide +kernel) (show ((0 + 1) + 3 : Int32) = nI 4 by decide +kernel) (show ((0 + 1) + 6 : Int32) = nI 7 by decide +kernel)) rfl ?_
        refine rn_call (a := 73) (As := [vR 0, vI (nI 1), vI (nI 4), vI (nI 7), vI (nI w)]) (t := 32) (ls' := [some (vR 0), some (vI (nI w)), some (vI (0 + 1))]) (st' := []) (fun Fu F => cq_72_31 (evF Fu _) F _ _ _ _ _ _ _ _ _) (r_are (x := 1) (y := 4) (z := 7) hB hw (by decide) (by decide) (by decide)) ?_
        refine rn_eq (ls' := [some (vR 0), some (vI (nI w)), some (vI (0 + 1))]) (st' := [vI (bzb (tri c w 1 4 7))]) (L' := (mL zz U E W f)) rfl rfl rfl ?_
        refine rn_if (b := 0) (x := bzb (tri c w 1 4 7)) (y := 0) (it := 35) (ie := 33) (ls' := [some (vR 0), some (vI (nI w)), some (vI (0 + 1))]) (st' := []) (fun Fu F => bq_72_32 _ Fu F _ _ _ _) (fun q4 => ?_) (fun q4 => ?_)
        · have q4 := of_decide_eq_true (cmp_eq.symm.trans q4)
          refine rb (i' := 4) (ls' := [some (vR 0), some (vI (nI w)), some (vI ((0 + 1) + 1))]) (st' := [vI 3, vI ((0 + 1) + 1)]) (L' := (mL zz U E W f)) 4 (fun _ _ => rfl) ?_
          refine rn_if (b := 3) (x := (0 + 1) + 1) (y := 3) (it := 37) (ie := 5) (ls' := [some (vR 0), some (vI (nI w)), some (vI ((0 + 1) + 1))]) (st' := []) (fun Fu F => bq_72_4 _ Fu F _ _ _ _ _) (fun k3 => absurd (of_decide_eq_true (cmp_ge.symm.trans k3)) (show ¬ ((3 : Int32) ≤ ((0 + 1) + 1 : Int32)) from by decide +kernel)) (fun _ => ?_)
          refine rb (i' := 20) (ls' := [some (vR 0), some (vI (nI w)), some (vI ((0 + 1) + 1))]) (st' := [vI (nI w), vI ((3 * ((0 + 1) + 1)) + 2), vI ((3 * ((0 + 1) + 1)) + 1), vI (3 * ((0 + 1) + 1)), vR 0]) (L' := (mL zz U E W f)) 15 (fun _ _ => rfl) ?_
          refine rn_eq (ls' := [some (vR 0), some (vI (nI w)), some (vI ((0 + 1) + 1))]) (st' := [vI (nI w), vI (nI 8), vI (nI 7), vI (nI 6), vR 0]) (L' := (mL zz U E W f)) rfl (st4 (show (3 * ((0 + 1) + 1) : Int32) = nI 6 by decide +kernel) (show ((3 * ((0 + 1) + 1)) + 1 : Int32) = nI 7 by decide +kernel) (show ((3 * ((0 + 1) + 1)) + 2 : Int32) = nI 8 by decide +kernel)) rfl ?_
          refine rn_call (a := 73) (As := [vR 0, vI (nI 6), vI (nI 7), vI (nI 8), vI (nI w)]) (t := 21) (ls' := [some (vR 0), some (vI (nI w)), some (vI ((0 + 1) + 1))]) (st' := []) (fun Fu F => cq_72_20 (evF Fu _) F _ _ _ _ _ _ _ _ _) (r_are (x := 6) (y := 7) (z := 8) hB hw (by decide) (by decide) (by decide)) ?_
          refine rn_eq (ls' := [some (vR 0), some (vI (nI w)), some (vI ((0 + 1) + 1))]) (st' := [vI (bzb (tri c w 6 7 8))]) (L' := (mL zz U E W f)) rfl rfl rfl ?_
          refine rn_if (b := 1) (x := bzb (tri c w 6 7 8)) (y := 0) (it := 33) (ie := 22) (ls' := [some (vR 0), some (vI (nI w)), some (vI ((0 + 1) + 1))]) (st' := []) (fun Fu F => bq_72_21 _ Fu F _ _ _ _) (fun q5 => ?_) (fun q5 => ?_)
          · have q5 := of_decide_eq_true (cmp_ne.symm.trans q5)
            refine rb (i' := 34) (ls' := [some (vR 0), some (vI (nI w)), some (vI ((0 + 1) + 1))]) (st' := [vI 1]) (L' := (mL zz U E W f)) 1 (fun _ _ => rfl) ?_
            exact rn_fin (fun _ _ => rfl) (by rw [show three c w = true by simp [three, bz_f (Decidable.of_not_not q1), bz_f q2, bz_f (Decidable.of_not_not q3), bz_f q4, bz_t q5]]; rfl)
          · have q5 := of_decide_eq_false (cmp_ne.symm.trans q5)
            refine rb (i' := 31) (ls' := [some (vR 0), some (vI (nI w)), some (vI ((0 + 1) + 1))]) (st' := [vI (nI w), vI (((0 + 1) + 1) + 6), vI (((0 + 1) + 1) + 3), vI ((0 + 1) + 1), vR 0]) (L' := (mL zz U E W f)) 9 (fun _ _ => rfl) ?_
            refine rn_eq (ls' := [some (vR 0), some (vI (nI w)), some (vI ((0 + 1) + 1))]) (st' := [vI (nI w), vI (nI 8), vI (nI 5), vI (nI 2), vR 0]) (L' := (mL zz U E W f)) rfl (st4 (show ((0 + 1) + 1 : Int32) = nI 2 by decide +kernel) (show (((0 + 1) + 1) + 3 : Int32) = nI 5 by decide +kernel) (show (((0 + 1) + 1) + 6 : Int32) = nI 8 by decide +kernel)) rfl ?_
            refine rn_call (a := 73) (As := [vR 0, vI (nI 2), vI (nI 5), vI (nI 8), vI (nI w)]) (t := 32) (ls' := [some (vR 0), some (vI (nI w)), some (vI ((0 + 1) + 1))]) (st' := []) (fun Fu F => cq_72_31 (evF Fu _) F _ _ _ _ _ _ _ _ _) (r_are (x := 2) (y := 5) (z := 8) hB hw (by decide) (by decide) (by decide)) ?_
            refine rn_eq (ls' := [some (vR 0), some (vI (nI w)), some (vI ((0 + 1) + 1))]) (st' := [vI (bzb (tri c w 2 5 8))]) (L' := (mL zz U E W f)) rfl rfl rfl ?_
            refine rn_if (b := 0) (x := bzb (tri c w 2 5 8)) (y := 0) (it := 35) (ie := 33) (ls' := [some (vR 0), some (vI (nI w)), some (vI ((0 + 1) + 1))]) (st' := []) (fun Fu F => bq_72_32 _ Fu F _ _ _ _) (fun q6 => ?_) (fun q6 => ?_)
            · have q6 := of_decide_eq_true (cmp_eq.symm.trans q6)
              refine rb (i' := 4) (ls' := [some (vR 0), some (vI (nI w)), some (vI (((0 + 1) + 1) + 1))]) (st' := [vI 3, vI (((0 + 1) + 1) + 1)]) (L' := (mL zz U E W f)) 4 (fun _ _ => rfl) ?_
              refine rn_if (b := 3) (x := ((0 + 1) + 1) + 1) (y := 3) (it := 37) (ie := 5) (ls' := [some (vR 0), some (vI (nI w)), some (vI (((0 + 1) + 1) + 1))]) (st' := []) (fun Fu F => bq_72_4 _ Fu F _ _ _ _ _) (fun _ => ?_) (fun k4 => absurd (show (3 : Int32) ≤ (((0 + 1) + 1) + 1 : Int32) from by decide +kernel) (of_decide_eq_false (cmp_ge.symm.trans k4)))
              refine rb (i' := 42) (ls' := [some (vR 0), some (vI (nI w)), some (vI (((0 + 1) + 1) + 1))]) (st' := [vI (nI w), vI 8, vI 4, vI 0, vR 0]) (L' := (mL zz U E W f)) 5 (fun _ _ => rfl) ?_
              refine rn_eq (ls' := [some (vR 0), some (vI (nI w)), some (vI (((0 + 1) + 1) + 1))]) (st' := [vI (nI w), vI (nI 8), vI (nI 4), vI (nI 0), vR 0]) (L' := (mL zz U E W f)) rfl (st4 (show (0 : Int32) = nI 0 by decide +kernel) (show (4 : Int32) = nI 4 by decide +kernel) (show (8 : Int32) = nI 8 by decide +kernel)) rfl ?_
              refine rn_call (a := 73) (As := [vR 0, vI (nI 0), vI (nI 4), vI (nI 8), vI (nI w)]) (t := 43) (ls' := [some (vR 0), some (vI (nI w)), some (vI (((0 + 1) + 1) + 1))]) (st' := []) (fun Fu F => cq_72_42 (evF Fu _) F _ _ _ _ _ _ _ _ _) (r_are (x := 0) (y := 4) (z := 8) hB hw (by decide) (by decide) (by decide)) ?_
              refine rn_eq (ls' := [some (vR 0), some (vI (nI w)), some (vI (((0 + 1) + 1) + 1))]) (st' := [vI (bzb (tri c w 0 4 8))]) (L' := (mL zz U E W f)) rfl rfl rfl ?_
              refine rn_if (b := 1) (x := bzb (tri c w 0 4 8)) (y := 0) (it := 51) (ie := 44) (ls' := [some (vR 0), some (vI (nI w)), some (vI (((0 + 1) + 1) + 1))]) (st' := []) (fun Fu F => bq_72_43 _ Fu F _ _ _ _) (fun q7 => ?_) (fun q7 => ?_)
              · have q7 := of_decide_eq_true (cmp_ne.symm.trans q7)
                refine rb (i' := 54) (ls' := [some (vR 0), some (vI (nI w)), some (vI (((0 + 1) + 1) + 1))]) (st' := [vI 1]) (L' := (mL zz U E W f)) 2 (fun _ _ => rfl) ?_
                exact rn_fin (fun _ _ => rfl) (by rw [show three c w = true by simp [three, bz_f (Decidable.of_not_not q1), bz_f q2, bz_f (Decidable.of_not_not q3), bz_f q4, bz_f (Decidable.of_not_not q5), bz_f q6, bz_t q7]]; rfl)
              · have q7 := of_decide_eq_false (cmp_ne.symm.trans q7)
                refine rb (i' := 49) (ls' := [some (vR 0), some (vI (nI w)), some (vI (((0 + 1) + 1) + 1))]) (st' := [vI (nI w), vI 6, vI 4, vI 2, vR 0]) (L' := (mL zz U E W f)) 5 (fun _ _ => rfl) ?_
                refine rn_eq (ls' := [some (vR 0), some (vI (nI w)), some (vI (((0 + 1) + 1) + 1))]) (st' := [vI (nI w), vI (nI 6), vI (nI 4), vI (nI 2), vR 0]) (L' := (mL zz U E W f)) rfl (st4 (show (2 : Int32) = nI 2 by decide +kernel) (show (4 : Int32) = nI 4 by decide +kernel) (show (6 : Int32) = nI 6 by decide +kernel)) rfl ?_
                refine rn_call (a := 73) (As := [vR 0, vI (nI 2), vI (nI 4), vI (nI 6), vI (nI w)]) (t := 50) (ls' := [some (vR 0), some (vI (nI w)), some (vI (((0 + 1) + 1) + 1))]) (st' := []) (fun Fu F => cq_72_49 (evF Fu _) F _ _ _ _ _ _ _ _ _) (r_are (x := 2) (y := 4) (z := 6) hB hw (by decide) (by decide) (by decide)) ?_
                refine rn_eq (ls' := [some (vR 0), some (vI (nI w)), some (vI (((0 + 1) + 1) + 1))]) (st' := [vI (bzb (tri c w 2 4 6))]) (L' := (mL zz U E W f)) rfl rfl rfl ?_
                refine rn_if (b := 0) (x := bzb (tri c w 2 4 6)) (y := 0) (it := 53) (ie := 51) (ls' := [some (vR 0), some (vI (nI w)), some (vI (((0 + 1) + 1) + 1))]) (st' := []) (fun Fu F => bq_72_50 _ Fu F _ _ _ _) (fun q8 => ?_) (fun q8 => ?_)
                · have q8 := of_decide_eq_true (cmp_eq.symm.trans q8)
                  refine rb (i' := 54) (ls' := [some (vR 0), some (vI (nI w)), some (vI (((0 + 1) + 1) + 1))]) (st' := [vI 0]) (L' := (mL zz U E W f)) 1 (fun _ _ => rfl) ?_
                  exact rn_fin (fun _ _ => rfl) (by rw [show three c w = false by simp [three, bz_f (Decidable.of_not_not q1), bz_f q2, bz_f (Decidable.of_not_not q3), bz_f q4, bz_f (Decidable.of_not_not q5), bz_f q6, bz_f (Decidable.of_not_not q7), bz_f q8]]; rfl)
                · have q8 := of_decide_eq_false (cmp_eq.symm.trans q8)
                  refine rb (i' := 54) (ls' := [some (vR 0), some (vI (nI w)), some (vI (((0 + 1) + 1) + 1))]) (st' := [vI 1]) (L' := (mL zz U E W f)) 2 (fun _ _ => rfl) ?_
                  exact rn_fin (fun _ _ => rfl) (by rw [show three c w = true by simp [three, bz_f (Decidable.of_not_not q1), bz_f q2, bz_f (Decidable.of_not_not q3), bz_f q4, bz_f (Decidable.of_not_not q5), bz_f q6, bz_f (Decidable.of_not_not q7), bz_t q8]]; rfl)
            · have q6 := of_decide_eq_false (cmp_eq.symm.trans q6)
              refine rb (i' := 34) (ls' := [some (vR 0), some (vI (nI w)), some (vI ((0 + 1) + 1))]) (st' := [vI 1]) (L' := (mL zz U E W f)) 1 (fun _ _ => rfl) ?_
              exact rn_fin (fun _ _ => rfl) (by rw [show three c w = true by simp [three, bz_f (Decidable.of_not_not q1), bz_f q2, bz_f (Decidable.of_not_not q3), bz_f q4, bz_f (Decidable.of_not_not q5), bz_t q6]]; rfl)
        · have q4 := of_decide_eq_false (cmp_eq.symm.trans q4)
          refine rb (i' := 34) (ls' := [some (vR 0), some (vI (nI w)), some (vI (0 + 1))]) (st' := [vI 1]) (L' := (mL zz U E W f)) 1 (fun _ _ => rfl) ?_
          exact rn_fin (fun _ _ => rfl) (by rw [show three c w = true by simp [three, bz_f (Decidable.of_not_not q1), bz_f q2, bz_f (Decidable.of_not_not q3), bz_t q4]]; rfl)
    · have q2 := of_decide_eq_false (cmp_eq.symm.trans q2)
      refine rb (i' := 34) (ls' := [some (vR 0), some (vI (nI w)), some (vI 0)]) (st' := [vI 1]) (L' := (mL zz U E W f)) 1 (fun _ _ => rfl) ?_
      exact rn_fin (fun _ _ => rfl) (by rw [show three c w = true by simp [three, bz_f (Decidable.of_not_not q1), bz_t q2]]; rfl)
theorem r_po {d i j v : Nat} {U E : Int32} {W f : FA} (hj : j ≤ i) (hi : i < 9) : Rn d 77 4 [some (vR 0), some (vI (nI i)), some (vI (nI v)), some (vI (nI j))] [] (mL zz U E W f) (some (vI (nI v)), mL zz U E W f) := by
  refine rb (i' := 6) (ls' := [some (vR 0), some (vI (nI i)), some (vI (nI v)), some (vI (nI j))]) (st' := [vI (nI i), vI (nI j)]) (L' := (mL zz U E W f)) 2 (fun _ _ => rfl) ?_
  refine rn_if (b := 5) (x := nI j) (y := nI i) (it := 13) (ie := 7) (ls' := [some (vR 0), some (vI (nI i)), some (vI (nI v)), some (vI (nI j))]) (st' := []) (fun Fu F => bq_77_6 _ Fu F _ _ _ _ _) (fun _ => ?_) (fun k1 => absurd (show (nI j : Int32) ≤ (nI i : Int32) from nI_le hj (by omega)) (of_decide_eq_false (cmp_le.symm.trans k1)))
  refine rb (i' := 14) (ls' := [some (vR 0), some (vI (nI i)), some (vI (nI v)), some (vI (nI j))]) (st' := [vI (nI v)]) (L' := (mL zz U E W f)) 1 (fun _ _ => rfl) ?_
  exact rn_fin (fun _ _ => rfl) (rfl)
theorem r_ps {d i j v : Nat} {U E : Int32} {W f : FA} {res : Option PV × QH FA} (hj : i < j + 1) (hj9 : j < 9) (hk : Rn d 77 4 [some (vR 0), some (vI (nI i)), some (vI (nI (v * 3))), some (vI (nI j))] [] (mL zz U E W f) res) : Rn d 77 4 [some (vR 0), some (vI (nI i)), some (vI (nI v)), some (vI (nI (j + 1)))] [] (mL zz U E W f) res := by
  refine rb (i' := 6) (ls' := [some (vR 0), some (vI (nI i)), some (vI (nI v)), some (vI (nI (j + 1)))]) (st' := [vI (nI i), vI (nI (j + 1))]) (L' := (mL zz U E W f)) 2 (fun _ _ => rfl) ?_
  refine rn_if (b := 5) (x := nI (j + 1)) (y := nI i) (it := 13) (ie := 7) (ls' := [some (vR 0), some (vI (nI i)), some (vI (nI v)), some (vI (nI (j + 1)))]) (st' := []) (fun Fu F => bq_77_6 _ Fu F _ _ _ _ _) (fun k1 => absurd (of_decide_eq_true (cmp_le.symm.trans k1)) (show ¬ ((nI (j + 1) : Int32) ≤ (nI i : Int32)) from nI_ge (by omega) (by omega))) (fun _ => ?_)
  refine rb (i' := 10) (ls' := [some (vR 0), some (vI (nI i)), some (vI (nI v)), some (vI (nI (j + 1)))]) (st' := [vI ((nI v) * 3)]) (L' := (mL zz U E W f)) 3 (fun _ _ => rfl) ?_
  refine rn_top (x := (nI v) * 3) (y := nI (v * 3)) (nmul rfl (rfl : (3 : Int32) = nI 3)) ?_
  refine rb (i' := 11) (ls' := [some (vR 0), some (vI (nI i)), some (vI (nI (v * 3))), some (vI (nI (j + 1)))]) (st' := []) (L' := (mL zz U E W f)) 1 (fun _ _ => rfl) ?_
  refine rb (i' := 12) (ls' := [some (vR 0), some (vI (nI i)), some (vI (nI (v * 3))), some (vI ((nI (j + 1)) + (-1)))]) (st' := []) (L' := (mL zz U E W f)) 1 (fun Fu F => iq_3_4 (rnF Fu _ 77 F) 12 (-1) _ _ _ _ _ _) ?_
  refine rb (i' := 4) (ls' := [some (vR 0), some (vI (nI i)), some (vI (nI (v * 3))), some (vI ((nI (j + 1)) + (-1)))]) (st' := []) (L' := (mL zz U E W f)) 1 (fun _ _ => rfl) ?_
  rw [nI_dec]
  exact hk
theorem r_pl {d i : Nat} {U E : Int32} {W f : FA} (hi : i < 9) : ∀ (r v : Nat), i + r ≤ 8 → Rn d 77 4 [some (vR 0), some (vI (nI i)), some (vI (nI v)), some (vI (nI (i + r)))] [] (mL zz U E W f) (some (vI (nI (v * 3 ^ r))), mL zz U E W f) := by
  intro r
  induction r with
  | zero =>
    intro v _
    rw [Nat.pow_zero, Nat.mul_one]
    exact r_po (Nat.le_refl _) hi
  | succ r ih =>
    intro v hr
    have h := ih (v * 3) (by omega)
    rw [show v * 3 ^ (r + 1) = v * 3 * 3 ^ r by rw [Nat.pow_succ, Nat.mul_comm (3 ^ r) 3, Nat.mul_assoc]]
    exact r_ps (j := i + r) (by omega) (by omega) h
theorem r_powr {d i : Nat} {U E : Int32} {W f : FA} (hi : i < 9) : MC (d + 1) 77 [vR 0, vI (nI i)] (mL zz U E W f) (some (vI (nI (3 ^ (8 - i)))), mL zz U E W f) := by
  refine mc_of rfl ?_
  refine rb (i' := 4) (ls' := [some (vR 0), some (vI (nI i)), some (vI 1), some (vI 8)]) (st' := []) (L' := mL zz U E W f) 4 (fun _ _ => rfl) ?_
  have h := r_pl (zz := zz) (d := d) (U := U) (E := E) (W := W) (f := f) hi (8 - i) 1 (by omega)
  rw [show i + (8 - i) = 8 by omega, Nat.one_mul] at h
  exact h
theorem tn_0 {D R B t u e : Nat} {W f : FA} {a : Int32} {res : Option PV × QH FA} (ht : t ≤ 8) (hR : R ≤ 222222222) (hBl : 0 < B) (hBu : B < 11) (hB0 : pcmp 1 (nI B) 0 = true) (hx1 : ¬ R % B = 1) (hx2 : ¬ R % B = 2) (hk : Rn D 71 10 [some (vR 0), some (vI a), some (vI (nI B)), some (vI (nI (R / B))), some (vI (nI (8 - t) + (-1)))] [] (mL zz (nI u) (nI e) W (upd f (8 - t) (nI (R % B)))) res) : Rn D 71 10 [some (vR 0), some (vI a), some (vI (nI B)), some (vI (nI R)), some (vI (nI (8 - t)))] [] (mL zz (nI u) (nI e) W f) res := by
  have hRB := Nat.mod_lt R hBl
  refine rb (i' := 11) (ls' := [some (vR 0), some (vI a), some (vI (nI B)), some (vI (nI R)), some (vI (nI (8 - t)))]) (st' := [vI (nI (8 - t))]) (L' := (mL zz (nI u) (nI e) W f)) 1 (fun _ _ => rfl) ?_
  refine rn_if (b := 2) (x := nI (8 - t)) (y := 0) (it := 49) (ie := 12) (ls' := [some (vR 0), some (vI a), some (vI (nI B)), some (vI (nI R)), some (vI (nI (8 - t)))]) (st' := []) (fun Fu F => bq_71_11 _ Fu F _ _ _ _) (fun k1 => absurd (of_decide_eq_true (cmp_lt.symm.trans k1)) (show ¬ ((nI (8 - t) : Int32) < (0 : Int32)) from nI_pos (by omega))) (fun _ => ?_)
  refine rb (i' := 17) (ls' := [some (vR 0), some (vI a), some (vI (nI B)), some (vI (nI R)), some (vI (nI (8 - t)))]) (st' := [vI (nI B), vI (nI R), vI (nI (8 - t)), vR 2]) (L' := (mL zz (nI u) (nI e) W f)) 5 (fun _ _ => rfl) ?_
  refine rn_g (g := pcmp 1 (nI B) 0) (i' := 18) (ls' := [some (vR 0), some (vI a), some (vI (nI B)), some (vI (nI R)), some (vI (nI (8 - t)))]) (st' := [vI ((nI R) - (nI R) / (nI B) * (nI B)), vI (nI (8 - t)), vR 2]) (L' := (mL zz (nI u) (nI e) W f)) (fun _ _ => rfl) hB0 ?_
  refine rn_top (x := (nI R) - (nI R) / (nI B) * (nI B)) (y := nI (R % B)) (nrem rfl (by omega) (by omega) (by omega)) ?_
  refine rn_g (g := (Nat.beq 0 0 && pin (nI (8 - t)) 9)) (i' := 19) (ls' := [some (vR 0), some (vI a), some (vI (nI B)), some (vI (nI R)), some (vI (nI (8 - t)))]) (st' := []) (L' := (mL zz (nI u) (nI e) W (upd f (ix (nI (8 - t))) (nI (R % B))))) (fun _ _ => rfl) (gpin_nI (by omega) (by decide)) ?_
  refine rn_eq (ls' := [some (vR 0), some (vI a), some (vI (nI B)), some (vI (nI R)), some (vI (nI (8 - t)))]) (st' := []) (L' := (mL zz (nI u) (nI e) W (upd f (8 - t) (nI (R % B))))) rfl rfl (by rw [gix_nI (by omega)]) ?_
  refine rb (i' := 21) (ls' := [some (vR 0), some (vI a), some (vI (nI B)), some (vI (nI R)), some (vI (nI (8 - t)))]) (st' := [vI (nI B), vI (nI R)]) (L' := (mL zz (nI u) (nI e) W (upd f (8 - t) (nI (R % B))))) 2 (fun _ _ => rfl) ?_
  refine rn_g (g := pcmp 1 (nI B) 0) (i' := 22) (ls' := [some (vR 0), some (vI a), some (vI (nI B)), some (vI (nI R)), some (vI (nI (8 - t)))]) (st' := [vI ((nI R) / (nI B))]) (L' := (mL zz (nI u) (nI e) W (upd f (8 - t) (nI (R % B))))) (fun _ _ => rfl) hB0 ?_
  refine rn_top (x := (nI R) / (nI B)) (y := nI (R / B)) (ndiv rfl (by omega) (by omega) (by omega)) ?_
  refine rb (i' := 26) (ls' := [some (vR 0), some (vI a), some (vI (nI B)), some (vI (nI (R / B))), some (vI (nI (8 - t)))]) (st' := [vI (nI (8 - t)), vR 2]) (L' := (mL zz (nI u) (nI e) W (upd f (8 - t) (nI (R % B))))) 4 (fun _ _ => rfl) ?_
  refine rn_g (g := (Nat.beq 0 0 && pin (nI (8 - t)) 9)) (i' := 27) (ls' := [some (vR 0), some (vI a), some (vI (nI B)), some (vI (nI (R / B))), some (vI (nI (8 - t)))]) (st' := [vI ((upd f (8 - t) (nI (R % B))) (ix (nI (8 - t))))]) (L' := (mL zz (nI u) (nI e) W (upd f (8 - t) (nI (R % B))))) (fun _ _ => rfl) (gpin_nI (by omega) (by decide)) ?_
  refine rn_top (x := (upd f (8 - t) (nI (R % B))) (ix (nI (8 - t)))) (y := nI (R % B)) ((congrArg (upd f (8 - t) (nI (R % B))) (gix_nI (by omega))).trans pk_us) ?_
  refine rb (i' := 28) (ls' := [some (vR 0), some (vI a), some (vI (nI B)), some (vI (nI (R / B))), some (vI (nI (8 - t)))]) (st' := [vI 1, vI (nI (R % B))]) (L' := (mL zz (nI u) (nI e) W (upd f (8 - t) (nI (R % B))))) 1 (fun _ _ => rfl) ?_
  refine rn_if (b := 1) (x := nI (R % B)) (y := 1) (it := 35) (ie := 29) (ls' := [some (vR 0), some (vI a), some (vI (nI B)), some (vI (nI (R / B))), some (vI (nI (8 - t)))]) (st' := []) (fun Fu F => bq_71_28 _ Fu F _ _ _ _ _) (fun _ => ?_) (fun k2 => absurd (show ¬ (nI (R % B) : Int32) = (1 : Int32) from fun z => hx1 ((nI_eq (by omega) (by omega)).mp z)) (of_decide_eq_false (cmp_ne.symm.trans k2)))
  refine rb (i' := 38) (ls' := [some (vR 0), some (vI a), some (vI (nI B)), some (vI (nI (R / B))), some (vI (nI (8 - t)))]) (st' := [vI (nI (8 - t)), vR 2]) (L' := (mL zz (nI u) (nI e) W (upd f (8 - t) (nI (R % B))))) 3 (fun _ _ => rfl) ?_
  refine rn_g (g := (Nat.beq 0 0 && pin (nI (8 - t)) 9)) (i' := 39) (ls' := [some (vR 0), some (vI a), some (vI (nI B)), some (vI (nI (R / B))), some (vI (nI (8 - t)))]) (st' := [vI ((upd f (8 - t) (nI (R % B))) (ix (nI (8 - t))))]) (L' := (mL zz (nI u) (nI e) W (upd f (8 - t) (nI (R % B))))) (fun _ _ => rfl) (gpin_nI (by omega) (by decide)) ?_
  refine rn_top (x := (upd f (8 - t) (nI (R % B))) (ix (nI (8 - t)))) (y := nI (R % B)) ((congrArg (upd f (8 - t) (nI (R % B))) (gix_nI (by omega))).trans pk_us) ?_
  refine rb (i' := 40) (ls' := [some (vR 0), some (vI a), some (vI (nI B)), some (vI (nI (R / B))), some (vI (nI (8 - t)))]) (st' := [vI 2, vI (nI (R % B))]) (L' := (mL zz (nI u) (nI e) W (upd f (8 - t) (nI (R % B))))) 1 (fun _ _ => rfl) ?_
  refine rn_if (b := 1) (x := nI (R % B)) (y := 2) (it := 47) (ie := 41) (ls' := [some (vR 0), some (vI a), some (vI (nI B)), some (vI (nI (R / B))), some (vI (nI (8 - t)))]) (st' := []) (fun Fu F => bq_71_40 _ Fu F _ _ _ _ _) (fun _ => ?_) (fun k3 => absurd (show ¬ (nI (R % B) : Int32) = (2 : Int32) from fun z => hx2 ((nI_eq (by omega) (by omega)).mp z)) (of_decide_eq_false (cmp_ne.symm.trans k3)))
  refine rb (i' := 48) (ls' := [some (vR 0), some (vI a), some (vI (nI B)), some (vI (nI (R / B))), some (vI ((nI (8 - t)) + (-1)))]) (st' := []) (L' := (mL zz (nI u) (nI e) W (upd f (8 - t) (nI (R % B))))) 1 (fun Fu F => iq_4_5 (rnF Fu _ 71 F) 48 (-1) _ _ _ _ _ _ _) ?_
  refine rb (i' := 10) (ls' := [some (vR 0), some (vI a), some (vI (nI B)), some (vI (nI (R / B))), some (vI ((nI (8 - t)) + (-1)))]) (st' := []) (L' := (mL zz (nI u) (nI e) W (upd f (8 - t) (nI (R % B))))) 1 (fun _ _ => rfl) ?_
  exact hk
theorem tn_1 {D R B t u e : Nat} {W f : FA} {a : Int32} {res : Option PV × QH FA} (ht : t ≤ 8) (hR : R ≤ 222222222) (hBl : 0 < B) (hBu : B < 11) (hB0 : pcmp 1 (nI B) 0 = true) (hx : R % B = 1) (hx2 : ¬ R % B = 2) (hk : Rn D 71 10 [some (vR 0), some (vI a), some (vI (nI B)), some (vI (nI (R / B))), some (vI (nI (8 - t) + (-1)))] [] (mL zz (nI (u + 1)) (nI e) W (upd f (8 - t) (nI (R % B)))) res) : Rn D 71 10 [some (vR 0), some (vI a), some (vI (nI B)), some (vI (nI R)), some (vI (nI (8 - t)))] [] (mL zz (nI u) (nI e) W f) res := by
  have hRB := Nat.mod_lt R hBl
  refine rb (i' := 11) (ls' := [some (vR 0), some (vI a), some (vI (nI B)), some (vI (nI R)), some (vI (nI (8 - t)))]) (st' := [vI (nI (8 - t))]) (L' := (mL zz (nI u) (nI e) W f)) 1 (fun _ _ => rfl) ?_
  refine rn_if (b := 2) (x := nI (8 - t)) (y := 0) (it := 49) (ie := 12) (ls' := [some (vR 0), some (vI a), some (vI (nI B)), some (vI (nI R)), some (vI (nI (8 - t)))]) (st' := []) (fun Fu F => bq_71_11 _ Fu F _ _ _ _) (fun k1 => absurd (of_decide_eq_true (cmp_lt.symm.trans k1)) (show ¬ ((nI (8 - t) : Int32) < (0 : Int32)) from nI_pos (by omega))) (fun _ => ?_)
  refine rb (i' := 17) (ls' := [some (vR 0), some (vI a), some (vI (nI B)), some (vI (nI R)), some (vI (nI (8 - t)))]) (st' := [vI (nI B), vI (nI R), vI (nI (8 - t)), vR 2]) (L' := (mL zz (nI u) (nI e) W f)) 5 (fun _ _ => rfl) ?_
  refine rn_g (g := pcmp 1 (nI B) 0) (i' := 18) (ls' := [some (vR 0), some (vI a), some (vI (nI B)), some (vI (nI R)), some (vI (nI (8 - t)))]) (st' := [vI ((nI R) - (nI R) / (nI B) * (nI B)), vI (nI (8 - t)), vR 2]) (L' := (mL zz (nI u) (nI e) W f)) (fun _ _ => rfl) hB0 ?_
  refine rn_top (x := (nI R) - (nI R) / (nI B) * (nI B)) (y := nI (R % B)) (nrem rfl (by omega) (by omega) (by omega)) ?_
  refine rn_g (g := (Nat.beq 0 0 && pin (nI (8 - t)) 9)) (i' := 19) (ls' := [some (vR 0), some (vI a), some (vI (nI B)), some (vI (nI R)), some (vI (nI (8 - t)))]) (st' := []) (L' := (mL zz (nI u) (nI e) W (upd f (ix (nI (8 - t))) (nI (R % B))))) (fun _ _ => rfl) (gpin_nI (by omega) (by decide)) ?_
  refine rn_eq (ls' := [some (vR 0), some (vI a), some (vI (nI B)), some (vI (nI R)), some (vI (nI (8 - t)))]) (st' := []) (L' := (mL zz (nI u) (nI e) W (upd f (8 - t) (nI (R % B))))) rfl rfl (by rw [gix_nI (by omega)]) ?_
  refine rb (i' := 21) (ls' := [some (vR 0), some (vI a), some (vI (nI B)), some (vI (nI R)), some (vI (nI (8 - t)))]) (st' := [vI (nI B), vI (nI R)]) (L' := (mL zz (nI u) (nI e) W (upd f (8 - t) (nI (R % B))))) 2 (fun _ _ => rfl) ?_
  refine rn_g (g := pcmp 1 (nI B) 0) (i' := 22) (ls' := [some (vR 0), some (vI a), some (vI (nI B)), some (vI (nI R)), some (vI (nI (8 - t)))]) (st' := [vI ((nI R) / (nI B))]) (L' := (mL zz (nI u) (nI e) W (upd f (8 - t) (nI (R % B))))) (fun _ _ => rfl) hB0 ?_
  refine rn_top (x := (nI R) / (nI B)) (y := nI (R / B)) (ndiv rfl (by omega) (by omega) (by omega)) ?_
  refine rb (i' := 26) (ls' := [some (vR 0), some (vI a), some (vI (nI B)), some (vI (nI (R / B))), some (vI (nI (8 - t)))]) (st' := [vI (nI (8 - t)), vR 2]) (L' := (mL zz (nI u) (nI e) W (upd f (8 - t) (nI (R % B))))) 4 (fun _ _ => rfl) ?_
  refine rn_g (g := (Nat.beq 0 0 && pin (nI (8 - t)) 9)) (i' := 27) (ls' := [some (vR 0), some (vI a), some (vI (nI B)), some (vI (nI (R / B))), some (vI (nI (8 - t)))]) (st' := [vI ((upd f (8 - t) (nI (R % B))) (ix (nI (8 - t))))]) (L' := (mL zz (nI u) (nI e) W (upd f (8 - t) (nI (R % B))))) (fun _ _ => rfl) (gpin_nI (by omega) (by decide)) ?_
  refine rn_top (x := (upd f (8 - t) (nI (R % B))) (ix (nI (8 - t)))) (y := nI (R % B)) ((congrArg (upd f (8 - t) (nI (R % B))) (gix_nI (by omega))).trans pk_us) ?_
  refine rb (i' := 28) (ls' := [some (vR 0), some (vI a), some (vI (nI B)), some (vI (nI (R / B))), some (vI (nI (8 - t)))]) (st' := [vI 1, vI (nI (R % B))]) (L' := (mL zz (nI u) (nI e) W (upd f (8 - t) (nI (R % B))))) 1 (fun _ _ => rfl) ?_
  refine rn_if (b := 1) (x := nI (R % B)) (y := 1) (it := 35) (ie := 29) (ls' := [some (vR 0), some (vI a), some (vI (nI B)), some (vI (nI (R / B))), some (vI (nI (8 - t)))]) (st' := []) (fun Fu F => bq_71_28 _ Fu F _ _ _ _ _) (fun k2 => absurd (of_decide_eq_true (cmp_ne.symm.trans k2)) (show ¬ (¬ (nI (R % B) : Int32) = (1 : Int32)) from fun z => z (by rw [hx]; rfl))) (fun _ => ?_)
  refine rb (i' := 34) (ls' := [some (vR 0), some (vI a), some (vI (nI B)), some (vI (nI (R / B))), some (vI (nI (8 - t)))]) (st' := [vI ((nI u) + 1), vR 0]) (L' := (mL zz (nI u) (nI e) W (upd f (8 - t) (nI (R % B))))) 5 (fun _ _ => rfl) ?_
  refine rn_top (x := (nI u) + 1) (y := nI (u + 1)) (nadd rfl (rfl : (1 : Int32) = nI 1)) ?_
  refine rb (i' := 38) (ls' := [some (vR 0), some (vI a), some (vI (nI B)), some (vI (nI (R / B))), some (vI (nI (8 - t)))]) (st' := [vI (nI (8 - t)), vR 2]) (L' := (mL zz (nI (u + 1)) (nI e) W (upd f (8 - t) (nI (R % B))))) 4 (fun _ _ => rfl) ?_
  refine rn_g (g := (Nat.beq 0 0 && pin (nI (8 - t)) 9)) (i' := 39) (ls' := [some (vR 0), some (vI a), some (vI (nI B)), some (vI (nI (R / B))), some (vI (nI (8 - t)))]) (st' := [vI ((upd f (8 - t) (nI (R % B))) (ix (nI (8 - t))))]) (L' := (mL zz (nI (u + 1)) (nI e) W (upd f (8 - t) (nI (R % B))))) (fun _ _ => rfl) (gpin_nI (by omega) (by decide)) ?_
  refine rn_top (x := (upd f (8 - t) (nI (R % B))) (ix (nI (8 - t)))) (y := nI (R % B)) ((congrArg (upd f (8 - t) (nI (R % B))) (gix_nI (by omega))).trans pk_us) ?_
  refine rb (i' := 40) (ls' := [some (vR 0), some (vI a), some (vI (nI B)), some (vI (nI (R / B))), some (vI (nI (8 - t)))]) (st' := [vI 2, vI (nI (R % B))]) (L' := (mL zz (nI (u + 1)) (nI e) W (upd f (8 - t) (nI (R % B))))) 1 (fun _ _ => rfl) ?_
  refine rn_if (b := 1) (x := nI (R % B)) (y := 2) (it := 47) (ie := 41) (ls' := [some (vR 0), some (vI a), some (vI (nI B)), some (vI (nI (R / B))), some (vI (nI (8 - t)))]) (st' := []) (fun Fu F => bq_71_40 _ Fu F _ _ _ _ _) (fun _ => ?_) (fun k3 => absurd (show ¬ (nI (R % B) : Int32) = (2 : Int32) from fun z => hx2 ((nI_eq (by omega) (by omega)).mp z)) (of_decide_eq_false (cmp_ne.symm.trans k3)))
  refine rb (i' := 48) (ls' := [some (vR 0), some (vI a), some (vI (nI B)), some (vI (nI (R / B))), some (vI ((nI (8 - t)) + (-1)))]) (st' := []) (L' := (mL zz (nI (u + 1)) (nI e) W (upd f (8 - t) (nI (R % B))))) 1 (fun Fu F => iq_4_5 (rnF Fu _ 71 F) 48 (-1) _ _ _ _ _ _ _) ?_
  refine rb (i' := 10) (ls' := [some (vR 0), some (vI a), some (vI (nI B)), some (vI (nI (R / B))), some (vI ((nI (8 - t)) + (-1)))]) (st' := []) (L' := (mL zz (nI (u + 1)) (nI e) W (upd f (8 - t) (nI (R % B))))) 1 (fun _ _ => rfl) ?_
  exact hk
theorem tn_2 {D R B t u e : Nat} {W f : FA} {a : Int32} {res : Option PV × QH FA} (ht : t ≤ 8) (hR : R ≤ 222222222) (hBl : 0 < B) (hBu : B < 11) (hB0 : pcmp 1 (nI B) 0 = true) (hx1 : ¬ R % B = 1) (hx : R % B = 2) (hk : Rn D 71 10 [some (vR 0), some (vI a), some (vI (nI B)), some (vI (nI (R / B))), some (vI (nI (8 - t) + (-1)))] [] (mL zz (nI u) (nI (e + 1)) W (upd f (8 - t) (nI (R % B)))) res) : Rn D 71 10 [some (vR 0), some (vI a), some (vI (nI B)), some (vI (nI R)), some (vI (nI (8 - t)))] [] (mL zz (nI u) (nI e) W f) res := by
  have hRB := Nat.mod_lt R hBl
  refine rb (i' := 11) (ls' := [some (vR 0), some (vI a), some (vI (nI B)), some (vI (nI R)), some (vI (nI (8 - t)))]) (st' := [vI (nI (8 - t))]) (L' := (mL zz (nI u) (nI e) W f)) 1 (fun _ _ => rfl) ?_
  refine rn_if (b := 2) (x := nI (8 - t)) (y := 0) (it := 49) (ie := 12) (ls' := [some (vR 0), some (vI a), some (vI (nI B)), some (vI (nI R)), some (vI (nI (8 - t)))]) (st' := []) (fun Fu F => bq_71_11 _ Fu F _ _ _ _) (fun k1 => absurd (of_decide_eq_true (cmp_lt.symm.trans k1)) (show ¬ ((nI (8 - t) : Int32) < (0 : Int32)) from nI_pos (by omega))) (fun _ => ?_)
  refine rb (i' := 17) (ls' := [some (vR 0), some (vI a), some (vI (nI B)), some (vI (nI R)), some (vI (nI (8 - t)))]) (st' := [vI (nI B), vI (nI R), vI (nI (8 - t)), vR 2]) (L' := (mL zz (nI u) (nI e) W f)) 5 (fun _ _ => rfl) ?_
  refine rn_g (g := pcmp 1 (nI B) 0) (i' := 18) (ls' := [some (vR 0), some (vI a), some (vI (nI B)), some (vI (nI R)), some (vI (nI (8 - t)))]) (st' := [vI ((nI R) - (nI R) / (nI B) * (nI B)), vI (nI (8 - t)), vR 2]) (L' := (mL zz (nI u) (nI e) W f)) (fun _ _ => rfl) hB0 ?_
  refine rn_top (x := (nI R) - (nI R) / (nI B) * (nI B)) (y := nI (R % B)) (nrem rfl (by omega) (by omega) (by omega)) ?_
  refine rn_g (g := (Nat.beq 0 0 && pin (nI (8 - t)) 9)) (i' := 19) (ls' := [some (vR 0), some (vI a), some (vI (nI B)), some (vI (nI R)), some (vI (nI (8 - t)))]) (st' := []) (L' := (mL zz (nI u) (nI e) W (upd f (ix (nI (8 - t))) (nI (R % B))))) (fun _ _ => rfl) (gpin_nI (by omega) (by decide)) ?_
  refine rn_eq (ls' := [some (vR 0), some (vI a), some (vI (nI B)), some (vI (nI R)), some (vI (nI (8 - t)))]) (st' := []) (L' := (mL zz (nI u) (nI e) W (upd f (8 - t) (nI (R % B))))) rfl rfl (by rw [gix_nI (by omega)]) ?_
  refine rb (i' := 21) (ls' := [some (vR 0), some (vI a), some (vI (nI B)), some (vI (nI R)), some (vI (nI (8 - t)))]) (st' := [vI (nI B), vI (nI R)]) (L' := (mL zz (nI u) (nI e) W (upd f (8 - t) (nI (R % B))))) 2 (fun _ _ => rfl) ?_
  refine rn_g (g := pcmp 1 (nI B) 0) (i' := 22) (ls' := [some (vR 0), some (vI a), some (vI (nI B)), some (vI (nI R)), some (vI (nI (8 - t)))]) (st' := [vI ((nI R) / (nI B))]) (L' := (mL zz (nI u) (nI e) W (upd f (8 - t) (nI (R % B))))) (fun _ _ => rfl) hB0 ?_
  refine rn_top (x := (nI R) / (nI B)) (y := nI (R / B)) (ndiv rfl (by omega) (by omega) (by omega)) ?_
  refine rb (i' := 26) (ls' := [some (vR 0), some (vI a), some (vI (nI B)), some (vI (nI (R / B))), some (vI (nI (8 - t)))]) (st' := [vI (nI (8 - t)), vR 2]) (L' := (mL zz (nI u) (nI e) W (upd f (8 - t) (nI (R % B))))) 4 (fun _ _ => rfl) ?_
  refine rn_g (g := (Nat.beq 0 0 && pin (nI (8 - t)) 9)) (i' := 27) (ls' := [some (vR 0), some (vI a), some (vI (nI B)), some (vI (nI (R / B))), some (vI (nI (8 - t)))]) (st' := [vI ((upd f (8 - t) (nI (R % B))) (ix (nI (8 - t))))]) (L' := (mL zz (nI u) (nI e) W (upd f (8 - t) (nI (R % B))))) (fun _ _ => rfl) (gpin_nI (by omega) (by decide)) ?_
  refine rn_top (x := (upd f (8 - t) (nI (R % B))) (ix (nI (8 - t)))) (y := nI (R % B)) ((congrArg (upd f (8 - t) (nI (R % B))) (gix_nI (by omega))).trans pk_us) ?_
  refine rb (i' := 28) (ls' := [some (vR 0), some (vI a), some (vI (nI B)), some (vI (nI (R / B))), some (vI (nI (8 - t)))]) (st' := [vI 1, vI (nI (R % B))]) (L' := (mL zz (nI u) (nI e) W (upd f (8 - t) (nI (R % B))))) 1 (fun _ _ => rfl) ?_
  refine rn_if (b := 1) (x := nI (R % B)) (y := 1) (it := 35) (ie := 29) (ls' := [some (vR 0), some (vI a), some (vI (nI B)), some (vI (nI (R / B))), some (vI (nI (8 - t)))]) (st' := []) (fun Fu F => bq_71_28 _ Fu F _ _ _ _ _) (fun _ => ?_) (fun k2 => absurd (show ¬ (nI (R % B) : Int32) = (1 : Int32) from fun z => hx1 ((nI_eq (by omega) (by omega)).mp z)) (of_decide_eq_false (cmp_ne.symm.trans k2)))
  refine rb (i' := 38) (ls' := [some (vR 0), some (vI a), some (vI (nI B)), some (vI (nI (R / B))), some (vI (nI (8 - t)))]) (st' := [vI (nI (8 - t)), vR 2]) (L' := (mL zz (nI u) (nI e) W (upd f (8 - t) (nI (R % B))))) 3 (fun _ _ => rfl) ?_
  refine rn_g (g := (Nat.beq 0 0 && pin (nI (8 - t)) 9)) (i' := 39) (ls' := [some (vR 0), some (vI a), some (vI (nI B)), some (vI (nI (R / B))), some (vI (nI (8 - t)))]) (st' := [vI ((upd f (8 - t) (nI (R % B))) (ix (nI (8 - t))))]) (L' := (mL zz (nI u) (nI e) W (upd f (8 - t) (nI (R % B))))) (fun _ _ => rfl) (gpin_nI (by omega) (by decide)) ?_
  refine rn_top (x := (upd f (8 - t) (nI (R % B))) (ix (nI (8 - t)))) (y := nI (R % B)) ((congrArg (upd f (8 - t) (nI (R % B))) (gix_nI (by omega))).trans pk_us) ?_
  refine rb (i' := 40) (ls' := [some (vR 0), some (vI a), some (vI (nI B)), some (vI (nI (R / B))), some (vI (nI (8 - t)))]) (st' := [vI 2, vI (nI (R % B))]) (L' := (mL zz (nI u) (nI e) W (upd f (8 - t) (nI (R % B))))) 1 (fun _ _ => rfl) ?_
  refine rn_if (b := 1) (x := nI (R % B)) (y := 2) (it := 47) (ie := 41) (ls' := [some (vR 0), some (vI a), some (vI (nI B)), some (vI (nI (R / B))), some (vI (nI (8 - t)))]) (st' := []) (fun Fu F => bq_71_40 _ Fu F _ _ _ _ _) (fun k3 => absurd (of_decide_eq_true (cmp_ne.symm.trans k3)) (show ¬ (¬ (nI (R % B) : Int32) = (2 : Int32)) from fun z => z (by rw [hx]; rfl))) (fun _ => ?_)
  refine rb (i' := 46) (ls' := [some (vR 0), some (vI a), some (vI (nI B)), some (vI (nI (R / B))), some (vI (nI (8 - t)))]) (st' := [vI ((nI e) + 1), vR 0]) (L' := (mL zz (nI u) (nI e) W (upd f (8 - t) (nI (R % B))))) 5 (fun _ _ => rfl) ?_
  refine rn_top (x := (nI e) + 1) (y := nI (e + 1)) (nadd rfl (rfl : (1 : Int32) = nI 1)) ?_
  refine rb (i' := 47) (ls' := [some (vR 0), some (vI a), some (vI (nI B)), some (vI (nI (R / B))), some (vI (nI (8 - t)))]) (st' := []) (L' := (mL zz (nI u) (nI (e + 1)) W (upd f (8 - t) (nI (R % B))))) 1 (fun _ _ => rfl) ?_
  refine rb (i' := 48) (ls' := [some (vR 0), some (vI a), some (vI (nI B)), some (vI (nI (R / B))), some (vI ((nI (8 - t)) + (-1)))]) (st' := []) (L' := (mL zz (nI u) (nI (e + 1)) W (upd f (8 - t) (nI (R % B))))) 1 (fun Fu F => iq_4_5 (rnF Fu _ 71 F) 48 (-1) _ _ _ _ _ _ _) ?_
  refine rb (i' := 10) (ls' := [some (vR 0), some (vI a), some (vI (nI B)), some (vI (nI (R / B))), some (vI ((nI (8 - t)) + (-1)))]) (st' := []) (L' := (mL zz (nI u) (nI (e + 1)) W (upd f (8 - t) (nI (R % B))))) 1 (fun _ _ => rfl) ?_
  exact hk
theorem tn_e {D : Nat} {U E : Int32} {W f : FA} {a b r : Int32} : Rn D 71 10 [some (vR 0), some (vI a), some (vI b), some (vI r), some (vI (-1))] [] (mL zz U E W f) (none, mL zz U E W f) := by
  refine rb (i' := 11) (ls' := [some (vR 0), some (vI a), some (vI b), some (vI r), some (vI ((-1)))]) (st' := [vI ((-1))]) (L' := (mL zz U E W f)) 1 (fun _ _ => rfl) ?_
  refine rn_if (b := 2) (x := (-1)) (y := 0) (it := 49) (ie := 12) (ls' := [some (vR 0), some (vI a), some (vI b), some (vI r), some (vI ((-1)))]) (st' := []) (fun Fu F => bq_71_11 _ Fu F _ _ _ _) (fun _ => ?_) (fun k1 => absurd (show ((-1) : Int32) < (0 : Int32) from by decide) (of_decide_eq_false (cmp_lt.symm.trans k1)))
  exact rn_ret (fun _ _ => rfl)
def tu (C B v : Nat) : Nat → Nat
  | 0 => 0
  | t + 1 => tu C B v t + is (C / B ^ t % B) v
def tF (C B : Nat) (f : FA) : Nat → FA
  | 0 => f
  | t + 1 => upd (tF C B f t) (8 - t) (nI (C / B ^ t % B))
theorem tn_run {D C B : Nat} {W f : FA} {a : Int32} (hC : C ≤ 222222222) (hBl : 0 < B) (hBu : B < 11) (hB0 : pcmp 1 (nI B) 0 = true) : ∀ (r t : Nat), t + r = 9 → Rn D 71 10 [some (vR 0), some (vI a), some (vI (nI B)), some (vI (nI (C / B ^ t))), some (vI (li t))] [] (mL zz (nI (tu C B 1 t)) (nI (tu C B 2 t)) W (tF C B f t)) (none, mL zz (nI (tu C B 1 9)) (nI (tu C B 2 9)) W (tF C B f 9)) := by
  intro r
  induction r with
  | zero =>
    intro t ht
    obtain rfl : t = 9 := by omega
    exact tn_e
  | succ r ih =>
    intro t ht
    have hR : C / B ^ t ≤ 222222222 := Nat.le_trans (Nat.div_le_self _ _) hC
    have e10 : C / B ^ (t + 1) = C / B ^ t / B := by rw [Nat.pow_succ, Nat.div_div_eq_div_mul]
    have h := ih (t + 1) (by omega)
    rw [e10, ← li_s (by omega)] at h
    rw [li_n (by omega)]
    simp only [tu, tF] at h
    by_cases h1 : C / B ^ t % B = 1
    · have i1 : is (C / B ^ t % B) 1 = 1 := if_pos h1
      have i2 : is (C / B ^ t % B) 2 = 0 := if_neg (by omega)
      rw [i1, i2] at h
      exact tn_1 (by omega) hR hBl hBu hB0 h1 (by omega) h
    · have i1 : is (C / B ^ t % B) 1 = 0 := if_neg h1
      by_cases h2 : C / B ^ t % B = 2
      · have i2 : is (C / B ^ t % B) 2 = 1 := if_pos h2
        rw [i1, i2] at h
        exact tn_2 (by omega) hR hBl hBu hB0 h1 h2 h
      · have i2 : is (C / B ^ t % B) 2 = 0 := if_neg h2
        rw [i1, i2] at h
        exact tn_0 (by omega) hR hBl hBu hB0 h1 h2 h
theorem r_nine {D C B : Nat} {U E : Int32} {W f : FA} (hC : C ≤ 222222222) (hBl : 0 < B) (hBu : B < 11) (hB0 : pcmp 1 (nI B) 0 = true) : MC (D + 1) 71 [vR 0, vI (nI C), vI (nI B)] (mL zz U E W f) (none, mL zz (nI (tu C B 1 9)) (nI (tu C B 2 9)) W (tF C B f 9)) := by
  refine mc_of rfl ?_
  refine rb (i' := 10) (ls' := [some (vR 0), some (vI (nI C)), some (vI (nI B)), some (vI (nI C)), some (vI 8)]) (st' := []) (L' := mL zz 0 0 W f) 10 (fun _ _ => rfl) ?_
  have h := tn_run (zz := zz) (D := D) (W := W) (f := f) (a := nI C) hC hBl hBu hB0 9 0 rfl
  rw [Nat.pow_zero, Nat.div_one] at h
  exact h
theorem tF_at (C B : Nat) (f : FA) : ∀ j, j < 9 → tF C B f 9 j = nI (C / B ^ (8 - j) % B) := by
  intro j hj
  rcases (show j = 0 ∨ j = 1 ∨ j = 2 ∨ j = 3 ∨ j = 4 ∨ j = 5 ∨ j = 6 ∨ j = 7 ∨ j = 8 by omega) with rfl | rfl | rfl | rfl | rfl | rfl | rfl | rfl | rfl <;> simp [tF, upd]
theorem tF_3 (c : Nat) (f : FA) : Bd (tF c 3 f 9) c := tF_at c 3 f
theorem gtu_3 (c v : Nat) : tu c 3 v 9 = cnt c v := by
  simp only [tu, cnt, dg, Nat.reduceSub]
  omega
theorem r_n3 {D c : Nat} {U E : Int32} {W f : FA} (hc : c < 19683) : ∃ f', Bd f' c ∧ MC (D + 1) 71 [vR 0, vI (nI c), vI 3] (mL zz U E W f) (none, mL zz (nI (cnt c 1)) (nI (cnt c 2)) W f') := by
  have h := r_nine (zz := zz) (D := D) (C := c) (B := 3) (U := U) (E := E) (W := W) (f := f) (by omega) (by decide) (by decide) (by decide +kernel)
  rw [gtu_3, gtu_3] at h
  exact ⟨_, tF_3 c f, h⟩
