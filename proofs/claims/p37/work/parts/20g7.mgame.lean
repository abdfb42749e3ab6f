variable {zz : Nat → Int32} {t0 : Int32}
theorem cq_70_4 (call : QC FA) (F : Nat) (x1 : Int32) (x2 : Int32) (x3 : Int32) (ls : List (Option PV)) (U E : Int32) (W f : FA) : run (mK rdF wrF fzF call 70) (F + 1) 4 ls [vI x3, vI x2, vI x1, vR 0] (mL zz U E W f) = cbind (call 47 [vR 0, vI x1, vI x2, vI x3] (mL zz U E W f)) (fun r L' => run (mK rdF wrF fzF call 70) F 5 ls (r.toList ++ []) L') := pcV (ih := run (mK rdF wrF fzF call 70) F) (call := call) (a := 47) (b := 3) (v := 12) (t := 5) (x := 0) (ls := ls) (As := [vI x1, vI x2, vI x3]) (st' := []) (L := (mL zz U E W f)) rfl rfl rfl
theorem bq_70_5 (d Fu F : Nat) (x : Int32) (ls : List (Option PV)) (st : List PV) (L : QH FA) : rnF Fu d 70 (F + 1) 5 ls (vI x :: st) L = bif pcmp 1 x 0 then rnF Fu d 70 F 8 ls st L else rnF Fu d 70 F 6 ls st L := rfl
theorem cq_70_11 (call : QC FA) (F : Nat) (x1 : Int32) (x2 : Int32) (ls : List (Option PV)) (U E : Int32) (W f : FA) : run (mK rdF wrF fzF call 70) (F + 1) 11 ls [vI x2, vI x1, vR 0] (mL zz U E W f) = cbind (call 71 [vR 0, vI x1, vI x2] (mL zz U E W f)) (fun r L' => run (mK rdF wrF fzF call 70) F 12 ls (r.toList ++ []) L') := pcV (ih := run (mK rdF wrF fzF call 70) F) (call := call) (a := 71) (b := 2) (v := 12) (t := 12) (x := 0) (ls := ls) (As := [vI x1, vI x2]) (st' := []) (L := (mL zz U E W f)) rfl rfl rfl
theorem bq_70_16 (d Fu F : Nat) (x y : Int32) (ls : List (Option PV)) (st : List PV) (L : QH FA) : rnF Fu d 70 (F + 1) 16 ls (vI y :: vI x :: st) L = bif pcmp 3 x y then rnF Fu d 70 F 27 ls st L else rnF Fu d 70 F 17 ls st L := rfl
theorem bq_70_22 (d Fu F : Nat) (x y : Int32) (ls : List (Option PV)) (st : List PV) (L : QH FA) : rnF Fu d 70 (F + 1) 22 ls (vI y :: vI x :: st) L = bif pcmp 5 x y then rnF Fu d 70 F 25 ls st L else rnF Fu d 70 F 23 ls st L := rfl
theorem bq_70_31 (d Fu F : Nat) (x y : Int32) (ls : List (Option PV)) (st : List PV) (L : QH FA) : rnF Fu d 70 (F + 1) 31 ls (vI y :: vI x :: st) L = bif pcmp 0 x y then rnF Fu d 70 F 39 ls st L else rnF Fu d 70 F 32 ls st L := rfl
theorem bq_70_38 (d Fu F : Nat) (x y : Int32) (ls : List (Option PV)) (st : List PV) (L : QH FA) : rnF Fu d 70 (F + 1) 38 ls (vI y :: vI x :: st) L = bif pcmp 1 x y then rnF Fu d 70 F 49 ls st L else rnF Fu d 70 F 39 ls st L := rfl
theorem cq_70_41 (call : QC FA) (F : Nat) (x1 : Int32) (ls : List (Option PV)) (U E : Int32) (W f : FA) : run (mK rdF wrF fzF call 70) (F + 1) 41 ls [vI x1, vR 0] (mL zz U E W f) = cbind (call 72 [vR 0, vI x1] (mL zz U E W f)) (fun r L' => run (mK rdF wrF fzF call 70) F 42 ls (r.toList ++ []) L') := pcV (ih := run (mK rdF wrF fzF call 70) F) (call := call) (a := 72) (b := 1) (v := 12) (t := 42) (x := 0) (ls := ls) (As := [vI x1]) (st' := []) (L := (mL zz U E W f)) rfl rfl rfl
theorem bq_70_42 (d Fu F : Nat) (x : Int32) (ls : List (Option PV)) (st : List PV) (L : QH FA) : rnF Fu d 70 (F + 1) 42 ls (vI x :: st) L = bif pcmp 0 x 0 then rnF Fu d 70 F 47 ls st L else rnF Fu d 70 F 43 ls st L := rfl
theorem cq_70_45 (call : QC FA) (F : Nat) (x1 : Int32) (ls : List (Option PV)) (U E : Int32) (W f : FA) : run (mK rdF wrF fzF call 70) (F + 1) 45 ls [vI x1, vR 0] (mL zz U E W f) = cbind (call 72 [vR 0, vI x1] (mL zz U E W f)) (fun r L' => run (mK rdF wrF fzF call 70) F 46 ls (r.toList ++ []) L') := pcV (ih := run (mK rdF wrF fzF call 70) F) (call := call) (a := 72) (b := 1) (v := 12) (t := 46) (x := 0) (ls := ls) (As := [vI x1]) (st' := []) (L := (mL zz U E W f)) rfl rfl rfl
theorem bq_70_46 (d Fu F : Nat) (x : Int32) (ls : List (Option PV)) (st : List PV) (L : QH FA) : rnF Fu d 70 (F + 1) 46 ls (vI x :: st) L = bif pcmp 1 x 0 then rnF Fu d 70 F 49 ls st L else rnF Fu d 70 F 47 ls st L := rfl
theorem cq_69_7 (call : QC FA) (F : Nat) (x1 : Int32) (x2 : Int32) (x3 : Int32) (ls : List (Option PV)) (U E : Int32) (W f : FA) : run (mK rdF wrF fzF call 69) (F + 1) 7 ls [vI x3, vI x2, vI x1, vR 0] (mL zz U E W f) = cbind (call 47 [vR 0, vI x1, vI x2, vI x3] (mL zz U E W f)) (fun r L' => run (mK rdF wrF fzF call 69) F 8 ls (r.toList ++ []) L') := pcV (ih := run (mK rdF wrF fzF call 69) F) (call := call) (a := 47) (b := 3) (v := 12) (t := 8) (x := 0) (ls := ls) (As := [vI x1, vI x2, vI x3]) (st' := []) (L := (mL zz U E W f)) rfl rfl rfl
theorem bq_69_8 (d Fu F : Nat) (x : Int32) (ls : List (Option PV)) (st : List PV) (L : QH FA) : rnF Fu d 69 (F + 1) 8 ls (vI x :: st) L = bif pcmp 0 x 0 then rnF Fu d 69 F 13 ls st L else rnF Fu d 69 F 9 ls st L := rfl
theorem cq_69_11 (call : QC FA) (F : Nat) (x1 : Int32) (ls : List (Option PV)) (U E : Int32) (W f : FA) : run (mK rdF wrF fzF call 69) (F + 1) 11 ls [vI x1, vR 0] (mL zz U E W f) = cbind (call 70 [vR 0, vI x1] (mL zz U E W f)) (fun r L' => run (mK rdF wrF fzF call 69) F 12 ls (r.toList ++ []) L') := pcV (ih := run (mK rdF wrF fzF call 69) F) (call := call) (a := 70) (b := 1) (v := 12) (t := 12) (x := 0) (ls := ls) (As := [vI x1]) (st' := []) (L := (mL zz U E W f)) rfl rfl rfl
theorem bq_69_12 (d Fu F : Nat) (x : Int32) (ls : List (Option PV)) (st : List PV) (L : QH FA) : rnF Fu d 69 (F + 1) 12 ls (vI x :: st) L = bif pcmp 1 x 0 then rnF Fu d 69 F 15 ls st L else rnF Fu d 69 F 13 ls st L := rfl
theorem bq_69_21 (d Fu F : Nat) (x y : Int32) (ls : List (Option PV)) (st : List PV) (L : QH FA) : rnF Fu d 69 (F + 1) 21 ls (vI y :: vI x :: st) L = bif pcmp 3 x y then rnF Fu d 69 F 33 ls st L else rnF Fu d 69 F 22 ls st L := rfl
theorem cq_69_35 (call : QC FA) (F : Nat) (x1 : Int32) (ls : List (Option PV)) (U E : Int32) (W f : FA) : run (mK rdF wrF fzF call 69) (F + 1) 35 ls [vI x1, vR 0] (mL zz U E W f) = cbind (call 74 [vR 0, vI x1] (mL zz U E W f)) (fun r L' => run (mK rdF wrF fzF call 69) F 36 ls (r.toList ++ []) L') := pcV (ih := run (mK rdF wrF fzF call 69) F) (call := call) (a := 74) (b := 1) (v := 12) (t := 36) (x := 0) (ls := ls) (As := [vI x1]) (st' := []) (L := (mL zz U E W f)) rfl rfl rfl
theorem cq_69_39 (call : QC FA) (F : Nat) (x1 : Int32) (x2 : Int32) (ls : List (Option PV)) (U E : Int32) (W f : FA) : run (mK rdF wrF fzF call 69) (F + 1) 39 ls [vI x2, vI x1, vR 0] (mL zz U E W f) = cbind (call 71 [vR 0, vI x1, vI x2] (mL zz U E W f)) (fun r L' => run (mK rdF wrF fzF call 69) F 40 ls (r.toList ++ []) L') := pcV (ih := run (mK rdF wrF fzF call 69) F) (call := call) (a := 71) (b := 2) (v := 12) (t := 40) (x := 0) (ls := ls) (As := [vI x1, vI x2]) (st' := []) (L := (mL zz U E W f)) rfl rfl rfl
theorem bq_69_41 (d Fu F : Nat) (x : Int32) (ls : List (Option PV)) (st : List PV) (L : QH FA) : rnF Fu d 69 (F + 1) 41 ls (vI x :: st) L = bif pcmp 1 x 0 then rnF Fu d 69 F 47 ls st L else rnF Fu d 69 F 42 ls st L := rfl
theorem cq_69_48 (call : QC FA) (F : Nat) (ls : List (Option PV)) (U E : Int32) (W f : FA) : run (mK rdF wrF fzF call 69) (F + 1) 48 ls [vR 0] (mL zz U E W f) = cbind (call 78 [vR 0] (mL zz U E W f)) (fun r L' => run (mK rdF wrF fzF call 69) F 49 ls (r.toList ++ []) L') := pcV (ih := run (mK rdF wrF fzF call 69) F) (call := call) (a := 78) (b := 0) (v := 12) (t := 49) (x := 0) (ls := ls) (As := []) (st' := []) (L := (mL zz U E W f)) rfl rfl rfl
theorem bq_69_49 (d Fu F : Nat) (x : Int32) (ls : List (Option PV)) (st : List PV) (L : QH FA) : rnF Fu d 69 (F + 1) 49 ls (vI x :: st) L = bif pcmp 0 x 0 then rnF Fu d 69 F 52 ls st L else rnF Fu d 69 F 50 ls st L := rfl
theorem bq_69_56 (d Fu F : Nat) (x y : Int32) (ls : List (Option PV)) (st : List PV) (L : QH FA) : rnF Fu d 69 (F + 1) 56 ls (vI y :: vI x :: st) L = bif pcmp 3 x y then rnF Fu d 69 F 83 ls st L else rnF Fu d 69 F 57 ls st L := rfl
theorem bq_69_61 (d Fu F : Nat) (x : Int32) (ls : List (Option PV)) (st : List PV) (L : QH FA) : rnF Fu d 69 (F + 1) 61 ls (vI x :: st) L = bif pcmp 1 x 0 then rnF Fu d 69 F 81 ls st L else rnF Fu d 69 F 62 ls st L := rfl
theorem cq_69_66 (call : QC FA) (F : Nat) (v0 : PV) (v1 : PV) (ls : List (Option PV)) (U E : Int32) (W f : FA) : run (mK rdF wrF fzF call 69) (F + 1) 66 ls [vR 0, v1, v0] (mL zz U E W f) = cbind (call 76 [vR 0] (mL zz U E W f)) (fun r L' => run (mK rdF wrF fzF call 69) F 67 ls (r.toList ++ [v1, v0]) L') := pcV (ih := run (mK rdF wrF fzF call 69) F) (call := call) (a := 76) (b := 0) (v := 12) (t := 67) (x := 0) (ls := ls) (As := []) (st' := [v1, v0]) (L := (mL zz U E W f)) rfl rfl rfl
theorem cq_69_69 (call : QC FA) (F : Nat) (x1 : Int32) (v0 : PV) (v1 : PV) (v2 : PV) (ls : List (Option PV)) (U E : Int32) (W f : FA) : run (mK rdF wrF fzF call 69) (F + 1) 69 ls [vI x1, vR 0, v2, v1, v0] (mL zz U E W f) = cbind (call 77 [vR 0, vI x1] (mL zz U E W f)) (fun r L' => run (mK rdF wrF fzF call 69) F 70 ls (r.toList ++ [v2, v1, v0]) L') := pcV (ih := run (mK rdF wrF fzF call 69) F) (call := call) (a := 77) (b := 1) (v := 12) (t := 70) (x := 0) (ls := ls) (As := [vI x1]) (st' := [v2, v1, v0]) (L := (mL zz U E W f)) rfl rfl rfl
theorem bq_69_78 (d Fu F : Nat) (x y : Int32) (ls : List (Option PV)) (st : List PV) (L : QH FA) : rnF Fu d 69 (F + 1) 78 ls (vI y :: vI x :: st) L = bif pcmp 1 x y then rnF Fu d 69 F 81 ls st L else rnF Fu d 69 F 79 ls st L := rfl
theorem ig_out {D : Nat} {U E a : Int32} {W f : FA} (h : a < 0 ∨ 222222222 < a) : MC (D + 1 + 1) 70 [vR 0, vI a] (mL zz U E W f) (some (vI 0), mL zz U E W f) := by
  refine mc_of rfl ?_
  show Rn (D + 1) 70 0 [some (vR 0), some (vI a), none] [] (mL zz U E W f) _
  refine rb (i' := 4) (ls' := [some (vR 0), some (vI a), none]) (st' := [vI 222222222, vI 0, vI a, vR 0]) (L' := (mL zz U E W f)) 4 (fun _ _ => rfl) ?_
  refine rn_call (a := 47) (As := [vR 0, vI a, vI 0, vI 222222222]) (t := 5) (ls' := [some (vR 0), some (vI a), none]) (st' := []) (fun Fu F => cq_70_4 (evF Fu _) F _ _ _ _ _ _ _ _) (r_in0 h) ?_
  refine rn_eq (ls' := [some (vR 0), some (vI a), none]) (st' := [vI 0]) (L' := (mL zz U E W f)) rfl rfl rfl ?_
  refine rn_if (b := 1) (x := 0) (y := 0) (it := 8) (ie := 6) (ls' := [some (vR 0), some (vI a), none]) (st' := []) (fun Fu F => bq_70_5 _ Fu F _ _ _ _) (fun k1 => absurd (of_decide_eq_true (cmp_ne.symm.trans k1)) (show ¬ (¬ (0 : Int32) = (0 : Int32)) from by decide)) (fun _ => ?_)
  refine rb (i' := 7) (ls' := [some (vR 0), some (vI a), none]) (st' := [vI 0]) (L' := (mL zz U E W f)) 1 (fun _ _ => rfl) ?_
  exact rn_fin (fun _ _ => rfl) (rfl)
theorem ig_in {D A : Nat} {U E U' E' : Int32} {W f f' : FA} {res : Option PV × QH FA} (hA : A ≤ 222222222) (hN : MC (D + 1) 71 [vR 0, vI (nI A), vI 10] (mL zz U E W f) (none, mL zz U' E' W f')) (hk : Rn (D + 1) 70 14 [some (vR 0), some (vI (nI A)), some (vI 0)] [] (mL zz U' E' W f') res) : Rn (D + 1) 70 0 [some (vR 0), some (vI (nI A)), none] [] (mL zz U E W f) res := by
  refine rb (i' := 4) (ls' := [some (vR 0), some (vI (nI A)), none]) (st' := [vI 222222222, vI 0, vI (nI A), vR 0]) (L' := (mL zz U E W f)) 4 (fun _ _ => rfl) ?_
  refine rn_call (a := 47) (As := [vR 0, vI (nI A), vI 0, vI 222222222]) (t := 5) (ls' := [some (vR 0), some (vI (nI A)), none]) (st' := []) (fun Fu F => cq_70_4 (evF Fu _) F _ _ _ _ _ _ _ _) (r_in1 (nI_pos (by omega)) (nI_nlt (a := 222222222) hA (by decide))) ?_
  refine rn_eq (ls' := [some (vR 0), some (vI (nI A)), none]) (st' := [vI 1]) (L' := (mL zz U E W f)) rfl rfl rfl ?_
  refine rn_if (b := 1) (x := 1) (y := 0) (it := 8) (ie := 6) (ls' := [some (vR 0), some (vI (nI A)), none]) (st' := []) (fun Fu F => bq_70_5 _ Fu F _ _ _ _) (fun _ => ?_) (fun k1 => absurd (show ¬ (1 : Int32) = (0 : Int32) from by decide) (of_decide_eq_false (cmp_ne.symm.trans k1)))
  refine rb (i' := 11) (ls' := [some (vR 0), some (vI (nI A)), none]) (st' := [vI 10, vI (nI A), vR 0]) (L' := (mL zz U E W f)) 3 (fun _ _ => rfl) ?_
  refine rn_call (a := 71) (As := [vR 0, vI (nI A), vI 10]) (t := 12) (ls' := [some (vR 0), some (vI (nI A)), none]) (st' := []) (fun Fu F => cq_70_11 (evF Fu _) F _ _ _ _ _ _ _) (hN) ?_
  refine rn_eq (ls' := [some (vR 0), some (vI (nI A)), none]) (st' := []) (L' := (mL zz U' E' W f')) rfl rfl rfl ?_
  refine rb (i' := 14) (ls' := [some (vR 0), some (vI (nI A)), some (vI 0)]) (st' := []) (L' := (mL zz U' E' W f')) 2 (fun _ _ => rfl) ?_
  exact hk
theorem ig_bad {D k x : Nat} {U E a : Int32} {W f : FA} (hk9 : k < 9) (hf : f k = nI x) (hx : 2 < x) (hx9 : x < 10) : Rn D 70 14 [some (vR 0), some (vI a), some (vI (nI k))] [] (mL zz U E W f) (some (vI 0), mL zz U E W f) := by
  refine rb (i' := 16) (ls' := [some (vR 0), some (vI a), some (vI (nI k))]) (st' := [vI 9, vI (nI k)]) (L' := (mL zz U E W f)) 2 (fun _ _ => rfl) ?_
  refine rn_if (b := 3) (x := nI k) (y := 9) (it := 27) (ie := 17) (ls' := [some (vR 0), some (vI a), some (vI (nI k))]) (st' := []) (fun Fu F => bq_70_16 _ Fu F _ _ _ _ _) (fun k1 => absurd (of_decide_eq_true (cmp_ge.symm.trans k1)) (show ¬ ((9 : Int32) ≤ (nI k : Int32)) from nI_ge hk9 (by decide))) (fun _ => ?_)
  refine rb (i' := 20) (ls' := [some (vR 0), some (vI a), some (vI (nI k))]) (st' := [vI (nI k), vR 2]) (L' := (mL zz U E W f)) 3 (fun _ _ => rfl) ?_
  refine rn_g (g := (Nat.beq 0 0 && pin (nI k) 9)) (i' := 21) (ls' := [some (vR 0), some (vI a), some (vI (nI k))]) (st' := [vI (f (ix (nI k)))]) (L' := (mL zz U E W f)) (fun _ _ => rfl) (gpin_nI hk9 (by decide)) ?_
  refine rn_top (x := f (ix (nI k))) (y := nI x) ((congrArg f (gix_nI (by omega))).trans hf) ?_
  refine rb (i' := 22) (ls' := [some (vR 0), some (vI a), some (vI (nI k))]) (st' := [vI 2, vI (nI x)]) (L' := (mL zz U E W f)) 1 (fun _ _ => rfl) ?_
  refine rn_if (b := 5) (x := nI x) (y := 2) (it := 25) (ie := 23) (ls' := [some (vR 0), some (vI a), some (vI (nI k))]) (st' := []) (fun Fu F => bq_70_22 _ Fu F _ _ _ _ _) (fun k2 => absurd (of_decide_eq_true (cmp_le.symm.trans k2)) (show ¬ ((nI x : Int32) ≤ (2 : Int32)) from nI_ge (a := 2) (b := x) hx (by omega))) (fun _ => ?_)
  refine rb (i' := 24) (ls' := [some (vR 0), some (vI a), some (vI (nI k))]) (st' := [vI 0]) (L' := (mL zz U E W f)) 1 (fun _ _ => rfl) ?_
  exact rn_fin (fun _ _ => rfl) (rfl)
theorem ig_good {D k x : Nat} {U E a : Int32} {W f : FA} {res : Option PV × QH FA} (hk9 : k < 9) (hf : f k = nI x) (hx : x ≤ 2) (hk : Rn D 70 14 [some (vR 0), some (vI a), some (vI (nI (k + 1)))] [] (mL zz U E W f) res) : Rn D 70 14 [some (vR 0), some (vI a), some (vI (nI k))] [] (mL zz U E W f) res := by
  refine rb (i' := 16) (ls' := [some (vR 0), some (vI a), some (vI (nI k))]) (st' := [vI 9, vI (nI k)]) (L' := (mL zz U E W f)) 2 (fun _ _ => rfl) ?_
  refine rn_if (b := 3) (x := nI k) (y := 9) (it := 27) (ie := 17) (ls' := [some (vR 0), some (vI a), some (vI (nI k))]) (st' := []) (fun Fu F => bq_70_16 _ Fu F _ _ _ _ _) (fun k1 => absurd (of_decide_eq_true (cmp_ge.symm.trans k1)) (show ¬ ((9 : Int32) ≤ (nI k : Int32)) from nI_ge hk9 (by decide))) (fun _ => ?_)
  refine rb (i' := 20) (ls' := [some (vR 0), some (vI a), some (vI (nI k))]) (st' := [vI (nI k), vR 2]) (L' := (mL zz U E W f)) 3 (fun _ _ => rfl) ?_
  refine rn_g (g := (Nat.beq 0 0 && pin (nI k) 9)) (i' := 21) (ls' := [some (vR 0), some (vI a), some (vI (nI k))]) (st' := [vI (f (ix (nI k)))]) (L' := (mL zz U E W f)) (fun _ _ => rfl) (gpin_nI hk9 (by decide)) ?_
  refine rn_top (x := f (ix (nI k))) (y := nI x) ((congrArg f (gix_nI (by omega))).trans hf) ?_
  refine rb (i' := 22) (ls' := [some (vR 0), some (vI a), some (vI (nI k))]) (st' := [vI 2, vI (nI x)]) (L' := (mL zz U E W f)) 1 (fun _ _ => rfl) ?_
  refine rn_if (b := 5) (x := nI x) (y := 2) (it := 25) (ie := 23) (ls' := [some (vR 0), some (vI a), some (vI (nI k))]) (st' := []) (fun Fu F => bq_70_22 _ Fu F _ _ _ _ _) (fun _ => ?_) (fun k2 => absurd (show (nI x : Int32) ≤ (2 : Int32) from nI_le (a := x) (b := 2) hx (by decide)) (of_decide_eq_false (cmp_le.symm.trans k2)))
  refine rb (i' := 14) (ls' := [some (vR 0), some (vI a), some (vI (nI k + 1))]) (st' := []) (L' := (mL zz U E W f)) 2 (fun _ _ => rfl) ?_
  rw [nadd (rfl : nI k = nI k) (rfl : (1 : Int32) = nI 1)]
  exact hk
theorem ie_0 {D c : Nat} {a : Int32} {W f : FA} (hB : Bd f c) (h : ¬ (cnt c 1 = cnt c 2 ∨ cnt c 1 = cnt c 2 + 1)) : Rn (D + 2) 70 14 [some (vR 0), some (vI a), some (vI (nI 9))] [] (mL zz (nI (cnt c 1)) (nI (cnt c 2)) W f) (some (vI 0), mL zz (nI (cnt c 1)) (nI (cnt c 2)) W f) := by
  have hcl := cnt_lt c
  refine rb (i' := 16) (ls' := [some (vR 0), some (vI a), some (vI (nI 9))]) (st' := [vI 9, vI (nI 9)]) (L' := (mL zz (nI (cnt c 1)) (nI (cnt c 2)) W f)) 2 (fun _ _ => rfl) ?_
  refine rn_if (b := 3) (x := nI 9) (y := 9) (it := 27) (ie := 17) (ls' := [some (vR 0), some (vI a), some (vI (nI 9))]) (st' := []) (fun Fu F => bq_70_16 _ Fu F _ _ _ _ _) (fun _ => ?_) (fun k1 => absurd (show (9 : Int32) ≤ (nI 9 : Int32) from Int32.le_refl _) (of_decide_eq_false (cmp_ge.symm.trans k1)))
  refine rb (i' := 31) (ls' := [some (vR 0), some (vI a), some (vI (nI 9))]) (st' := [vI (nI (cnt c 2)), vI (nI (cnt c 1))]) (L' := (mL zz (nI (cnt c 1)) (nI (cnt c 2)) W f)) 4 (fun _ _ => rfl) ?_
  refine rn_if (b := 0) (x := nI (cnt c 1)) (y := nI (cnt c 2)) (it := 39) (ie := 32) (ls' := [some (vR 0), some (vI a), some (vI (nI 9))]) (st' := []) (fun Fu F => bq_70_31 _ Fu F _ _ _ _ _) (fun k2 => absurd (of_decide_eq_true (cmp_eq.symm.trans k2)) (show ¬ ((nI (cnt c 1) : Int32) = (nI (cnt c 2) : Int32)) from fun z => h (Or.inl ((gnI_inj hcl.1 hcl.2).mp z)))) (fun _ => ?_)
  refine rb (i' := 38) (ls' := [some (vR 0), some (vI a), some (vI (nI 9))]) (st' := [vI ((nI (cnt c 2)) + 1), vI (nI (cnt c 1))]) (L' := (mL zz (nI (cnt c 1)) (nI (cnt c 2)) W f)) 6 (fun _ _ => rfl) ?_
  refine rn_top (x := (nI (cnt c 2)) + 1) (y := nI (cnt c 2 + 1)) (nadd rfl (rfl : (1 : Int32) = nI 1)) ?_
  refine rn_if (b := 1) (x := nI (cnt c 1)) (y := nI (cnt c 2 + 1)) (it := 49) (ie := 39) (ls' := [some (vR 0), some (vI a), some (vI (nI 9))]) (st' := []) (fun Fu F => bq_70_38 _ Fu F _ _ _ _ _) (fun _ => ?_) (fun k3 => absurd (show ¬ (nI (cnt c 1) : Int32) = (nI (cnt c 2 + 1) : Int32) from fun z => h (Or.inr ((nI_eq (by omega) (by omega)).mp z))) (of_decide_eq_false (cmp_ne.symm.trans k3)))
  refine rb (i' := 50) (ls' := [some (vR 0), some (vI a), some (vI (nI 9))]) (st' := [vI 0]) (L' := (mL zz (nI (cnt c 1)) (nI (cnt c 2)) W f)) 1 (fun _ _ => rfl) ?_
  exact rn_fin (fun _ _ => rfl) (rfl)
theorem ie_a2 {D c : Nat} {a : Int32} {W f : FA} (hB : Bd f c) (h : cnt c 1 = cnt c 2) (h1 : three c 1 = false) : Rn (D + 2) 70 14 [some (vR 0), some (vI a), some (vI (nI 9))] [] (mL zz (nI (cnt c 1)) (nI (cnt c 2)) W f) (some (vI 1), mL zz (nI (cnt c 1)) (nI (cnt c 2)) W f) := by
  have hcl := cnt_lt c
  refine rb (i' := 16) (ls' := [some (vR 0), some (vI a), some (vI (nI 9))]) (st' := [vI 9, vI (nI 9)]) (L' := (mL zz (nI (cnt c 1)) (nI (cnt c 2)) W f)) 2 (fun _ _ => rfl) ?_
  refine rn_if (b := 3) (x := nI 9) (y := 9) (it := 27) (ie := 17) (ls' := [some (vR 0), some (vI a), some (vI (nI 9))]) (st' := []) (fun Fu F => bq_70_16 _ Fu F _ _ _ _ _) (fun _ => ?_) (fun k1 => absurd (show (9 : Int32) ≤ (nI 9 : Int32) from Int32.le_refl _) (of_decide_eq_false (cmp_ge.symm.trans k1)))
  refine rb (i' := 31) (ls' := [some (vR 0), some (vI a), some (vI (nI 9))]) (st' := [vI (nI (cnt c 2)), vI (nI (cnt c 1))]) (L' := (mL zz (nI (cnt c 1)) (nI (cnt c 2)) W f)) 4 (fun _ _ => rfl) ?_
  refine rn_if (b := 0) (x := nI (cnt c 1)) (y := nI (cnt c 2)) (it := 39) (ie := 32) (ls' := [some (vR 0), some (vI a), some (vI (nI 9))]) (st' := []) (fun Fu F => bq_70_31 _ Fu F _ _ _ _ _) (fun _ => ?_) (fun k2 => absurd (show (nI (cnt c 1) : Int32) = (nI (cnt c 2) : Int32) from by rw [h]) (of_decide_eq_false (cmp_eq.symm.trans k2)))
  refine rb (i' := 41) (ls' := [some (vR 0), some (vI a), some (vI (nI 9))]) (st' := [vI 1, vR 0]) (L' := (mL zz (nI (cnt c 1)) (nI (cnt c 2)) W f)) 2 (fun _ _ => rfl) ?_
  refine rn_call (a := 72) (As := [vR 0, vI 1]) (t := 42) (ls' := [some (vR 0), some (vI a), some (vI (nI 9))]) (st' := []) (fun Fu F => cq_70_41 (evF Fu _) F _ _ _ _ _ _) (r_three (w := 1) hB (by decide)) ?_
  refine rn_eq (ls' := [some (vR 0), some (vI a), some (vI (nI 9))]) (st' := [vI (bzb (three c 1))]) (L' := (mL zz (nI (cnt c 1)) (nI (cnt c 2)) W f)) rfl rfl rfl ?_
  refine rn_if (b := 0) (x := bzb (three c 1)) (y := 0) (it := 47) (ie := 43) (ls' := [some (vR 0), some (vI a), some (vI (nI 9))]) (st' := []) (fun Fu F => bq_70_42 _ Fu F _ _ _ _) (fun _ => ?_) (fun k3 => absurd (show (bzb (three c 1) : Int32) = (0 : Int32) from by rw [h1]; rfl) (of_decide_eq_false (cmp_eq.symm.trans k3)))
  refine rb (i' := 50) (ls' := [some (vR 0), some (vI a), some (vI (nI 9))]) (st' := [vI 1]) (L' := (mL zz (nI (cnt c 1)) (nI (cnt c 2)) W f)) 2 (fun _ _ => rfl) ?_
  exact rn_fin (fun _ _ => rfl) (rfl)
theorem ie_b2 {D c : Nat} {a : Int32} {W f : FA} (hB : Bd f c) (h : cnt c 1 = cnt c 2 + 1) (h1 : three c 1 = false) : Rn (D + 2) 70 14 [some (vR 0), some (vI a), some (vI (nI 9))] [] (mL zz (nI (cnt c 1)) (nI (cnt c 2)) W f) (some (vI 1), mL zz (nI (cnt c 1)) (nI (cnt c 2)) W f) := by
  have hcl := cnt_lt c
  refine rb (i' := 16) (ls' := [some (vR 0), some (vI a), some (vI (nI 9))]) (st' := [vI 9, vI (nI 9)]) (L' := (mL zz (nI (cnt c 1)) (nI (cnt c 2)) W f)) 2 (fun _ _ => rfl) ?_
  refine rn_if (b := 3) (x := nI 9) (y := 9) (it := 27) (ie := 17) (ls' := [some (vR 0), some (vI a), some (vI (nI 9))]) (st' := []) (fun Fu F => bq_70_16 _ Fu F _ _ _ _ _) (fun _ => ?_) (fun k1 => absurd (show (9 : Int32) ≤ (nI 9 : Int32) from Int32.le_refl _) (of_decide_eq_false (cmp_ge.symm.trans k1)))
  refine rb (i' := 31) (ls' := [some (vR 0), some (vI a), some (vI (nI 9))]) (st' := [vI (nI (cnt c 2)), vI (nI (cnt c 1))]) (L' := (mL zz (nI (cnt c 1)) (nI (cnt c 2)) W f)) 4 (fun _ _ => rfl) ?_
  refine rn_if (b := 0) (x := nI (cnt c 1)) (y := nI (cnt c 2)) (it := 39) (ie := 32) (ls' := [some (vR 0), some (vI a), some (vI (nI 9))]) (st' := []) (fun Fu F => bq_70_31 _ Fu F _ _ _ _ _) (fun k2 => absurd (of_decide_eq_true (cmp_eq.symm.trans k2)) (show ¬ ((nI (cnt c 1) : Int32) = (nI (cnt c 2) : Int32)) from fun z => by have := (gnI_inj hcl.1 hcl.2).mp z; omega)) (fun _ => ?_)
  refine rb (i' := 38) (ls' := [some (vR 0), some (vI a), some (vI (nI 9))]) (st' := [vI ((nI (cnt c 2)) + 1), vI (nI (cnt c 1))]) (L' := (mL zz (nI (cnt c 1)) (nI (cnt c 2)) W f)) 6 (fun _ _ => rfl) ?_
  refine rn_top (x := (nI (cnt c 2)) + 1) (y := nI (cnt c 2 + 1)) (nadd rfl (rfl : (1 : Int32) = nI 1)) ?_
  refine rn_if (b := 1) (x := nI (cnt c 1)) (y := nI (cnt c 2 + 1)) (it := 49) (ie := 39) (ls' := [some (vR 0), some (vI a), some (vI (nI 9))]) (st' := []) (fun Fu F => bq_70_38 _ Fu F _ _ _ _ _) (fun k3 => absurd (of_decide_eq_true (cmp_ne.symm.trans k3)) (show ¬ (¬ (nI (cnt c 1) : Int32) = (nI (cnt c 2 + 1) : Int32)) from fun z => z (by rw [h]))) (fun _ => ?_)
  refine rb (i' := 41) (ls' := [some (vR 0), some (vI a), some (vI (nI 9))]) (st' := [vI 1, vR 0]) (L' := (mL zz (nI (cnt c 1)) (nI (cnt c 2)) W f)) 2 (fun _ _ => rfl) ?_
  refine rn_call (a := 72) (As := [vR 0, vI 1]) (t := 42) (ls' := [some (vR 0), some (vI a), some (vI (nI 9))]) (st' := []) (fun Fu F => cq_70_41 (evF Fu _) F _ _ _ _ _ _) (r_three (w := 1) hB (by decide)) ?_
  refine rn_eq (ls' := [some (vR 0), some (vI a), some (vI (nI 9))]) (st' := [vI (bzb (three c 1))]) (L' := (mL zz (nI (cnt c 1)) (nI (cnt c 2)) W f)) rfl rfl rfl ?_
  refine rn_if (b := 0) (x := bzb (three c 1)) (y := 0) (it := 47) (ie := 43) (ls' := [some (vR 0), some (vI a), some (vI (nI 9))]) (st' := []) (fun Fu F => bq_70_42 _ Fu F _ _ _ _) (fun _ => ?_) (fun k4 => absurd (show (bzb (three c 1) : Int32) = (0 : Int32) from by rw [h1]; rfl) (of_decide_eq_false (cmp_eq.symm.trans k4)))
  refine rb (i' := 50) (ls' := [some (vR 0), some (vI a), some (vI (nI 9))]) (st' := [vI 1]) (L' := (mL zz (nI (cnt c 1)) (nI (cnt c 2)) W f)) 2 (fun _ _ => rfl) ?_
  exact rn_fin (fun _ _ => rfl) (rfl)
theorem ie_a3 {D c : Nat} {a : Int32} {W f : FA} (hB : Bd f c) (h : cnt c 1 = cnt c 2) (h1 : three c 1 = true) (h2 : three c 2 = false) : Rn (D + 2) 70 14 [some (vR 0), some (vI a), some (vI (nI 9))] [] (mL zz (nI (cnt c 1)) (nI (cnt c 2)) W f) (some (vI 1), mL zz (nI (cnt c 1)) (nI (cnt c 2)) W f) := by
  have hcl := cnt_lt c
  refine rb (i' := 16) (ls' := [some (vR 0), some (vI a), some (vI (nI 9))]) (st' := [vI 9, vI (nI 9)]) (L' := (mL zz (nI (cnt c 1)) (nI (cnt c 2)) W f)) 2 (fun _ _ => rfl) ?_
  refine rn_if (b := 3) (x := nI 9) (y := 9) (it := 27) (ie := 17) (ls' := [some (vR 0), some (vI a), some (vI (nI 9))]) (st' := []) (fun Fu F => bq_70_16 _ Fu F _ _ _ _ _) (fun _ => ?_) (fun k1 => absurd (show (9 : Int32) ≤ (nI 9 : Int32) from Int32.le_refl _) (of_decide_eq_false (cmp_ge.symm.trans k1)))
  refine rb (i' := 31) (ls' := [some (vR 0), some (vI a), some (vI (nI 9))]) (st' := [vI (nI (cnt c 2)), vI (nI (cnt c 1))]) (L' := (mL zz (nI (cnt c 1)) (nI (cnt c 2)) W f)) 4 (fun _ _ => rfl) ?_
  refine rn_if (b := 0) (x := nI (cnt c 1)) (y := nI (cnt c 2)) (it := 39) (ie := 32) (ls' := [some (vR 0), some (vI a), some (vI (nI 9))]) (st' := []) (fun Fu F => bq_70_31 _ Fu F _ _ _ _ _) (fun _ => ?_) (fun k2 => absurd (show (nI (cnt c 1) : Int32) = (nI (cnt c 2) : Int32) from by rw [h]) (of_decide_eq_false (cmp_eq.symm.trans k2)))
  refine rb (i' := 41) (ls' := [some (vR 0), some (vI a), some (vI (nI 9))]) (st' := [vI 1, vR 0]) (L' := (mL zz (nI (cnt c 1)) (nI (cnt c 2)) W f)) 2 (fun _ _ => rfl) ?_
  refine rn_call (a := 72) (As := [vR 0, vI 1]) (t := 42) (ls' := [some (vR 0), some (vI a), some (vI (nI 9))]) (st' := []) (fun Fu F => cq_70_41 (evF Fu _) F _ _ _ _ _ _) (r_three (w := 1) hB (by decide)) ?_
  refine rn_eq (ls' := [some (vR 0), some (vI a), some (vI (nI 9))]) (st' := [vI (bzb (three c 1))]) (L' := (mL zz (nI (cnt c 1)) (nI (cnt c 2)) W f)) rfl rfl rfl ?_
  refine rn_if (b := 0) (x := bzb (three c 1)) (y := 0) (it := 47) (ie := 43) (ls' := [some (vR 0), some (vI a), some (vI (nI 9))]) (st' := []) (fun Fu F => bq_70_42 _ Fu F _ _ _ _) (fun k3 => absurd (of_decide_eq_true (cmp_eq.symm.trans k3)) (show ¬ ((bzb (three c 1) : Int32) = (0 : Int32)) from by rw [h1]; decide)) (fun _ => ?_)
  refine rb (i' := 45) (ls' := [some (vR 0), some (vI a), some (vI (nI 9))]) (st' := [vI 2, vR 0]) (L' := (mL zz (nI (cnt c 1)) (nI (cnt c 2)) W f)) 2 (fun _ _ => rfl) ?_
  refine rn_call (a := 72) (As := [vR 0, vI 2]) (t := 46) (ls' := [some (vR 0), some (vI a), some (vI (nI 9))]) (st' := []) (fun Fu F => cq_70_45 (evF Fu _) F _ _ _ _ _ _) (r_three (w := 2) hB (by decide)) ?_
  refine rn_eq (ls' := [some (vR 0), some (vI a), some (vI (nI 9))]) (st' := [vI (bzb (three c 2))]) (L' := (mL zz (nI (cnt c 1)) (nI (cnt c 2)) W f)) rfl rfl rfl ?_
  refine rn_if (b := 1) (x := bzb (three c 2)) (y := 0) (it := 49) (ie := 47) (ls' := [some (vR 0), some (vI a), some (vI (nI 9))]) (st' := []) (fun Fu F => bq_70_46 _ Fu F _ _ _ _) (fun k4 => absurd (of_decide_eq_true (cmp_ne.symm.trans k4)) (show ¬ (¬ (bzb (three c 2) : Int32) = (0 : Int32)) from fun z => z (by rw [h2]; rfl))) (fun _ => ?_)
  refine rb (i' := 50) (ls' := [some (vR 0), some (vI a), some (vI (nI 9))]) (st' := [vI 1]) (L' := (mL zz (nI (cnt c 1)) (nI (cnt c 2)) W f)) 2 (fun _ _ => rfl) ?_
  exact rn_fin (fun _ _ => rfl) (rfl)
theorem ie_b3 {D c : Nat} {a : Int32} {W f : FA} (hB : Bd f c) (h : cnt c 1 = cnt c 2 + 1) (h1 : three c 1 = true) (h2 : three c 2 = false) : Rn (D + 2) 70 14 [some (vR 0), some (vI a), some (vI (nI 9))] [] (mL zz (nI (cnt c 1)) (nI (cnt c 2)) W f) (some (vI 1), mL zz (nI (cnt c 1)) (nI (cnt c 2)) W f) := by
  have hcl := cnt_lt c
  refine rb (i' := 16) (ls' := [some (vR 0), some (vI a), some (vI (nI 9))]) (st' := [vI 9, vI (nI 9)]) (L' := (mL zz (nI (cnt c 1)) (nI (cnt c 2)) W f)) 2 (fun _ _ => rfl) ?_
  refine rn_if (b := 3) (x := nI 9) (y := 9) (it := 27) (ie := 17) (ls' := [some (vR 0), some (vI a), some (vI (nI 9))]) (st' := []) (fun Fu F => bq_70_16 _ Fu F _ _ _ _ _) (fun _ => ?_) (fun k1 => absurd (show (9 : Int32) ≤ (nI 9 : Int32) from Int32.le_refl _) (of_decide_eq_false (cmp_ge.symm.trans k1)))
  refine rb (i' := 31) (ls' := [some (vR 0), some (vI a), some (vI (nI 9))]) (st' := [vI (nI (cnt c 2)), vI (nI (cnt c 1))]) (L' := (mL zz (nI (cnt c 1)) (nI (cnt c 2)) W f)) 4 (fun _ _ => rfl) ?_
  refine rn_if (b := 0) (x := nI (cnt c 1)) (y := nI (cnt c 2)) (it := 39) (ie := 32) (ls' := [some (vR 0), some (vI a), some (vI (nI 9))]) (st' := []) (fun Fu F => bq_70_31 _ Fu F _ _ _ _ _) (fun k2 => absurd (of_decide_eq_true (cmp_eq.symm.trans k2)) (show ¬ ((nI (cnt c 1) : Int32) = (nI (cnt c 2) : Int32)) from fun z => by have := (gnI_inj hcl.1 hcl.2).mp z; omega)) (fun _ => ?_)
  refine rb (i' := 38) (ls' := [some (vR 0), some (vI a), some (vI (nI 9))]) (st' := [vI ((nI (cnt c 2)) + 1), vI (nI (cnt c 1))]) (L' := (mL zz (nI (cnt c 1)) (nI (cnt c 2)) W f)) 6 (fun _ _ => rfl) ?_
  refine rn_top (x := (nI (cnt c 2)) + 1) (y := nI (cnt c 2 + 1)) (nadd rfl (rfl : (1 : Int32) = nI 1)) ?_
  refine rn_if (b := 1) (x := nI (cnt c 1)) (y := nI (cnt c 2 + 1)) (it := 49) (ie := 39) (ls' := [some (vR 0), some (vI a), some (vI (nI 9))]) (st' := []) (fun Fu F => bq_70_38 _ Fu F _ _ _ _ _) (fun k3 => absurd (of_decide_eq_true (cmp_ne.symm.trans k3)) (show ¬ (¬ (nI (cnt c 1) : Int32) = (nI (cnt c 2 + 1) : Int32)) from fun z => z (by rw [h]))) (fun _ => ?_)
  refine rb (i' := 41) (ls' := [some (vR 0), some (vI a), some (vI (nI 9))]) (st' := [vI 1, vR 0]) (L' := (mL zz (nI (cnt c 1)) (nI (cnt c 2)) W f)) 2 (fun _ _ => rfl) ?_
  refine rn_call (a := 72) (As := [vR 0, vI 1]) (t := 42) (ls' := [some (vR 0), some (vI a), some (vI (nI 9))]) (st' := []) (fun Fu F => cq_70_41 (evF Fu _) F _ _ _ _ _ _) (r_three (w := 1) hB (by decide)) ?_
  refine rn_eq (ls' := [some (vR 0), some (vI a), some (vI (nI 9))]) (st' := [vI (bzb (three c 1))]) (L' := (mL zz (nI (cnt c 1)) (nI (cnt c 2)) W f)) rfl rfl rfl ?_
  refine rn_if (b := 0) (x := bzb (three c 1)) (y := 0) (it := 47) (ie := 43) (ls' := [some (vR 0), some (vI a), some (vI (nI 9))]) (st' := []) (fun Fu F => bq_70_42 _ Fu F _ _ _ _) (fun k4 => absurd (of_decide_eq_true (cmp_eq.symm.trans k4)) (show ¬ ((bzb (three c 1) : Int32) = (0 : Int32)) from by rw [h1]; decide)) (fun _ => ?_)
  refine rb (i' := 45) (ls' := [some (vR 0), some (vI a), some (vI (nI 9))]) (st' := [vI 2, vR 0]) (L' := (mL zz (nI (cnt c 1)) (nI (cnt c 2)) W f)) 2 (fun _ _ => rfl) ?_
  refine rn_call (a := 72) (As := [vR 0, vI 2]) (t := 46) (ls' := [some (vR 0), some (vI a), some (vI (nI 9))]) (st' := []) (fun Fu F => cq_70_45 (evF Fu _) F _ _ _ _ _ _) (r_three (w := 2) hB (by decide)) ?_
  refine rn_eq (ls' := [some (vR 0), some (vI a), some (vI (nI 9))]) (st' := [vI (bzb (three c 2))]) (L' := (mL zz (nI (cnt c 1)) (nI (cnt c 2)) W f)) rfl rfl rfl ?_
  refine rn_if (b := 1) (x := bzb (three c 2)) (y := 0) (it := 49) (ie := 47) (ls' := [some (vR 0), some (vI a), some (vI (nI 9))]) (st' := []) (fun Fu F => bq_70_46 _ Fu F _ _ _ _) (fun k5 => absurd (of_decide_eq_true (cmp_ne.symm.trans k5)) (show ¬ (¬ (bzb (three c 2) : Int32) = (0 : Int32)) from fun z => z (by rw [h2]; rfl))) (fun _ => ?_)
  refine rb (i' := 50) (ls' := [some (vR 0), some (vI a), some (vI (nI 9))]) (st' := [vI 1]) (L' := (mL zz (nI (cnt c 1)) (nI (cnt c 2)) W f)) 2 (fun _ _ => rfl) ?_
  exact rn_fin (fun _ _ => rfl) (rfl)
theorem ie_a4 {D c : Nat} {a : Int32} {W f : FA} (hB : Bd f c) (h : cnt c 1 = cnt c 2) (h1 : three c 1 = true) (h2 : three c 2 = true) : Rn (D + 2) 70 14 [some (vR 0), some (vI a), some (vI (nI 9))] [] (mL zz (nI (cnt c 1)) (nI (cnt c 2)) W f) (some (vI 0), mL zz (nI (cnt c 1)) (nI (cnt c 2)) W f) := by
  have hcl := cnt_lt c
  refine rb (i' := 16) (ls' := [some (vR 0), some (vI a), some (vI (nI 9))]) (st' := [vI 9, vI (nI 9)]) (L' := (mL zz (nI (cnt c 1)) (nI (cnt c 2)) W f)) 2 (fun _ _ => rfl) ?_
  refine rn_if (b := 3) (x := nI 9) (y := 9) (it := 27) (ie := 17) (ls' := [some (vR 0), some (vI a), some (vI (nI 9))]) (st' := []) (fun Fu F => bq_70_16 _ Fu F _ _ _ _ _) (fun _ => ?_) (fun k1 => absurd (show (9 : Int32) ≤ (nI 9 : Int32) from Int32.le_refl _) (of_decide_eq_false (cmp_ge.symm.trans k1)))
  refine rb (i' := 31) (ls' := [some (vR 0), some (vI a), some (vI (nI 9))]) (st' := [vI (nI (cnt c 2)), vI (nI (cnt c 1))]) (L' := (mL zz (nI (cnt c 1)) (nI (cnt c 2)) W f)) 4 (fun _ _ => rfl) ?_
  refine rn_if (b := 0) (x := nI (cnt c 1)) (y := nI (cnt c 2)) (it := 39) (ie := 32) (ls' := [some (vR 0), some (vI a), some (vI (nI 9))]) (st' := []) (fun Fu F => bq_70_31 _ Fu F _ _ _ _ _) (fun _ => ?_) (fun k2 => absurd (show (nI (cnt c 1) : Int32) = (nI (cnt c 2) : Int32) from by rw [h]) (of_decide_eq_false (cmp_eq.symm.trans k2)))
  refine rb (i' := 41) (ls' := [some (vR 0), some (vI a), some (vI (nI 9))]) (st' := [vI 1, vR 0]) (L' := (mL zz (nI (cnt c 1)) (nI (cnt c 2)) W f)) 2 (fun _ _ => rfl) ?_
  refine rn_call (a := 72) (As := [vR 0, vI 1]) (t := 42) (ls' := [some (vR 0), some (vI a), some (vI (nI 9))]) (st' := []) (fun Fu F => cq_70_41 (evF Fu _) F _ _ _ _ _ _) (r_three (w := 1) hB (by decide)) ?_
  refine rn_eq (ls' := [some (vR 0), some (vI a), some (vI (nI 9))]) (st' := [vI (bzb (three c 1))]) (L' := (mL zz (nI (cnt c 1)) (nI (cnt c 2)) W f)) rfl rfl rfl ?_
  refine rn_if (b := 0) (x := bzb (three c 1)) (y := 0) (it := 47) (ie := 43) (ls' := [some (vR 0), some (vI a), some (vI (nI 9))]) (st' := []) (fun Fu F => bq_70_42 _ Fu F _ _ _ _) (fun k3 => absurd (of_decide_eq_true (cmp_eq.symm.trans k3)) (show ¬ ((bzb (three c 1) : Int32) = (0 : Int32)) from by rw [h1]; decide)) (fun _ => ?_)
  refine rb (i' := 45) (ls' := [some (vR 0), some (vI a), some (vI (nI 9))]) (st' := [vI 2, vR 0]) (L' := (mL zz (nI (cnt c 1)) (nI (cnt c 2)) W f)) 2 (fun _ _ => rfl) ?_
  refine rn_call (a := 72) (As := [vR 0, vI 2]) (t := 46) (ls' := [some (vR 0), some (vI a), some (vI (nI 9))]) (st' := []) (fun Fu F => cq_70_45 (evF Fu _) F _ _ _ _ _ _) (r_three (w := 2) hB (by decide)) ?_
  refine rn_eq (ls' := [some (vR 0), some (vI a), some (vI (nI 9))]) (st' := [vI (bzb (three c 2))]) (L' := (mL zz (nI (cnt c 1)) (nI (cnt c 2)) W f)) rfl rfl rfl ?_
  refine rn_if (b := 1) (x := bzb (three c 2)) (y := 0) (it := 49) (ie := 47) (ls' := [some (vR 0), some (vI a), some (vI (nI 9))]) (st' := []) (fun Fu F => bq_70_46 _ Fu F _ _ _ _) (fun _ => ?_) (fun k4 => absurd (show ¬ (bzb (three c 2) : Int32) = (0 : Int32) from by rw [h2]; decide) (of_decide_eq_false (cmp_ne.symm.trans k4)))
  refine rb (i' := 50) (ls' := [some (vR 0), some (vI a), some (vI (nI 9))]) (st' := [vI 0]) (L' := (mL zz (nI (cnt c 1)) (nI (cnt c 2)) W f)) 1 (fun _ _ => rfl) ?_
  exact rn_fin (fun _ _ => rfl) (rfl)
theorem ie_b4 {D c : Nat} {a : Int32} {W f : FA} (hB : Bd f c) (h : cnt c 1 = cnt c 2 + 1) (h1 : three c 1 = true) (h2 : three c 2 = true) : Rn (D + 2) 70 14 [some (vR 0), some (vI a), some (vI (nI 9))] [] (mL zz (nI (cnt c 1)) (nI (cnt c 2)) W f) (some (vI 0), mL zz (nI (cnt c 1)) (nI (cnt c 2)) W f) := by
  have hcl := cnt_lt c
  refine rb (i' := 16) (ls' := [some (vR 0), some (vI a), some (vI (nI 9))]) (st' := [vI 9, vI (nI 9)]) (L' := (mL zz (nI (cnt c 1)) (nI (cnt c 2)) W f)) 2 (fun _ _ => rfl) ?_
  refine rn_if (b := 3) (x := nI 9) (y := 9) (it := 27) (ie := 17) (ls' := [some (vR 0), some (vI a), some (vI (nI 9))]) (st' := []) (fun Fu F => bq_70_16 _ Fu F _ _ _ _ _) (fun _ => ?_) (fun k1 => absurd (show (9 : Int32) ≤ (nI 9 : Int32) from Int32.le_refl _) (of_decide_eq_false (cmp_ge.symm.trans k1)))
  refine rb (i' := 31) (ls' := [some (vR 0), some (vI a), some (vI (nI 9))]) (st' := [vI (nI (cnt c 2)), vI (nI (cnt c 1))]) (L' := (mL zz (nI (cnt c 1)) (nI (cnt c 2)) W f)) 4 (fun _ _ => rfl) ?_
  refine rn_if (b := 0) (x := nI (cnt c 1)) (y := nI (cnt c 2)) (it := 39) (ie := 32) (ls' := [some (vR 0), some (vI a), some (vI (nI 9))]) (st' := []) (fun Fu F => bq_70_31 _ Fu F _ _ _ _ _) (fun k2 => absurd (of_decide_eq_true (cmp_eq.symm.trans k2)) (show ¬ ((nI (cnt c 1) : Int32) = (nI (cnt c 2) : Int32)) from fun z => by have := (gnI_inj hcl.1 hcl.2).mp z; omega)) (fun _ => ?_)
  refine rb (i' := 38) (ls' := [some (vR 0), some (vI a), some (vI (nI 9))]) (st' := [vI ((nI (cnt c 2)) + 1), vI (nI (cnt c 1))]) (L' := (mL zz (nI (cnt c 1)) (nI (cnt c 2)) W f)) 6 (fun _ _ => rfl) ?_
  refine rn_top (x := (nI (cnt c 2)) + 1) (y := nI (cnt c 2 + 1)) (nadd rfl (rfl : (1 : Int32) = nI 1)) ?_
  refine rn_if (b := 1) (x := nI (cnt c 1)) (y := nI (cnt c 2 + 1)) (it := 49) (ie := 39) (ls' := [some (vR 0), some (vI a), some (vI (nI 9))]) (st' := []) (fun Fu F => bq_70_38 _ Fu F _ _ _ _ _) (fun k3 => absurd (of_decide_eq_true (cmp_ne.symm.trans k3)) (show ¬ (¬ (nI (cnt c 1) : Int32) = (nI (cnt c 2 + 1) : Int32)) from fun z => z (by rw [h]))) (fun _ => ?_)
  refine rb (i' := 41) (ls' := [some (vR 0), some (vI a), some (vI (nI 9))]) (st' := [vI 1, vR 0]) (L' := (mL zz (nI (cnt c 1)) (nI (cnt c 2)) W f)) 2 (fun _ _ => rfl) ?_
  refine rn_call (a := 72) (As := [vR 0, vI 1]) (t := 42) (ls' := [some (vR 0), some (vI a), some (vI (nI 9))]) (st' := []) (fun Fu F => cq_70_41 (evF Fu _) F _ _ _ _ _ _) (r_three (w := 1) hB (by decide)) ?_
  refine rn_eq (ls' := [some (vR 0), some (vI a), some (vI (nI 9))]) (st' := [vI (bzb (three c 1))]) (L' := (mL zz (nI (cnt c 1)) (nI (cnt c 2)) W f)) rfl rfl rfl ?_
  refine rn_if (b := 0) (x := bzb (three c 1)) (y := 0) (it := 47) (ie := 43) (ls' := [some (vR 0), some (vI a), some (vI (nI 9))]) (st' := []) (fun Fu F => bq_70_42 _ Fu F _ _ _ _) (fun k4 => absurd (of_decide_eq_true (cmp_eq.symm.trans k4)) (show ¬ ((bzb (three c 1) : Int32) = (0 : Int32)) from by rw [h1]; decide)) (fun _ => ?_)
  refine rb (i' := 45) (ls' := [some (vR 0), some (vI a), some (vI (nI 9))]) (st' := [vI 2, vR 0]) (L' := (mL zz (nI (cnt c 1)) (nI (cnt c 2)) W f)) 2 (fun _ _ => rfl) ?_
  refine rn_call (a := 72) (As := [vR 0, vI 2]) (t := 46) (ls' := [some (vR 0), some (vI a), some (vI (nI 9))]) (st' := []) (fun Fu F => cq_70_45 (evF Fu _) F _ _ _ _ _ _) (r_three (w := 2) hB (by decide)) ?_
  refine rn_eq (ls' := [some (vR 0), some (vI a), some (vI (nI 9))]) (st' := [vI (bzb (three c 2))]) (L' := (mL zz (nI (cnt c 1)) (nI (cnt c 2)) W f)) rfl rfl rfl ?_
  refine rn_if (b := 1) (x := bzb (three c 2)) (y := 0) (it := 49) (ie := 47) (ls' := [some (vR 0), some (vI a), some (vI (nI 9))]) (st' := []) (fun Fu F => bq_70_46 _ Fu F _ _ _ _) (fun _ => ?_) (fun k5 => absurd (show ¬ (bzb (three c 2) : Int32) = (0 : Int32) from by rw [h2]; decide) (of_decide_eq_false (cmp_ne.symm.trans k5)))
  refine rb (i' := 50) (ls' := [some (vR 0), some (vI a), some (vI (nI 9))]) (st' := [vI 0]) (L' := (mL zz (nI (cnt c 1)) (nI (cnt c 2)) W f)) 1 (fun _ _ => rfl) ?_
  exact rn_fin (fun _ _ => rfl) (rfl)
theorem tu_lu (A v : Nat) : ∀ t, tu A 10 v t = lu A v t := by
  intro t
  induction t with
  | zero => rfl
  | succ t ih => rw [tu, lu, ih]
theorem ig_run {D A : Nat} {U E a : Int32} {W f : FA} {res : Option PV × QH FA} (hf : ∀ j, j < 9 → f j = nI (A / 10 ^ (8 - j) % 10)) (hall : ∀ t, t < 9 → A / 10 ^ t % 10 ≤ 2) (hk : Rn D 70 14 [some (vR 0), some (vI a), some (vI (nI 9))] [] (mL zz U E W f) res) : ∀ (r k : Nat), k + r = 9 → Rn D 70 14 [some (vR 0), some (vI a), some (vI (nI k))] [] (mL zz U E W f) res := by
  intro r
  induction r with
  | zero =>
    intro k h
    obtain rfl : k = 9 := by omega
    exact hk
  | succ r ih =>
    intro k h
    exact ig_good (by omega) (hf k (by omega)) (hall (8 - k) (by omega)) (ih (k + 1) (by omega))
theorem ig_run0 {D A : Nat} {U E a : Int32} {W f : FA} (hf : ∀ j, j < 9 → f j = nI (A / 10 ^ (8 - j) % 10)) : ∀ (r k : Nat), k + r = 9 → (∃ j, k ≤ j ∧ j < 9 ∧ 2 < A / 10 ^ (8 - j) % 10) → Rn D 70 14 [some (vR 0), some (vI a), some (vI (nI k))] [] (mL zz U E W f) (some (vI 0), mL zz U E W f) := by
  intro r
  induction r with
  | zero =>
    intro k h hj
    obtain ⟨j, h1, h2, -⟩ := hj
    omega
  | succ r ih =>
    intro k h hj
    have h10 : A / 10 ^ (8 - k) % 10 < 10 := Nat.mod_lt _ (by decide)
    by_cases hx : 2 < A / 10 ^ (8 - k) % 10
    · exact ig_bad (by omega) (hf k (by omega)) hx h10
    · obtain ⟨j, h1, h2, h3⟩ := hj
      have hne : k ≠ j := fun q => hx (q ▸ h3)
      exact ig_good (by omega) (hf k (by omega)) (by omega) (ih (k + 1) (by omega) ⟨j, by omega, h2, h3⟩)
theorem nine10 {D A : Nat} {U E : Int32} {W f : FA} (hA : A ≤ 222222222) : MC (D + 1) 71 [vR 0, vI (nI A), vI 10] (mL zz U E W f) (none, mL zz (nI (lu A 1 9)) (nI (lu A 2 9)) W (tF A 10 f 9)) := by
  have h := r_nine (zz := zz) (D := D) (C := A) (B := 10) (U := U) (E := E) (W := W) (f := f) hA (by decide) (by decide) (by decide +kernel)
  rw [tu_lu, tu_lu] at h
  exact h
theorem ig_ok {D A : Nat} {U E : Int32} {W f : FA} (hA : A ≤ 222222222) (h : gok A = true) : ∃ f', Bd f' (cd A) ∧ MC (D + 3) 70 [vR 0, vI (nI A)] (mL zz U E W f) (some (vI 1), mL zz (nI (cnt (cd A) 1)) (nI (cnt (cd A) 2)) W f') := by
  simp only [gok, Bool.and_eq_true, ok9, decide_eq_true_eq, Bool.not_eq_true', Bool.and_eq_false_iff] at h
  obtain ⟨hall, ha, ht⟩ := h
  rw [alt_iff] at ha
  have hf := tF_at A 10 f
  have hB : Bd (tF A 10 f 9) (cd A) := fun j hj => by rw [hf j hj, cd_dg hall j hj]
  have hN := nine10 (zz := zz) (D := D + 1) (U := U) (E := E) (W := W) (f := f) hA
  rw [lu_cnt hall, lu_cnt hall] at hN
  refine ⟨_, hB, mc_of rfl (ig_in (D := D + 1) hA hN (ig_run hf hall ?_ 9 0 rfl))⟩
  have e : three (cd A) 1 = false ∨ (three (cd A) 1 = true ∧ three (cd A) 2 = false) := by
    cases h1 : three (cd A) 1
    · exact Or.inl rfl
    · rcases ht with q | q
      · rw [h1] at q; cases q
      · exact Or.inr ⟨rfl, q⟩
  rcases ha with ha | ha <;> rcases e with e | ⟨e, e2⟩
  · exact ie_a2 hB ha e
  · exact ie_a3 hB ha e e2
  · exact ie_b2 hB ha e
  · exact ie_b3 hB ha e e2
theorem ig_no {D A : Nat} {U E : Int32} {W f : FA} (hA : A ≤ 222222222) (h : gok A = false) : ∃ U' E' f', MC (D + 3) 70 [vR 0, vI (nI A)] (mL zz U E W f) (some (vI 0), mL zz U' E' W f') := by
  have hf := tF_at A 10 f
  have hN := nine10 (zz := zz) (D := D + 1) (U := U) (E := E) (W := W) (f := f) hA
  by_cases hall : ∀ t, t < 9 → A / 10 ^ t % 10 ≤ 2
  · have hB : Bd (tF A 10 f 9) (cd A) := fun j hj => by rw [hf j hj, cd_dg hall j hj]
    rw [lu_cnt hall, lu_cnt hall] at hN
    refine ⟨nI (cnt (cd A) 1), nI (cnt (cd A) 2), tF A 10 f 9, mc_of rfl (ig_in (D := D + 1) hA hN (ig_run hf hall ?_ 9 0 rfl))⟩
    by_cases ha : cnt (cd A) 1 = cnt (cd A) 2 ∨ cnt (cd A) 1 = cnt (cd A) 2 + 1
    · have ht : three (cd A) 1 = true ∧ three (cd A) 2 = true := by
        have ha' : alt (cd A) = true := alt_iff.mpr ha
        have h9 : ok9 A = true := decide_eq_true hall
        rw [gok, h9, ha'] at h
        simpa using h
      rcases ha with ha | ha
      · exact ie_a4 hB ha ht.1 ht.2
      · exact ie_b4 hB ha ht.1 ht.2
    · exact ie_0 hB ha
  · have hx : ∃ j, 0 ≤ j ∧ j < 9 ∧ 2 < A / 10 ^ (8 - j) % 10 := by
      apply Classical.byContradiction
      intro q
      refine hall (fun t ht => Nat.le_of_not_lt (fun z => q ⟨8 - t, Nat.zero_le _, by omega, ?_⟩))
      rw [show 8 - (8 - t) = t by omega]
      exact z
    exact ⟨_, _, _, mc_of rfl (ig_in (D := D + 1) hA hN (ig_run0 hf 9 0 rfl hx))⟩
theorem gr_b {D : Nat} {U E a b : Int32} {W f : FA} (h : b < 0 ∨ 1 < b) : MC (D + 1 + 1) 69 [vR 0, vI a, vI b] (mL0 t0 zz U E W f) (some (vI (-10)), mL zz U E W f) := by
  refine mc_of rfl ?_
  show Rn (D + 1) 69 0 [some (vR 0), some (vI a), some (vI b), none, none] [] (mL0 t0 zz U E W f) _
  refine rb (i' := 7) (ls' := [some (vR 0), some (vI a), some (vI b), none, none]) (st' := [vI 1, vI 0, vI b, vR 0]) (L' := (mL zz U E W f)) 7 (fun _ _ => rfl) ?_
  refine rn_call (a := 47) (As := [vR 0, vI b, vI 0, vI 1]) (t := 8) (ls' := [some (vR 0), some (vI a), some (vI b), none, none]) (st' := []) (fun Fu F => cq_69_7 (evF Fu _) F _ _ _ _ _ _ _ _) (r_in0 h) ?_
  refine rn_eq (ls' := [some (vR 0), some (vI a), some (vI b), none, none]) (st' := [vI 0]) (L' := (mL zz U E W f)) rfl rfl rfl ?_
  refine rn_if (b := 0) (x := 0) (y := 0) (it := 13) (ie := 9) (ls' := [some (vR 0), some (vI a), some (vI b), none, none]) (st' := []) (fun Fu F => bq_69_8 _ Fu F _ _ _ _) (fun _ => ?_) (fun k1 => absurd (show (0 : Int32) = (0 : Int32) from rfl) (of_decide_eq_false (cmp_eq.symm.trans k1)))
  refine rb (i' := 14) (ls' := [some (vR 0), some (vI a), some (vI b), none, none]) (st' := [vI ((-10))]) (L' := (mL zz U E W f)) 1 (fun _ _ => rfl) ?_
  exact rn_fin (fun _ _ => rfl) (rfl)
theorem gr_no {D : Nat} {U E U' E' a b : Int32} {W f f' : FA} (h1 : ¬ b < 0) (h2 : ¬ 1 < b) (hG : MC (D + 1) 70 [vR 0, vI a] (mL zz U E W f) (some (vI 0), mL zz U' E' W f')) : MC (D + 1 + 1) 69 [vR 0, vI a, vI b] (mL0 t0 zz U E W f) (some (vI (-10)), mL zz U' E' W f') := by
  refine mc_of rfl ?_
  show Rn (D + 1) 69 0 [some (vR 0), some (vI a), some (vI b), none, none] [] (mL0 t0 zz U E W f) _
  refine rb (i' := 7) (ls' := [some (vR 0), some (vI a), some (vI b), none, none]) (st' := [vI 1, vI 0, vI b, vR 0]) (L' := (mL zz U E W f)) 7 (fun _ _ => rfl) ?_
  refine rn_call (a := 47) (As := [vR 0, vI b, vI 0, vI 1]) (t := 8) (ls' := [some (vR 0), some (vI a), some (vI b), none, none]) (st' := []) (fun Fu F => cq_69_7 (evF Fu _) F _ _ _ _ _ _ _ _) (r_in1 h1 h2) ?_
  refine rn_eq (ls' := [some (vR 0), some (vI a), some (vI b), none, none]) (st' := [vI 1]) (L' := (mL zz U E W f)) rfl rfl rfl ?_
  refine rn_if (b := 0) (x := 1) (y := 0) (it := 13) (ie := 9) (ls' := [some (vR 0), some (vI a), some (vI b), none, none]) (st' := []) (fun Fu F => bq_69_8 _ Fu F _ _ _ _) (fun k1 => absurd (of_decide_eq_true (cmp_eq.symm.trans k1)) (show ¬ ((1 : Int32) = (0 : Int32)) from by decide)) (fun _ => ?_)
  refine rb (i' := 11) (ls' := [some (vR 0), some (vI a), some (vI b), none, none]) (st' := [vI a, vR 0]) (L' := (mL zz U E W f)) 2 (fun _ _ => rfl) ?_
  refine rn_call (a := 70) (As := [vR 0, vI a]) (t := 12) (ls' := [some (vR 0), some (vI a), some (vI b), none, none]) (st' := []) (fun Fu F => cq_69_11 (evF Fu _) F _ _ _ _ _ _) (hG) ?_
  refine rn_eq (ls' := [some (vR 0), some (vI a), some (vI b), none, none]) (st' := [vI 0]) (L' := (mL zz U' E' W f')) rfl rfl rfl ?_
  refine rn_if (b := 1) (x := 0) (y := 0) (it := 15) (ie := 13) (ls' := [some (vR 0), some (vI a), some (vI b), none, none]) (st' := []) (fun Fu F => bq_69_12 _ Fu F _ _ _ _) (fun k2 => absurd (of_decide_eq_true (cmp_ne.symm.trans k2)) (show ¬ (¬ (0 : Int32) = (0 : Int32)) from fun z => z rfl)) (fun _ => ?_)
  refine rb (i' := 14) (ls' := [some (vR 0), some (vI a), some (vI b), none, none]) (st' := [vI ((-10))]) (L' := (mL zz U' E' W f')) 1 (fun _ _ => rfl) ?_
  exact rn_fin (fun _ _ => rfl) (rfl)
theorem gr_pre {D : Nat} {U E U' E' a b : Int32} {W f f' : FA} (h1 : ¬ b < 0) (h2 : ¬ 1 < b) {res : Option PV × QH FA} (hG : MC (D + 1) 70 [vR 0, vI a] (mL zz U E W f) (some (vI 1), mL zz U' E' W f')) (hk : Rn (D + 1) 69 19 [some (vR 0), some (vI a), some (vI b), some (vI 0), some (vI 0)] [] (mL zz U' E' W f') res) : Rn (D + 1) 69 0 [some (vR 0), some (vI a), some (vI b), none, none] [] (mL0 t0 zz U E W f) res := by
  refine rb (i' := 7) (ls' := [some (vR 0), some (vI a), some (vI b), none, none]) (st' := [vI 1, vI 0, vI b, vR 0]) (L' := (mL zz U E W f)) 7 (fun _ _ => rfl) ?_
  refine rn_call (a := 47) (As := [vR 0, vI b, vI 0, vI 1]) (t := 8) (ls' := [some (vR 0), some (vI a), some (vI b), none, none]) (st' := []) (fun Fu F => cq_69_7 (evF Fu _) F _ _ _ _ _ _ _ _) (r_in1 h1 h2) ?_
  refine rn_eq (ls' := [some (vR 0), some (vI a), some (vI b), none, none]) (st' := [vI 1]) (L' := (mL zz U E W f)) rfl rfl rfl ?_
  refine rn_if (b := 0) (x := 1) (y := 0) (it := 13) (ie := 9) (ls' := [some (vR 0), some (vI a), some (vI b), none, none]) (st' := []) (fun Fu F => bq_69_8 _ Fu F _ _ _ _) (fun k1 => absurd (of_decide_eq_true (cmp_eq.symm.trans k1)) (show ¬ ((1 : Int32) = (0 : Int32)) from by decide)) (fun _ => ?_)
  refine rb (i' := 11) (ls' := [some (vR 0), some (vI a), some (vI b), none, none]) (st' := [vI a, vR 0]) (L' := (mL zz U E W f)) 2 (fun _ _ => rfl) ?_
  refine rn_call (a := 70) (As := [vR 0, vI a]) (t := 12) (ls' := [some (vR 0), some (vI a), some (vI b), none, none]) (st' := []) (fun Fu F => cq_69_11 (evF Fu _) F _ _ _ _ _ _) (hG) ?_
  refine rn_eq (ls' := [some (vR 0), some (vI a), some (vI b), none, none]) (st' := [vI 1]) (L' := (mL zz U' E' W f')) rfl rfl rfl ?_
  refine rn_if (b := 1) (x := 1) (y := 0) (it := 15) (ie := 13) (ls' := [some (vR 0), some (vI a), some (vI b), none, none]) (st' := []) (fun Fu F => bq_69_12 _ Fu F _ _ _ _) (fun _ => ?_) (fun k2 => absurd (show ¬ (1 : Int32) = (0 : Int32) from by decide) (of_decide_eq_false (cmp_ne.symm.trans k2)))
  refine rb (i' := 19) (ls' := [some (vR 0), some (vI a), some (vI b), some (vI 0), some (vI 0)]) (st' := []) (L' := (mL zz U' E' W f')) 4 (fun _ _ => rfl) ?_
  exact hk
theorem gr_c {D c k x : Nat} {U E a b : Int32} {W f : FA} {res : Option PV × QH FA} (hk9 : k < 9) (hB : Bd f c) (hk : Rn D 69 19 [some (vR 0), some (vI a), some (vI b), some (vI (nI (3 * x + dg c k))), some (vI (nI (k + 1)))] [] (mL zz U E W f) res) : Rn D 69 19 [some (vR 0), some (vI a), some (vI b), some (vI (nI x)), some (vI (nI k))] [] (mL zz U E W f) res := by
  refine rb (i' := 21) (ls' := [some (vR 0), some (vI a), some (vI b), some (vI (nI x)), some (vI (nI k))]) (st' := [vI 9, vI (nI k)]) (L' := (mL zz U E W f)) 2 (fun _ _ => rfl) ?_
  refine rn_if (b := 3) (x := nI k) (y := 9) (it := 33) (ie := 22) (ls' := [some (vR 0), some (vI a), some (vI b), some (vI (nI x)), some (vI (nI k))]) (st' := []) (fun Fu F => bq_69_21 _ Fu F _ _ _ _ _) (fun k1 => absurd (of_decide_eq_true (cmp_ge.symm.trans k1)) (show ¬ ((9 : Int32) ≤ (nI k : Int32)) from nI_ge hk9 (by decide))) (fun _ => ?_)
  refine rb (i' := 25) (ls' := [some (vR 0), some (vI a), some (vI b), some (vI (nI x)), some (vI (nI k))]) (st' := [vI (3 * (nI x))]) (L' := (mL zz U E W f)) 3 (fun _ _ => rfl) ?_
  refine rn_top (x := 3 * (nI x)) (y := nI (3 * x)) (nmul (rfl : (3 : Int32) = nI 3) rfl) ?_
  refine rb (i' := 28) (ls' := [some (vR 0), some (vI a), some (vI b), some (vI (nI x)), some (vI (nI k))]) (st' := [vI (nI k), vR 2, vI (nI (3 * x))]) (L' := (mL zz U E W f)) 3 (fun _ _ => rfl) ?_
  refine rn_g (g := (Nat.beq 0 0 && pin (nI k) 9)) (i' := 29) (ls' := [some (vR 0), some (vI a), some (vI b), some (vI (nI x)), some (vI (nI k))]) (st' := [vI (f (ix (nI k))), vI (nI (3 * x))]) (L' := (mL zz U E W f)) (fun _ _ => rfl) (gpin_nI hk9 (by decide)) ?_
  refine rn_top (x := f (ix (nI k))) (y := nI (dg c k)) ((congrArg f (gix_nI (by omega))).trans (hB k hk9)) ?_
  refine rb (i' := 30) (ls' := [some (vR 0), some (vI a), some (vI b), some (vI (nI x)), some (vI (nI k))]) (st' := [vI ((nI (3 * x)) + (nI (dg c k)))]) (L' := (mL zz U E W f)) 1 (fun _ _ => rfl) ?_
  refine rn_top (x := (nI (3 * x)) + (nI (dg c k))) (y := nI (3 * x + dg c k)) (nadd rfl rfl) ?_
  refine rb (i' := 31) (ls' := [some (vR 0), some (vI a), some (vI b), some (vI (nI (3 * x + dg c k))), some (vI (nI k))]) (st' := []) (L' := (mL zz U E W f)) 1 (fun _ _ => rfl) ?_
  refine rb (i' := 19) (ls' := [some (vR 0), some (vI a), some (vI b), some (vI (nI (3 * x + dg c k))), some (vI (nI k + 1))]) (st' := []) (L' := (mL zz U E W f)) 2 (fun _ _ => rfl) ?_
  rw [nadd (rfl : nI k = nI k) (rfl : (1 : Int32) = nI 1)]
  exact hk
theorem gr_m {D c : Nat} {U E U' E' a b : Int32} {W W' f f' f3 : FA} {res : Option PV × QH FA} (hF : MC D 74 [vR 0, vI (nI c)] (mL zz U E W f) (none, mL zz U' E' W' f')) (hN : MC D 71 [vR 0, vI (nI c), vI 3] (mL zz U' E' W' f') (none, mL zz (nI (cnt c 1)) (nI (cnt c 2)) W' f3)) (hk : Rn D 69 40 [some (vR 0), some (vI a), some (vI b), some (vI (nI c)), some (vI (nI 9))] [] (mL zz (nI (cnt c 1)) (nI (cnt c 2)) W' f3) res) : Rn D 69 19 [some (vR 0), some (vI a), some (vI b), some (vI (nI c)), some (vI (nI 9))] [] (mL zz U E W f) res := by
  refine rb (i' := 21) (ls' := [some (vR 0), some (vI a), some (vI b), some (vI (nI c)), some (vI (nI 9))]) (st' := [vI 9, vI (nI 9)]) (L' := (mL zz U E W f)) 2 (fun _ _ => rfl) ?_
  refine rn_if (b := 3) (x := nI 9) (y := 9) (it := 33) (ie := 22) (ls' := [some (vR 0), some (vI a), some (vI b), some (vI (nI c)), some (vI (nI 9))]) (st' := []) (fun Fu F => bq_69_21 _ Fu F _ _ _ _ _) (fun _ => ?_) (fun k1 => absurd (show (9 : Int32) ≤ (nI 9 : Int32) from Int32.le_refl _) (of_decide_eq_false (cmp_ge.symm.trans k1)))
  refine rb (i' := 35) (ls' := [some (vR 0), some (vI a), some (vI b), some (vI (nI c)), some (vI (nI 9))]) (st' := [vI (nI c), vR 0]) (L' := (mL zz U E W f)) 2 (fun _ _ => rfl) ?_
  refine rn_call (a := 74) (As := [vR 0, vI (nI c)]) (t := 36) (ls' := [some (vR 0), some (vI a), some (vI b), some (vI (nI c)), some (vI (nI 9))]) (st' := []) (fun Fu F => cq_69_35 (evF Fu _) F _ _ _ _ _ _) (hF) ?_
  refine rn_eq (ls' := [some (vR 0), some (vI a), some (vI b), some (vI (nI c)), some (vI (nI 9))]) (st' := []) (L' := (mL zz U' E' W' f')) rfl rfl rfl ?_
  refine rb (i' := 39) (ls' := [some (vR 0), some (vI a), some (vI b), some (vI (nI c)), some (vI (nI 9))]) (st' := [vI 3, vI (nI c), vR 0]) (L' := (mL zz U' E' W' f')) 3 (fun _ _ => rfl) ?_
  refine rn_call (a := 71) (As := [vR 0, vI (nI c), vI 3]) (t := 40) (ls' := [some (vR 0), some (vI a), some (vI b), some (vI (nI c)), some (vI (nI 9))]) (st' := []) (fun Fu F => cq_69_39 (evF Fu _) F _ _ _ _ _ _ _) (hN) ?_
  refine rn_eq (ls' := [some (vR 0), some (vI a), some (vI b), some (vI (nI c)), some (vI (nI 9))]) (st' := []) (L' := (mL zz (nI (cnt c 1)) (nI (cnt c 2)) W' f3)) rfl rfl rfl ?_
  exact hk
theorem gr_v {D c : Nat} {a b : Int32} {W f : FA} (hc : c < 19683) (hb : b = 0) : Rn D 69 40 [some (vR 0), some (vI a), some (vI b), some (vI (nI c)), some (vI (nI 9))] [] (mL zz (nI (cnt c 1)) (nI (cnt c 2)) W f) (some (vI (W c)), mL zz (nI (cnt c 1)) (nI (cnt c 2)) W f) := by
  refine rb (i' := 41) (ls' := [some (vR 0), some (vI a), some (vI b), some (vI (nI c)), some (vI (nI 9))]) (st' := [vI b]) (L' := (mL zz (nI (cnt c 1)) (nI (cnt c 2)) W f)) 1 (fun _ _ => rfl) ?_
  refine rn_if (b := 1) (x := b) (y := 0) (it := 47) (ie := 42) (ls' := [some (vR 0), some (vI a), some (vI b), some (vI (nI c)), some (vI (nI 9))]) (st' := []) (fun Fu F => bq_69_41 _ Fu F _ _ _ _) (fun k1 => absurd (of_decide_eq_true (cmp_ne.symm.trans k1)) (show ¬ (¬ (b : Int32) = (0 : Int32)) from fun z => z hb)) (fun _ => ?_)
  refine rb (i' := 45) (ls' := [some (vR 0), some (vI a), some (vI b), some (vI (nI c)), some (vI (nI 9))]) (st' := [vI (nI c), vR 1]) (L' := (mL zz (nI (cnt c 1)) (nI (cnt c 2)) W f)) 3 (fun _ _ => rfl) ?_
  refine rn_g (g := (Nat.beq 0 0 && pin (nI c) 19683)) (i' := 46) (ls' := [some (vR 0), some (vI a), some (vI b), some (vI (nI c)), some (vI (nI 9))]) (st' := [vI (W (ix (nI c)))]) (L' := (mL zz (nI (cnt c 1)) (nI (cnt c 2)) W f)) (fun _ _ => rfl) (gpin_nI hc (by decide)) ?_
  refine rn_top (x := W (ix (nI c))) (y := W c) (congrArg W (gix_nI (by omega))) ?_
  exact rn_fin (fun _ _ => rfl) (rfl)
theorem gr_o {D c : Nat} {a b : Int32} {W f : FA} (hb : ¬ b = 0) (hO : MC D 78 [vR 0] (mL zz (nI (cnt c 1)) (nI (cnt c 2)) W f) (some (vI 1), mL zz (nI (cnt c 1)) (nI (cnt c 2)) W f)) : Rn D 69 40 [some (vR 0), some (vI a), some (vI b), some (vI (nI c)), some (vI (nI 9))] [] (mL zz (nI (cnt c 1)) (nI (cnt c 2)) W f) (some (vI (-1)), mL zz (nI (cnt c 1)) (nI (cnt c 2)) W f) := by
  refine rb (i' := 41) (ls' := [some (vR 0), some (vI a), some (vI b), some (vI (nI c)), some (vI (nI 9))]) (st' := [vI b]) (L' := (mL zz (nI (cnt c 1)) (nI (cnt c 2)) W f)) 1 (fun _ _ => rfl) ?_
  refine rn_if (b := 1) (x := b) (y := 0) (it := 47) (ie := 42) (ls' := [some (vR 0), some (vI a), some (vI b), some (vI (nI c)), some (vI (nI 9))]) (st' := []) (fun Fu F => bq_69_41 _ Fu F _ _ _ _) (fun _ => ?_) (fun k1 => absurd (show ¬ (b : Int32) = (0 : Int32) from hb) (of_decide_eq_false (cmp_ne.symm.trans k1)))
  refine rb (i' := 48) (ls' := [some (vR 0), some (vI a), some (vI b), some (vI (nI c)), some (vI (nI 9))]) (st' := [vR 0]) (L' := (mL zz (nI (cnt c 1)) (nI (cnt c 2)) W f)) 1 (fun _ _ => rfl) ?_
  refine rn_call (a := 78) (As := [vR 0]) (t := 49) (ls' := [some (vR 0), some (vI a), some (vI b), some (vI (nI c)), some (vI (nI 9))]) (st' := []) (fun Fu F => cq_69_48 (evF Fu _) F _ _ _ _ _) (hO) ?_
  refine rn_eq (ls' := [some (vR 0), some (vI a), some (vI b), some (vI (nI c)), some (vI (nI 9))]) (st' := [vI 1]) (L' := (mL zz (nI (cnt c 1)) (nI (cnt c 2)) W f)) rfl rfl rfl ?_
  refine rn_if (b := 0) (x := 1) (y := 0) (it := 52) (ie := 50) (ls' := [some (vR 0), some (vI a), some (vI b), some (vI (nI c)), some (vI (nI 9))]) (st' := []) (fun Fu F => bq_69_49 _ Fu F _ _ _ _) (fun k2 => absurd (of_decide_eq_true (cmp_eq.symm.trans k2)) (show ¬ ((1 : Int32) = (0 : Int32)) from by decide)) (fun _ => ?_)
  refine rb (i' := 51) (ls' := [some (vR 0), some (vI a), some (vI b), some (vI (nI c)), some (vI (nI 9))]) (st' := [vI ((-1))]) (L' := (mL zz (nI (cnt c 1)) (nI (cnt c 2)) W f)) 1 (fun _ _ => rfl) ?_
  exact rn_fin (fun _ _ => rfl) (rfl)
theorem gr_n {D c : Nat} {a b : Int32} {W f : FA} {res : Option PV × QH FA} (hb : ¬ b = 0) (hO : MC D 78 [vR 0] (mL zz (nI (cnt c 1)) (nI (cnt c 2)) W f) (some (vI 0), mL zz (nI (cnt c 1)) (nI (cnt c 2)) W f)) (hk : Rn D 69 54 [some (vR 0), some (vI a), some (vI b), some (vI (nI c)), some (vI 0)] [] (mL zz (nI (cnt c 1)) (nI (cnt c 2)) W f) res) : Rn D 69 40 [some (vR 0), some (vI a), some (vI b), some (vI (nI c)), some (vI (nI 9))] [] (mL zz (nI (cnt c 1)) (nI (cnt c 2)) W f) res := by
  refine rb (i' := 41) (ls' := [some (vR 0), some (vI a), some (vI b), some (vI (nI c)), some (vI (nI 9))]) (st' := [vI b]) (L' := (mL zz (nI (cnt c 1)) (nI (cnt c 2)) W f)) 1 (fun _ _ => rfl) ?_
  refine rn_if (b := 1) (x := b) (y := 0) (it := 47) (ie := 42) (ls' := [some (vR 0), some (vI a), some (vI b), some (vI (nI c)), some (vI (nI 9))]) (st' := []) (fun Fu F => bq_69_41 _ Fu F _ _ _ _) (fun _ => ?_) (fun k1 => absurd (show ¬ (b : Int32) = (0 : Int32) from hb) (of_decide_eq_false (cmp_ne.symm.trans k1)))
  refine rb (i' := 48) (ls' := [some (vR 0), some (vI a), some (vI b), some (vI (nI c)), some (vI (nI 9))]) (st' := [vR 0]) (L' := (mL zz (nI (cnt c 1)) (nI (cnt c 2)) W f)) 1 (fun _ _ => rfl) ?_
  refine rn_call (a := 78) (As := [vR 0]) (t := 49) (ls' := [some (vR 0), some (vI a), some (vI b), some (vI (nI c)), some (vI (nI 9))]) (st' := []) (fun Fu F => cq_69_48 (evF Fu _) F _ _ _ _ _) (hO) ?_
  refine rn_eq (ls' := [some (vR 0), some (vI a), some (vI b), some (vI (nI c)), some (vI (nI 9))]) (st' := [vI 0]) (L' := (mL zz (nI (cnt c 1)) (nI (cnt c 2)) W f)) rfl rfl rfl ?_
  refine rn_if (b := 0) (x := 0) (y := 0) (it := 52) (ie := 50) (ls' := [some (vR 0), some (vI a), some (vI b), some (vI (nI c)), some (vI (nI 9))]) (st' := []) (fun Fu F => bq_69_49 _ Fu F _ _ _ _) (fun _ => ?_) (fun k2 => absurd (show (0 : Int32) = (0 : Int32) from rfl) (of_decide_eq_false (cmp_eq.symm.trans k2)))
  refine rb (i' := 54) (ls' := [some (vR 0), some (vI a), some (vI b), some (vI (nI c)), some (vI 0)]) (st' := []) (L' := (mL zz (nI (cnt c 1)) (nI (cnt c 2)) W f)) 2 (fun _ _ => rfl) ?_
  exact hk
theorem gr_l9 {D c : Nat} {a b : Int32} {W f : FA} : Rn D 69 54 [some (vR 0), some (vI a), some (vI b), some (vI (nI c)), some (vI (nI 9))] [] (mL zz (nI (cnt c 1)) (nI (cnt c 2)) W f) (some (vI (-1)), mL zz (nI (cnt c 1)) (nI (cnt c 2)) W f) := by
  refine rb (i' := 56) (ls' := [some (vR 0), some (vI a), some (vI b), some (vI (nI c)), some (vI (nI 9))]) (st' := [vI 9, vI (nI 9)]) (L' := (mL zz (nI (cnt c 1)) (nI (cnt c 2)) W f)) 2 (fun _ _ => rfl) ?_
  refine rn_if (b := 3) (x := nI 9) (y := 9) (it := 83) (ie := 57) (ls' := [some (vR 0), some (vI a), some (vI b), some (vI (nI c)), some (vI (nI 9))]) (st' := []) (fun Fu F => bq_69_56 _ Fu F _ _ _ _ _) (fun _ => ?_) (fun k1 => absurd (show (9 : Int32) ≤ (nI 9 : Int32) from Int32.le_refl _) (of_decide_eq_false (cmp_ge.symm.trans k1)))
  refine rb (i' := 84) (ls' := [some (vR 0), some (vI a), some (vI b), some (vI (nI c)), some (vI (nI 9))]) (st' := [vI ((-1))]) (L' := (mL zz (nI (cnt c 1)) (nI (cnt c 2)) W f)) 1 (fun _ _ => rfl) ?_
  exact rn_fin (fun _ _ => rfl) (rfl)
theorem gr_lk {D c i : Nat} {a b : Int32} {W f : FA} {res : Option PV × QH FA} (hi : i < 9) (hB : Bd f c) (hd : ¬ dg c i = 0) (hk : Rn D 69 54 [some (vR 0), some (vI a), some (vI b), some (vI (nI c)), some (vI (nI (i + 1)))] [] (mL zz (nI (cnt c 1)) (nI (cnt c 2)) W f) res) : Rn D 69 54 [some (vR 0), some (vI a), some (vI b), some (vI (nI c)), some (vI (nI i))] [] (mL zz (nI (cnt c 1)) (nI (cnt c 2)) W f) res := by
  refine rb (i' := 56) (ls' := [some (vR 0), some (vI a), some (vI b), some (vI (nI c)), some (vI (nI i))]) (st' := [vI 9, vI (nI i)]) (L' := (mL zz (nI (cnt c 1)) (nI (cnt c 2)) W f)) 2 (fun _ _ => rfl) ?_
  refine rn_if (b := 3) (x := nI i) (y := 9) (it := 83) (ie := 57) (ls' := [some (vR 0), some (vI a), some (vI b), some (vI (nI c)), some (vI (nI i))]) (st' := []) (fun Fu F => bq_69_56 _ Fu F _ _ _ _ _) (fun k1 => absurd (of_decide_eq_true (cmp_ge.symm.trans k1)) (show ¬ ((9 : Int32) ≤ (nI i : Int32)) from nI_ge hi (by decide))) (fun _ => ?_)
  refine rb (i' := 60) (ls' := [some (vR 0), some (vI a), some (vI b), some (vI (nI c)), some (vI (nI i))]) (st' := [vI (nI i), vR 2]) (L' := (mL zz (nI (cnt c 1)) (nI (cnt c 2)) W f)) 3 (fun _ _ => rfl) ?_
  refine rn_g (g := (Nat.beq 0 0 && pin (nI i) 9)) (i' := 61) (ls' := [some (vR 0), some (vI a), some (vI b), some (vI (nI c)), some (vI (nI i))]) (st' := [vI (f (ix (nI i)))]) (L' := (mL zz (nI (cnt c 1)) (nI (cnt c 2)) W f)) (fun _ _ => rfl) (gpin_nI hi (by decide)) ?_
  refine rn_top (x := f (ix (nI i))) (y := nI (dg c i)) ((congrArg f (gix_nI (by omega))).trans (hB i hi)) ?_
  refine rn_if (b := 1) (x := nI (dg c i)) (y := 0) (it := 81) (ie := 62) (ls' := [some (vR 0), some (vI a), some (vI b), some (vI (nI c)), some (vI (nI i))]) (st' := []) (fun Fu F => bq_69_61 _ Fu F _ _ _ _) (fun _ => ?_) (fun k2 => absurd (show ¬ (nI (dg c i) : Int32) = (0 : Int32) from fun z => hd ((gnI_inj (by have := dg_lt c i; omega) (by decide)).mp z)) (of_decide_eq_false (cmp_ne.symm.trans k2)))
  refine rb (i' := 54) (ls' := [some (vR 0), some (vI a), some (vI b), some (vI (nI c)), some (vI (nI i + 1))]) (st' := []) (L' := (mL zz (nI (cnt c 1)) (nI (cnt c 2)) W f)) 2 (fun _ _ => rfl) ?_
  rw [nadd (rfl : nI i = nI i) (rfl : (1 : Int32) = nI 1)]
  exact hk
theorem gr_ln {D c i : Nat} {a b : Int32} {W f : FA} {res : Option PV × QH FA} (hc : c < 19683) (hi : i < 9) (hB : Bd f c) (ha : alt c = true) (hd : dg c i = 0) (hc' : c + wn (fl c) * 3 ^ (8 - i) < 19683) (he : ¬ -(W (c + wn (fl c) * 3 ^ (8 - i))) = W c) (hk : Rn (D + 1) 69 54 [some (vR 0), some (vI a), some (vI b), some (vI (nI c)), some (vI (nI (i + 1)))] [] (mL zz (nI (cnt c 1)) (nI (cnt c 2)) W f) res) : Rn (D + 1) 69 54 [some (vR 0), some (vI a), some (vI b), some (vI (nI c)), some (vI (nI i))] [] (mL zz (nI (cnt c 1)) (nI (cnt c 2)) W f) res := by
  refine rb (i' := 56) (ls' := [some (vR 0), some (vI a), some (vI b), some (vI (nI c)), some (vI (nI i))]) (st' := [vI 9, vI (nI i)]) (L' := (mL zz (nI (cnt c 1)) (nI (cnt c 2)) W f)) 2 (fun _ _ => rfl) ?_
  refine rn_if (b := 3) (x := nI i) (y := 9) (it := 83) (ie := 57) (ls' := [some (vR 0), some (vI a), some (vI b), some (vI (nI c)), some (vI (nI i))]) (st' := []) (fun Fu F => bq_69_56 _ Fu F _ _ _ _ _) (fun k1 => absurd (of_decide_eq_true (cmp_ge.symm.trans k1)) (show ¬ ((9 : Int32) ≤ (nI i : Int32)) from nI_ge hi (by decide))) (fun _ => ?_)
  refine rb (i' := 60) (ls' := [some (vR 0), some (vI a), some (vI b), some (vI (nI c)), some (vI (nI i))]) (st' := [vI (nI i), vR 2]) (L' := (mL zz (nI (cnt c 1)) (nI (cnt c 2)) W f)) 3 (fun _ _ => rfl) ?_
  refine rn_g (g := (Nat.beq 0 0 && pin (nI i) 9)) (i' := 61) (ls' := [some (vR 0), some (vI a), some (vI b), some (vI (nI c)), some (vI (nI i))]) (st' := [vI (f (ix (nI i)))]) (L' := (mL zz (nI (cnt c 1)) (nI (cnt c 2)) W f)) (fun _ _ => rfl) (gpin_nI hi (by decide)) ?_
  refine rn_top (x := f (ix (nI i))) (y := nI (dg c i)) ((congrArg f (gix_nI (by omega))).trans (hB i hi)) ?_
  refine rn_if (b := 1) (x := nI (dg c i)) (y := 0) (it := 81) (ie := 62) (ls' := [some (vR 0), some (vI a), some (vI b), some (vI (nI c)), some (vI (nI i))]) (st' := []) (fun Fu F => bq_69_61 _ Fu F _ _ _ _) (fun k2 => absurd (of_decide_eq_true (cmp_ne.symm.trans k2)) (show ¬ (¬ (nI (dg c i) : Int32) = (0 : Int32)) from fun z => z (by rw [hd]; rfl))) (fun _ => ?_)
  refine rb (i' := 66) (ls' := [some (vR 0), some (vI a), some (vI b), some (vI (nI c)), some (vI (nI i))]) (st' := [vR 0, vI (nI c), vR 1]) (L' := (mL zz (nI (cnt c 1)) (nI (cnt c 2)) W f)) 4 (fun _ _ => rfl) ?_
  refine rn_call (a := 76) (As := [vR 0]) (t := 67) (ls' := [some (vR 0), some (vI a), some (vI b), some (vI (nI c)), some (vI (nI i))]) (st' := [vI (nI c), vR 1]) (fun Fu F => cq_69_66 (evF Fu _) F _ _ _ _ _ _ _) (r_next (cnt_lt c).1 (cnt_lt c).2) ?_
  refine rn_eq (ls' := [some (vR 0), some (vI a), some (vI b), some (vI (nI c)), some (vI (nI i))]) (st' := [vI (nI (if cnt c 1 = cnt c 2 then 1 else 2)), vI (nI c), vR 1]) (L' := (mL zz (nI (cnt c 1)) (nI (cnt c 2)) W f)) rfl rfl rfl ?_
  refine rn_top (x := nI (if cnt c 1 = cnt c 2 then 1 else 2)) (y := nI (wn (fl c))) (congrArg nI (alt_wn ha)) ?_
  refine rb (i' := 69) (ls' := [some (vR 0), some (vI a), some (vI b), some (vI (nI c)), some (vI (nI i))]) (st' := [vI (nI i), vR 0, vI (nI (wn (fl c))), vI (nI c), vR 1]) (L' := (mL zz (nI (cnt c 1)) (nI (cnt c 2)) W f)) 2 (fun _ _ => rfl) ?_
  refine rn_call (a := 77) (As := [vR 0, vI (nI i)]) (t := 70) (ls' := [some (vR 0), some (vI a), some (vI b), some (vI (nI c)), some (vI (nI i))]) (st' := [vI (nI (wn (fl c))), vI (nI c), vR 1]) (fun Fu F => cq_69_69 (evF Fu _) F _ _ _ _ _ _ _ _ _) (r_powr hi) ?_
  refine rn_eq (ls' := [some (vR 0), some (vI a), some (vI b), some (vI (nI c)), some (vI (nI i))]) (st' := [vI (nI (3 ^ (8 - i))), vI (nI (wn (fl c))), vI (nI c), vR 1]) (L' := (mL zz (nI (cnt c 1)) (nI (cnt c 2)) W f)) rfl rfl rfl ?_
  refine rb (i' := 71) (ls' := [some (vR 0), some (vI a), some (vI b), some (vI (nI c)), some (vI (nI i))]) (st' := [vI ((nI (wn (fl c))) * (nI (3 ^ (8 - i)))), vI (nI c), vR 1]) (L' := (mL zz (nI (cnt c 1)) (nI (cnt c 2)) W f)) 1 (fun _ _ => rfl) ?_
  refine rn_top (x := (nI (wn (fl c))) * (nI (3 ^ (8 - i)))) (y := nI (wn (fl c) * 3 ^ (8 - i))) (nmul rfl rfl) ?_
  refine rb (i' := 72) (ls' := [some (vR 0), some (vI a), some (vI b), some (vI (nI c)), some (vI (nI i))]) (st' := [vI ((nI c) + (nI (wn (fl c) * 3 ^ (8 - i)))), vR 1]) (L' := (mL zz (nI (cnt c 1)) (nI (cnt c 2)) W f)) 1 (fun _ _ => rfl) ?_
  refine rn_top (x := (nI c) + (nI (wn (fl c) * 3 ^ (8 - i)))) (y := nI (c + wn (fl c) * 3 ^ (8 - i))) (nadd rfl rfl) ?_
  refine rn_g (g := (Nat.beq 0 0 && pin (nI (c + wn (fl c) * 3 ^ (8 - i))) 19683)) (i' := 73) (ls' := [some (vR 0), some (vI a), some (vI b), some (vI (nI c)), some (vI (nI i))]) (st' := [vI (W (ix (nI (c + wn (fl c) * 3 ^ (8 - i)))))]) (L' := (mL zz (nI (cnt c 1)) (nI (cnt c 2)) W f)) (fun _ _ => rfl) (gpin_nI hc' (by decide)) ?_
  refine rn_top (x := W (ix (nI (c + wn (fl c) * 3 ^ (8 - i))))) (y := W (c + wn (fl c) * 3 ^ (8 - i))) (congrArg W (gix_nI (by omega))) ?_
  refine rb (i' := 77) (ls' := [some (vR 0), some (vI a), some (vI b), some (vI (nI c)), some (vI (nI i))]) (st' := [vI (nI c), vR 1, vI (-(W (c + wn (fl c) * 3 ^ (8 - i))))]) (L' := (mL zz (nI (cnt c 1)) (nI (cnt c 2)) W f)) 4 (fun _ _ => rfl) ?_
  refine rn_g (g := (Nat.beq 0 0 && pin (nI c) 19683)) (i' := 78) (ls' := [some (vR 0), some (vI a), some (vI b), some (vI (nI c)), some (vI (nI i))]) (st' := [vI (W (ix (nI c))), vI (-(W (c + wn (fl c) * 3 ^ (8 - i))))]) (L' := (mL zz (nI (cnt c 1)) (nI (cnt c 2)) W f)) (fun _ _ => rfl) (gpin_nI hc (by decide)) ?_
  refine rn_top (x := W (ix (nI c))) (y := W c) (congrArg W (gix_nI (by omega))) ?_
  refine rn_if (b := 1) (x := -(W (c + wn (fl c) * 3 ^ (8 - i)))) (y := W c) (it := 81) (ie := 79) (ls' := [some (vR 0), some (vI a), some (vI b), some (vI (nI c)), some (vI (nI i))]) (st' := []) (fun Fu F => bq_69_78 _ Fu F _ _ _ _ _) (fun _ => ?_) (fun k3 => absurd (show ¬ (-(W (c + wn (fl c) * 3 ^ (8 - i))) : Int32) = (W c : Int32) from he) (of_decide_eq_false (cmp_ne.symm.trans k3)))
  refine rb (i' := 54) (ls' := [some (vR 0), some (vI a), some (vI b), some (vI (nI c)), some (vI (nI i + 1))]) (st' := []) (L' := (mL zz (nI (cnt c 1)) (nI (cnt c 2)) W f)) 2 (fun _ _ => rfl) ?_
  rw [nadd (rfl : nI i = nI i) (rfl : (1 : Int32) = nI 1)]
  exact hk
theorem gr_ly {D c i : Nat} {a b : Int32} {W f : FA} (hc : c < 19683) (hi : i < 9) (hB : Bd f c) (ha : alt c = true) (hd : dg c i = 0) (hc' : c + wn (fl c) * 3 ^ (8 - i) < 19683) (he : -(W (c + wn (fl c) * 3 ^ (8 - i))) = W c) : Rn (D + 1) 69 54 [some (vR 0), some (vI a), some (vI b), some (vI (nI c)), some (vI (nI i))] [] (mL zz (nI (cnt c 1)) (nI (cnt c 2)) W f) (some (vI (nI i)), mL zz (nI (cnt c 1)) (nI (cnt c 2)) W f) := by
  refine rb (i' := 56) (ls' := [some (vR 0), some (vI a), some (vI b), some (vI (nI c)), some (vI (nI i))]) (st' := [vI 9, vI (nI i)]) (L' := (mL zz (nI (cnt c 1)) (nI (cnt c 2)) W f)) 2 (fun _ _ => rfl) ?_
  refine rn_if (b := 3) (x := nI i) (y := 9) (it := 83) (ie := 57) (ls' := [some (vR 0), some (vI a), some (vI b), some (vI (nI c)), some (vI (nI i))]) (st' := []) (fun Fu F => bq_69_56 _ Fu F _ _ _ _ _) (fun k1 => absurd (of_decide_eq_true (cmp_ge.symm.trans k1)) (show ¬ ((9 : Int32) ≤ (nI i : Int32)) from nI_ge hi (by decide))) (fun _ => ?_)
  refine rb (i' := 60) (ls' := [some (vR 0), some (vI a), some (vI b), some (vI (nI c)), some (vI (nI i))]) (st' := [vI (nI i), vR 2]) (L' := (mL zz (nI (cnt c 1)) (nI (cnt c 2)) W f)) 3 (fun _ _ => rfl) ?_
  refine rn_g (g := (Nat.beq 0 0 && pin (nI i) 9)) (i' := 61) (ls' := [some (vR 0), some (vI a), some (vI b), some (vI (nI c)), some (vI (nI i))]) (st' := [vI (f (ix (nI i)))]) (L' := (mL zz (nI (cnt c 1)) (nI (cnt c 2)) W f)) (fun _ _ => rfl) (gpin_nI hi (by decide)) ?_
  refine rn_top (x := f (ix (nI i))) (y := nI (dg c i)) ((congrArg f (gix_nI (by omega))).trans (hB i hi)) ?_
  refine rn_if (b := 1) (x := nI (dg c i)) (y := 0) (it := 81) (ie := 62) (ls' := [some (vR 0), some (vI a), some (vI b), some (vI (nI c)), some (vI (nI i))]) (st' := []) (fun Fu F => bq_69_61 _ Fu F _ _ _ _) (fun k2 => absurd (of_decide_eq_true (cmp_ne.symm.trans k2)) (show ¬ (¬ (nI (dg c i) : Int32) = (0 : Int32)) from fun z => z (by rw [hd]; rfl))) (fun _ => ?_)
  refine rb (i' := 66) (ls' := [some (vR 0), some (vI a), some (vI b), some (vI (nI c)), some (vI (nI i))]) (st' := [vR 0, vI (nI c), vR 1]) (L' := (mL zz (nI (cnt c 1)) (nI (cnt c 2)) W f)) 4 (fun _ _ => rfl) ?_
  refine rn_call (a := 76) (As := [vR 0]) (t := 67) (ls' := [some (vR 0), some (vI a), some (vI b), some (vI (nI c)), some (vI (nI i))]) (st' := [vI (nI c), vR 1]) (fun Fu F => cq_69_66 (evF Fu _) F _ _ _ _ _ _ _) (r_next (cnt_lt c).1 (cnt_lt c).2) ?_
  refine rn_eq (ls' := [some (vR 0), some (vI a), some (vI b), some (vI (nI c)), some (vI (nI i))]) (st' := [vI (nI (if cnt c 1 = cnt c 2 then 1 else 2)), vI (nI c), vR 1]) (L' := (mL zz (nI (cnt c 1)) (nI (cnt c 2)) W f)) rfl rfl rfl ?_
  refine rn_top (x := nI (if cnt c 1 = cnt c 2 then 1 else 2)) (y := nI (wn (fl c))) (congrArg nI (alt_wn ha)) ?_
  refine rb (i' := 69) (ls' := [some (vR 0), some (vI a), some (vI b), some (vI (nI c)), some (vI (nI i))]) (st' := [vI (nI i), vR 0, vI (nI (wn (fl c))), vI (nI c), vR 1]) (L' := (mL zz (nI (cnt c 1)) (nI (cnt c 2)) W f)) 2 (fun _ _ => rfl) ?_
  refine rn_call (a := 77) (As := [vR 0, vI (nI i)]) (t := 70) (ls' := [some (vR 0), some (vI a), some (vI b), some (vI (nI c)), some (vI (nI i))]) (st' := [vI (nI (wn (fl c))), vI (nI c), vR 1]) (fun Fu F => cq_69_69 (evF Fu _) F _ _ _ _ _ _ _ _ _) (r_powr hi) ?_
  refine rn_eq (ls' := [some (vR 0), some (vI a), some (vI b), some (vI (nI c)), some (vI (nI i))]) (st' := [vI (nI (3 ^ (8 - i))), vI (nI (wn (fl c))), vI (nI c), vR 1]) (L' := (mL zz (nI (cnt c 1)) (nI (cnt c 2)) W f)) rfl rfl rfl ?_
  refine rb (i' := 71) (ls' := [some (vR 0), some (vI a), some (vI b), some (vI (nI c)), some (vI (nI i))]) (st' := [vI ((nI (wn (fl c))) * (nI (3 ^ (8 - i)))), vI (nI c), vR 1]) (L' := (mL zz (nI (cnt c 1)) (nI (cnt c 2)) W f)) 1 (fun _ _ => rfl) ?_
  refine rn_top (x := (nI (wn (fl c))) * (nI (3 ^ (8 - i)))) (y := nI (wn (fl c) * 3 ^ (8 - i))) (nmul rfl rfl) ?_
  refine rb (i' := 72) (ls' := [some (vR 0), some (vI a), some (vI b), some (vI (nI c)), some (vI (nI i))]) (st' := [vI ((nI c) + (nI (wn (fl c) * 3 ^ (8 - i)))), vR 1]) (L' := (mL zz (nI (cnt c 1)) (nI (cnt c 2)) W f)) 1 (fun _ _ => rfl) ?_
  refine rn_top (x := (nI c) + (nI (wn (fl c) * 3 ^ (8 - i)))) (y := nI (c + wn (fl c) * 3 ^ (8 - i))) (nadd rfl rfl) ?_
  refine rn_g (g := (Nat.beq 0 0 && pin (nI (c + wn (fl c) * 3 ^ (8 - i))) 19683)) (i' := 73) (ls' := [some (vR 0), some (vI a), some (vI b), some (vI (nI c)), some (vI (nI i))]) (st' := [vI (W (ix (nI (c + wn (fl c) * 3 ^ (8 - i)))))]) (L' := (mL zz (nI (cnt c 1)) (nI (cnt c 2)) W f)) (fun _ _ => rfl) (gpin_nI hc' (by decide)) ?_
  refine rn_top (x := W (ix (nI (c + wn (fl c) * 3 ^ (8 - i))))) (y := W (c + wn (fl c) * 3 ^ (8 - i))) (congrArg W (gix_nI (by omega))) ?_
  refine rb (i' := 77) (ls' := [some (vR 0), some (vI a), some (vI b), some (vI (nI c)), some (vI (nI i))]) (st' := [vI (nI c), vR 1, vI (-(W (c + wn (fl c) * 3 ^ (8 - i))))]) (L' := (mL zz (nI (cnt c 1)) (nI (cnt c 2)) W f)) 4 (fun _ _ => rfl) ?_
  refine rn_g (g := (Nat.beq 0 0 && pin (nI c) 19683)) (i' := 78) (ls' := [some (vR 0), some (vI a), some (vI b), some (vI (nI c)), some (vI (nI i))]) (st' := [vI (W (ix (nI c))), vI (-(W (c + wn (fl c) * 3 ^ (8 - i))))]) (L' := (mL zz (nI (cnt c 1)) (nI (cnt c 2)) W f)) (fun _ _ => rfl) (gpin_nI hc (by decide)) ?_
  refine rn_top (x := W (ix (nI c))) (y := W c) (congrArg W (gix_nI (by omega))) ?_
  refine rn_if (b := 1) (x := -(W (c + wn (fl c) * 3 ^ (8 - i)))) (y := W c) (it := 81) (ie := 79) (ls' := [some (vR 0), some (vI a), some (vI b), some (vI (nI c)), some (vI (nI i))]) (st' := []) (fun Fu F => bq_69_78 _ Fu F _ _ _ _ _) (fun k3 => absurd (of_decide_eq_true (cmp_ne.symm.trans k3)) (show ¬ (¬ (-(W (c + wn (fl c) * 3 ^ (8 - i))) : Int32) = (W c : Int32)) from fun z => z he)) (fun _ => ?_)
  refine rb (i' := 80) (ls' := [some (vR 0), some (vI a), some (vI b), some (vI (nI c)), some (vI (nI i))]) (st' := [vI (nI i)]) (L' := (mL zz (nI (cnt c 1)) (nI (cnt c 2)) W f)) 1 (fun _ _ => rfl) ?_
  exact rn_fin (fun _ _ => rfl) (rfl)
theorem gr_loop {D c : Nat} {a b : Int32} {W f : FA} (hc : c < 19683) (hB : Bd f c) (ha : alt c = true) (hW : WI W c) : ∀ (t i : Nat), i + t = 9 → Rn (D + 1) 69 54 [some (vR 0), some (vI a), some (vI b), some (vI (nI c)), some (vI (nI i))] [] (mL zz (nI (cnt c 1)) (nI (cnt c 2)) W f) (some (vI (fk c t)), mL zz (nI (cnt c 1)) (nI (cnt c 2)) W f) := by
  have e0 : W c = Vc c := by rw [hW c (Nat.le_refl _) hc, if_pos ha]
  intro t
  induction t with
  | zero =>
    intro i hi
    obtain rfl : i = 9 := by omega
    exact gr_l9
  | succ t ih =>
    intro i hi
    have hi9 : i < 9 := by omega
    have e8 : 8 - t = i := by omega
    have h := ih (i + 1) (by omega)
    by_cases hd : dg c i = 0
    · have hlt := mv_lt hc hi9 hd (wn_12 (fl c))
      have e1 : W (c + wn (fl c) * 3 ^ (8 - i)) = Vc (c + wn (fl c) * 3 ^ (8 - i)) := by
        rw [hW _ (Nat.le_of_lt (mv_gt (wn_12 (fl c)))) hlt, if_pos (alt_mv ha hi9 hd)]
      by_cases he : -(Vc (c + wn (fl c) * 3 ^ (8 - i))) = Vc c
      · rw [fk, e8, if_pos ⟨hd, he⟩]
        exact gr_ly hc hi9 hB ha hd hlt (by rw [e1, e0]; exact he)
      · rw [fk, e8, if_neg (fun q => he q.2)]
        exact gr_ln hc hi9 hB ha hd hlt (by rw [e1, e0]; exact he) h
    · rw [fk, e8, if_neg (fun q => hd q.1)]
      exact gr_lk hi9 hB hd h
theorem fk_9 {c : Nat} (h9 : fl c = 9) : ∀ t, t ≤ 9 → fk c t = -1 := by
  intro t ht
  induction t with
  | zero => rfl
  | succ t ih =>
    rw [fk, if_neg]
    · exact ih (by omega)
    · intro q
      have := fl_lt (c := c) (i := 8 - t) (by omega) q.1
      omega
theorem gr_code {D c : Nat} {U E a b : Int32} {W f : FA} {res : Option PV × QH FA} (hB : Bd f c) (hk : Rn D 69 19 [some (vR 0), some (vI a), some (vI b), some (vI (nI c)), some (vI (nI 9))] [] (mL zz U E W f) res) : ∀ (r k : Nat), k + r = 9 → Rn D 69 19 [some (vR 0), some (vI a), some (vI b), some (vI (nI (c / 3 ^ (9 - k)))), some (vI (nI k))] [] (mL zz U E W f) res := by
  intro r
  induction r with
  | zero =>
    intro k h
    obtain rfl : k = 9 := by omega
    rw [Nat.sub_self, Nat.pow_zero, Nat.div_one]
    exact hk
  | succ r ih =>
    intro k h
    have h' := ih (k + 1) (by omega)
    have e : c / 3 ^ (9 - (k + 1)) = 3 * (c / 3 ^ (9 - k)) + dg c k := by
      have e1 : 9 - k = (8 - k) + 1 := by omega
      have e2 : 9 - (k + 1) = 8 - k := by omega
      rw [e1, e2, Nat.pow_succ, ← Nat.div_div_eq_div_mul]
      unfold dg
      omega
    rw [e] at h'
    exact gr_c (by omega) hB h'
theorem gr_all {U E : Int32} {W f : FA} (a b : Int32) : ∃ U' E' W' f', MC 6 69 [vR 0, vI a, vI b] (mL0 t0 zz U E W f) (some (vI (sp_game a b)), mL zz U' E' W' f') := by
  by_cases hb0 : b < 0
  · refine ⟨U, E, W, f, ?_⟩
    rw [sp_game, if_neg (fun q => q.1.1 hb0)]
    exact gr_b (D := 4) (Or.inl hb0)
  · by_cases hb1 : 1 < b
    · refine ⟨U, E, W, f, ?_⟩
      rw [sp_game, if_neg (fun q => q.1.2 hb1)]
      exact gr_b (D := 4) (Or.inr hb1)
    · by_cases ha : a < 0 ∨ 222222222 < a
      · refine ⟨U, E, W, f, ?_⟩
        rw [sp_game, if_neg (fun q => ha.elim q.2.1.1 (fun z => Int32.not_lt.mpr q.2.1.2 z))]
        exact gr_no (D := 4) hb0 hb1 (ig_out (D := 3) ha)
      · have ha0 : ¬ a < 0 := fun q => ha (Or.inl q)
        have ha1 : a ≤ 222222222 := Int32.not_lt.mp (fun q => ha (Or.inr q))
        obtain ⟨A, hA, rfl⟩ : ∃ j : Nat, j ≤ 222222222 ∧ a = nI j := nI_of2 (M := 222222222) (by decide) ha0 ha1
        have e : (nI A).toNatClampNeg = A := nI_clamp (by omega)
        cases hg : gok A with
        | false =>
          obtain ⟨U', E', f', hG⟩ := ig_no (zz := zz) (D := 2) (U := U) (E := E) (W := W) (f := f) hA hg
          refine ⟨U', E', W, f', ?_⟩
          rw [sp_game, e, if_neg (fun q => by rw [hg] at q; exact absurd q.2.2 (by decide))]
          exact gr_no (D := 4) hb0 hb1 hG
        | true =>
          have hg2 := hg
          simp only [gok, Bool.and_eq_true, ok9, decide_eq_true_eq] at hg2
          have hall := hg2.1
          have hal := hg2.2.1
          have hc := cd_lt hall
          obtain ⟨f1, hB1, hG⟩ := ig_ok (zz := zz) (D := 2) (U := U) (E := E) (W := W) (f := f) hA hg
          obtain ⟨U2, E2, W2, f2, hW, hF⟩ := r_finds (zz := zz) (D := 1) (U := nI (cnt (cd A) 1)) (E := nI (cnt (cd A) 2)) (W := W) (f := f1) hc
          obtain ⟨f3, hB3, hN⟩ := r_n3 (zz := zz) (D := 4) (U := U2) (E := E2) (W := W2) (f := f2) hc
          refine ⟨nI (cnt (cd A) 1), nI (cnt (cd A) 2), W2, f3, ?_⟩
          rw [sp_game, e, if_pos ⟨⟨hb0, hb1⟩, ⟨ha0, ha1⟩, hg⟩]
          refine mc_of rfl (gr_pre (D := 4) hb0 hb1 hG ?_)
          have hz : cd A / 3 ^ (9 - 0) = 0 := Nat.div_eq_of_lt hc
          suffices hfin : Rn 5 69 40 [some (vR 0), some (vI (nI A)), some (vI b), some (vI (nI (cd A))), some (vI (nI 9))] [] (mL zz (nI (cnt (cd A) 1)) (nI (cnt (cd A) 2)) W2 f3) (some (vI (if b = 0 then Vc (cd A) else fst9 (cd A))), mL zz (nI (cnt (cd A) 1)) (nI (cnt (cd A) 2)) W2 f3) from by
            have hcode := gr_code (zz := zz) (D := 5) (a := nI A) (b := b) hB1 (gr_m hF hN hfin) 9 0 rfl
            rw [hz] at hcode
            exact hcode
          · by_cases hb : b = 0
            · rw [if_pos hb, show Vc (cd A) = W2 (cd A) by rw [hW _ (Nat.le_refl _) hc, if_pos hal]]
              exact gr_v hc hb
            · rw [if_neg hb]
              by_cases h1 : three (cd A) 1 = true
              · rw [fst9, if_pos (Or.inl h1)]
                exact gr_o hb (ov_1 (D := 2) hB3 h1)
              · by_cases h2 : three (cd A) 2 = true
                · rw [fst9, if_pos (Or.inr h2)]
                  exact gr_o hb (ov_2 (D := 2) hB3 (Bool.eq_false_iff.mpr h1) h2)
                · rw [fst9, if_neg (fun q => q.elim h1 h2)]
                  by_cases h9 : fl (cd A) = 9
                  · rw [fk_9 h9 9 (Nat.le_refl _)]
                    exact gr_o hb (ov_3 (D := 2) hB3 (Bool.eq_false_iff.mpr h1) (Bool.eq_false_iff.mpr h2) h9)
                  · exact gr_n hb (ov_4 (D := 2) hB3 (Bool.eq_false_iff.mpr h1) (Bool.eq_false_iff.mpr h2) (by have := fl_le (cd A); omega)) (gr_loop (D := 4) hc hB3 hal hW 9 0 rfl)
