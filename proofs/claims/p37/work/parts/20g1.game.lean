def oXg (bb : Int32) : QE FA := .inr (11, [vR 4, vR 33, vI bb, vR 62, vR 82, vR 86, vR 95, vR 99, vR 89, vR 92, vR 0])
abbrev gL (bb : Int32) (K f : FA) (s l : Int32) : QH FA := [.inr (2, [vR 1, vR 2, vI s, vI l]), .inl (.inl (0, 1231, K)), .inl (.inl (0, 9, f)), oXg bb]
variable {bb : Int32}
def pm_g : List Nat := [92, 93, 94, 0, 1, 2, 3, 4, 5, 6, 7, 8, 9, 10, 11, 12, 13, 14, 15, 16, 17, 18, 19, 20, 21, 22, 23, 24, 25, 26, 27, 28, 29, 30, 31, 32, 33, 34, 35, 36, 37, 38, 39, 40, 41, 42, 43, 44, 45, 46, 47, 48, 49, 50, 51, 52, 53, 54, 55, 56, 57, 58, 59, 60, 61, 62, 63, 64, 65, 66, 67, 68, 69, 70, 71, 72, 73, 74, 75, 76, 77, 78, 79, 80, 81, 82, 83, 84, 85, 86, 87, 88, 89, 90, 91, 95, 96, 97, 98, 99, 100, 101, 102]
theorem bq_36_7 (d Fu F : Nat) (x y : Int32) (ls : List (Option PV)) (st : List PV) (L : QH FA) : rnF Fu d 36 (F + 1) 7 ls (vI y :: vI x :: st) L = bif pcmp 3 x y then rnF Fu d 36 F 40 ls st L else rnF Fu d 36 F 8 ls st L := rfl
theorem bq_36_15 (d Fu F : Nat) (x y : Int32) (ls : List (Option PV)) (st : List PV) (L : QH FA) : rnF Fu d 36 (F + 1) 15 ls (vI y :: vI x :: st) L = bif pcmp 1 x y then rnF Fu d 36 F 38 ls st L else rnF Fu d 36 F 16 ls st L := rfl
theorem bq_36_25 (d Fu F : Nat) (x y : Int32) (ls : List (Option PV)) (st : List PV) (L : QH FA) : rnF Fu d 36 (F + 1) 25 ls (vI y :: vI x :: st) L = bif pcmp 1 x y then rnF Fu d 36 F 38 ls st L else rnF Fu d 36 F 26 ls st L := rfl
theorem bq_36_35 (d Fu F : Nat) (x y : Int32) (ls : List (Option PV)) (st : List PV) (L : QH FA) : rnF Fu d 36 (F + 1) 35 ls (vI y :: vI x :: st) L = bif pcmp 1 x y then rnF Fu d 36 F 38 ls st L else rnF Fu d 36 F 36 ls st L := rfl
theorem bq_39_5 (d Fu F : Nat) (x : Int32) (ls : List (Option PV)) (st : List PV) (L : QH FA) : rnF Fu d 39 (F + 1) 5 ls (vI x :: st) L = bif pcmp 2 x 0 then rnF Fu d 39 F 11 ls st L else rnF Fu d 39 F 6 ls st L := rfl
theorem bq_39_10 (d Fu F : Nat) (x y : Int32) (ls : List (Option PV)) (st : List PV) (L : QH FA) : rnF Fu d 39 (F + 1) 10 ls (vI y :: vI x :: st) L = bif pcmp 2 x y then rnF Fu d 39 F 13 ls st L else rnF Fu d 39 F 11 ls st L := rfl
theorem bq_42_5 (d Fu F : Nat) (x : Int32) (ls : List (Option PV)) (st : List PV) (L : QH FA) : rnF Fu d 42 (F + 1) 5 ls (vI x :: st) L = bif pcmp 2 x 0 then rnF Fu d 42 F 27 ls st L else rnF Fu d 42 F 6 ls st L := rfl
theorem bq_42_10 (d Fu F : Nat) (x y : Int32) (ls : List (Option PV)) (st : List PV) (L : QH FA) : rnF Fu d 42 (F + 1) 10 ls (vI y :: vI x :: st) L = bif pcmp 3 x y then rnF Fu d 42 F 27 ls st L else rnF Fu d 42 F 11 ls st L := rfl
theorem bq_41_1 (d Fu F : Nat) (x : Int32) (ls : List (Option PV)) (st : List PV) (L : QH FA) : rnF Fu d 41 (F + 1) 1 ls (vI x :: st) L = bif pcmp 2 x 0 then rnF Fu d 41 F 8 ls st L else rnF Fu d 41 F 2 ls st L := rfl
theorem bq_41_4 (d Fu F : Nat) (x y : Int32) (ls : List (Option PV)) (st : List PV) (L : QH FA) : rnF Fu d 41 (F + 1) 4 ls (vI y :: vI x :: st) L = bif pcmp 3 x y then rnF Fu d 41 F 8 ls st L else rnF Fu d 41 F 5 ls st L := rfl
theorem bq_41_7 (d Fu F : Nat) (x y : Int32) (ls : List (Option PV)) (st : List PV) (L : QH FA) : rnF Fu d 41 (F + 1) 7 ls (vI y :: vI x :: st) L = bif pcmp 2 x y then rnF Fu d 41 F 10 ls st L else rnF Fu d 41 F 8 ls st L := rfl
theorem cq_41_11 (call : QC FA) (F : Nat) (x0 : Int32) (ls : List (Option PV)) (K f : FA) (s l : Int32) : run (mK rdF wrF fzF call 41) (F + 1) 11 ls [vI x0] (gL bb K f s l) = cbind (call 40 [vI x0] (gL bb K f s l)) (fun r L' => run (mK rdF wrF fzF call 41) F 12 ls (r.toList ++ []) L') := pcS (As := [vI x0]) rfl rfl
theorem cq_41_29 (call : QC FA) (F : Nat) (x1 : Int32) (x2 : Int32) (ls : List (Option PV)) (K f : FA) (s l : Int32) : run (mK rdF wrF fzF call 41) (F + 1) 29 ls [vI x2, vI x1, vR 0] (gL bb K f s l) = cbind (call 38 [vR 0, vI x1, vI x2] (gL bb K f s l)) (fun r L' => run (mK rdF wrF fzF call 41) F 30 ls (r.toList ++ []) L') := pcV (ih := run (mK rdF wrF fzF call 41) F) (call := call) (a := 38) (b := 2) (v := 2) (t := 30) (x := 0) (ls := ls) (As := [vI x1, vI x2]) (st' := []) (L := (gL bb K f s l)) rfl rfl rfl
theorem cq_38_62 (call : QC FA) (F : Nat) (x1 : Int32) (x2 : Int32) (ls : List (Option PV)) (K f : FA) (s l : Int32) : run (mK rdF wrF fzF call 38) (F + 1) 62 ls [vI x2, vI x1, vR 0] (gL bb K f s l) = cbind (call 42 [vR 0, vI x1, vI x2] (gL bb K f s l)) (fun r L' => run (mK rdF wrF fzF call 38) F 63 ls (r.toList ++ []) L') := pcV (ih := run (mK rdF wrF fzF call 38) F) (call := call) (a := 42) (b := 2) (v := 2) (t := 63) (x := 0) (ls := ls) (As := [vI x1, vI x2]) (st' := []) (L := (gL bb K f s l)) rfl rfl rfl
theorem cq_38_2 (call : QC FA) (F : Nat) (x1 : Int32) (ls : List (Option PV)) (K f : FA) (s l : Int32) : run (mK rdF wrF fzF call 38) (F + 1) 2 ls [vI x1, vR 0] (gL bb K f s l) = cbind (call 39 [vR 0, vI x1] (gL bb K f s l)) (fun r L' => run (mK rdF wrF fzF call 38) F 3 ls (r.toList ++ []) L') := pcV (ih := run (mK rdF wrF fzF call 38) F) (call := call) (a := 39) (b := 1) (v := 2) (t := 3) (x := 0) (ls := ls) (As := [vI x1]) (st' := []) (L := (gL bb K f s l)) rfl rfl rfl
theorem bq_38_6 (d Fu F : Nat) (x y : Int32) (ls : List (Option PV)) (st : List PV) (L : QH FA) : rnF Fu d 38 (F + 1) 6 ls (vI y :: vI x :: st) L = bif pcmp 0 x y then rnF Fu d 38 F 9 ls st L else rnF Fu d 38 F 7 ls st L := rfl
theorem cq_38_10 (call : QC FA) (F : Nat) (x0 : Int32) (ls : List (Option PV)) (K f : FA) (s l : Int32) : run (mK rdF wrF fzF call 38) (F + 1) 10 ls [vI x0] (gL bb K f s l) = cbind (call 40 [vI x0] (gL bb K f s l)) (fun r L' => run (mK rdF wrF fzF call 38) F 11 ls (r.toList ++ []) L') := pcS (As := [vI x0]) rfl rfl
theorem cq_38_14 (call : QC FA) (F : Nat) (x1 : Int32) (ls : List (Option PV)) (K f : FA) (s l : Int32) : run (mK rdF wrF fzF call 38) (F + 1) 14 ls [vI x1, vR 0] (gL bb K f s l) = cbind (call 36 [vR 0, vI x1] (gL bb K f s l)) (fun r L' => run (mK rdF wrF fzF call 38) F 15 ls (r.toList ++ []) L') := pcV (ih := run (mK rdF wrF fzF call 38) F) (call := call) (a := 36) (b := 1) (v := 2) (t := 15) (x := 0) (ls := ls) (As := [vI x1]) (st' := []) (L := (gL bb K f s l)) rfl rfl rfl
theorem bq_38_15 (d Fu F : Nat) (x : Int32) (ls : List (Option PV)) (st : List PV) (L : QH FA) : rnF Fu d 38 (F + 1) 15 ls (vI x :: st) L = bif pcmp 0 x 0 then rnF Fu d 38 F 19 ls st L else rnF Fu d 38 F 16 ls st L := rfl
theorem cq_38_23 (call : QC FA) (F : Nat) (x1 : Int32) (ls : List (Option PV)) (K f : FA) (s l : Int32) : run (mK rdF wrF fzF call 38) (F + 1) 23 ls [vI x1, vR 0] (gL bb K f s l) = cbind (call 36 [vR 0, vI x1] (gL bb K f s l)) (fun r L' => run (mK rdF wrF fzF call 38) F 24 ls (r.toList ++ []) L') := pcV (ih := run (mK rdF wrF fzF call 38) F) (call := call) (a := 36) (b := 1) (v := 2) (t := 24) (x := 0) (ls := ls) (As := [vI x1]) (st' := []) (L := (gL bb K f s l)) rfl rfl rfl
theorem bq_38_24 (d Fu F : Nat) (x : Int32) (ls : List (Option PV)) (st : List PV) (L : QH FA) : rnF Fu d 38 (F + 1) 24 ls (vI x :: st) L = bif pcmp 0 x 0 then rnF Fu d 38 F 28 ls st L else rnF Fu d 38 F 25 ls st L := rfl
theorem bq_38_30 (d Fu F : Nat) (x y : Int32) (ls : List (Option PV)) (st : List PV) (L : QH FA) : rnF Fu d 38 (F + 1) 30 ls (vI y :: vI x :: st) L = bif pcmp 2 x y then rnF Fu d 38 F 34 ls st L else rnF Fu d 38 F 31 ls st L := rfl
theorem bq_38_40 (d Fu F : Nat) (x y : Int32) (ls : List (Option PV)) (st : List PV) (L : QH FA) : rnF Fu d 38 (F + 1) 40 ls (vI y :: vI x :: st) L = bif pcmp 3 x y then rnF Fu d 38 F 59 ls st L else rnF Fu d 38 F 41 ls st L := rfl
theorem bq_38_43 (d Fu F : Nat) (x y : Int32) (ls : List (Option PV)) (st : List PV) (L : QH FA) : rnF Fu d 38 (F + 1) 43 ls (vI y :: vI x :: st) L = bif pcmp 3 x y then rnF Fu d 38 F 59 ls st L else rnF Fu d 38 F 44 ls st L := rfl
theorem bq_38_48 (d Fu F : Nat) (x : Int32) (ls : List (Option PV)) (st : List PV) (L : QH FA) : rnF Fu d 38 (F + 1) 48 ls (vI x :: st) L = bif pcmp 1 x 0 then rnF Fu d 38 F 57 ls st L else rnF Fu d 38 F 49 ls st L := rfl
theorem cq_38_54 (call : QC FA) (F : Nat) (x1 : Int32) (x2 : Int32) (x3 : Int32) (v0 : PV) (ls : List (Option PV)) (K f : FA) (s l : Int32) : run (mK rdF wrF fzF call 38) (F + 1) 54 ls [vI x3, vI x2, vI x1, vR 0, v0] (gL bb K f s l) = cbind (call 41 [vR 0, vI x1, vI x2, vI x3] (gL bb K f s l)) (fun r L' => run (mK rdF wrF fzF call 38) F 55 ls (r.toList ++ [v0]) L') := pcV (ih := run (mK rdF wrF fzF call 38) F) (call := call) (a := 41) (b := 3) (v := 2) (t := 55) (x := 0) (ls := ls) (As := [vI x1, vI x2, vI x3]) (st' := [v0]) (L := (gL bb K f s l)) rfl rfl rfl
theorem mq_38_55 (call : QC FA) (F : Nat) (x y : Int32) (ls : List (Option PV)) (L : QH FA) : run (mK rdF wrF fzF call 38) (F + 1) 55 ls (vI y :: vI x :: []) L = bif Nat.ble ([] : List PV).length 8 then (bif pcmp 2 x y then run (mK rdF wrF fzF call 38) F 56 ls (vI y :: []) L else run (mK rdF wrF fzF call 38) F 56 ls (vI x :: []) L) else none := rfl
theorem rn_fin {d k i : Nat} {ls : List (Option PV)} {st : List PV} {L : QH FA} {x y : Int32} (hs : ∀ Fu F, rnF Fu d k (F + 1) i ls st L = some (some (vI x), L)) (e : x = y) : Rn d k i ls st L (some (vI y), L) := by
  subst e
  exact rn_ret hs
theorem gix_nI {k : Nat} (h : k < 2147483648) : ix (nI k) = k := by
  show (BitVec.ofNat 32 k).toNat = k
  rw [BitVec.toNat_ofNat]
  exact Nat.mod_eq_of_lt (by omega)
theorem gpin_nI {k N : Nat} (h : k < N) (hN : N < 2147483648) : (Nat.beq 0 0 && pin (nI k) N) = true := by
  show pin (nI k) N = true
  unfold pin
  rw [gix_nI (by omega), Bool.and_eq_true, Nat.blt_eq, Nat.blt_eq]
  omega
theorem g_who (d m : Nat) (L : QH FA) (hm : m < 10) : MC (d + 1) 40 [vI (nI m)] L (some (vI (nI (wn m))), L) := by
  rcases (show m = 0 ∨ m = 1 ∨ m = 2 ∨ m = 3 ∨ m = 4 ∨ m = 5 ∨ m = 6 ∨ m = 7 ∨ m = 8 ∨ m = 9 by omega) with rfl | rfl | rfl | rfl | rfl | rfl | rfl | rfl | rfl | rfl <;> exact ⟨20, fun Fu hF => by
    obtain ⟨F, rfl⟩ : ∃ F, Fu = F + 20 := ⟨Fu - 20, by omega⟩
    rfl⟩
theorem gnI_inj {a b : Nat} (ha : a < 10) (hb : b < 10) : nI a = nI b ↔ a = b := nI_eq (by omega) (by omega)
def tfrom (c w : Nat) : Nat → Bool
  | 0 => false
  | n + 1 => (match 8 - (n + 1) with
    | 0 => tri c w 0 1 2
    | 1 => tri c w 3 4 5
    | 2 => tri c w 6 7 8
    | 3 => tri c w 0 3 6
    | 4 => tri c w 1 4 7
    | 5 => tri c w 2 5 8
    | 6 => tri c w 0 4 8
    | _ => tri c w 2 4 6) || tfrom c w n
theorem tfrom_8 (c w : Nat) : tfrom c w 8 = three c w := by
  unfold three
  simp only [tfrom, Nat.reduceAdd, Nat.reduceSub, Bool.or_false]
section GThree
variable {d c w : Nat} {K f : FA} {s l : Int32}
theorem h3_8 (hT : three c w = false) : Rn d 36 2 [some (vR 0), some (vI (nI w)), some (vI 24)] [] (gL bb K f s l) (some (vI (bzb (three c w))), gL bb K f s l) := by
  refine rb (i' := 7) (ls' := [some (vR 0), some (vI (nI w)), some (vI 24)]) (st' := [vI (Int32.ofNat 24), vI (24 + 2)]) (L' := (gL bb K f s l)) 5 (fun _ _ => rfl) ?_
  refine rn_if (b := 3) (x := 24 + 2) (y := Int32.ofNat 24) (it := 40) (ie := 8) (ls' := [some (vR 0), some (vI (nI w)), some (vI 24)]) (st' := []) (fun Fu F => bq_36_7 _ Fu F _ _ _ _ _) (fun _ => ?_) (fun k1 => absurd (show (Int32.ofNat 24 : Int32) ≤ (24 + 2 : Int32) from by decide +kernel) (of_decide_eq_false (cmp_ge.symm.trans k1)))
  refine rb (i' := 41) (ls' := [some (vR 0), some (vI (nI w)), some (vI 24)]) (st' := [vI 0]) (L' := (gL bb K f s l)) 1 (fun _ _ => rfl) ?_
  exact rn_fin (fun _ _ => rfl) (by rw [hT]; rfl)
theorem h3_7 (hB : Bd f c) (hw : w < 3) (hT : tfrom c w 8 = tfrom c w 1) : Rn d 36 2 [some (vR 0), some (vI (nI w)), some (vI 21)] [] (gL bb K f s l) (some (vI (bzb (three c w))), gL bb K f s l) := by
  refine rb (i' := 7) (ls' := [some (vR 0), some (vI (nI w)), some (vI 21)]) (st' := [vI (Int32.ofNat 24), vI (21 + 2)]) (L' := (gL bb K f s l)) 5 (fun _ _ => rfl) ?_
  refine rn_if (b := 3) (x := 21 + 2) (y := Int32.ofNat 24) (it := 40) (ie := 8) (ls' := [some (vR 0), some (vI (nI w)), some (vI 21)]) (st' := []) (fun Fu F => bq_36_7 _ Fu F _ _ _ _ _) (fun k1 => absurd (of_decide_eq_true (cmp_ge.symm.trans k1)) (show ¬ ((Int32.ofNat 24 : Int32) ≤ (21 + 2 : Int32)) from by decide +kernel)) (fun _ => ?_)
  refine rb (i' := 12) (ls' := [some (vR 0), some (vI (nI w)), some (vI 21)]) (st' := [vI 21, vS 2, vR 2]) (L' := (gL bb K f s l)) 4 (fun _ _ => rfl) ?_
  refine rb (i' := 13) (ls' := [some (vR 0), some (vI (nI w)), some (vI 21)]) (st' := [vI 2, vR 2]) (L' := (gL bb K f s l)) 1 (fun _ _ => rfl) ?_
  refine rb (i' := 14) (ls' := [some (vR 0), some (vI (nI w)), some (vI 21)]) (st' := [vI (f 2)]) (L' := (gL bb K f s l)) 1 (fun _ _ => rfl) ?_
  refine rn_top (x := f 2) (y := nI (dg c 2)) (hB 2 (by decide)) ?_
  refine rb (i' := 15) (ls' := [some (vR 0), some (vI (nI w)), some (vI 21)]) (st' := [vI (nI w), vI (nI (dg c 2))]) (L' := (gL bb K f s l)) 1 (fun _ _ => rfl) ?_
  refine rn_if (b := 1) (x := nI (dg c 2)) (y := nI w) (it := 38) (ie := 16) (ls' := [some (vR 0), some (vI (nI w)), some (vI 21)]) (st' := []) (fun Fu F => bq_36_15 _ Fu F _ _ _ _ _) (fun q1 => ?_) (fun q1 => ?_)
  · have q1 := of_decide_eq_true (cmp_ne.symm.trans q1)
    have e : tri c w 2 4 6 = false := by
      unfold tri
      have hne : Nat.beq (dg c 2) w = false := Bool.eq_false_iff.mpr (fun z => q1 (congrArg nI (Nat.eq_of_beq_eq_true z)))
      simp [hne]
    refine rb (i' := 2) (ls' := [some (vR 0), some (vI (nI w)), some (vI 24)]) (st' := []) (L' := gL bb K f s l) 2 (fun _ _ => rfl) ?_
    exact h3_8 (by rw [← tfrom_8, hT]; show (tri c w 2 4 6 || _) = _; rw [e]; rfl)
  · have q1 := of_decide_eq_false (cmp_ne.symm.trans q1)
    refine rb (i' := 22) (ls' := [some (vR 0), some (vI (nI w)), some (vI 21)]) (st' := [vI (21 + 1), vS 2, vR 2]) (L' := (gL bb K f s l)) 6 (fun _ _ => rfl) ?_
    refine rb (i' := 23) (ls' := [some (vR 0), some (vI (nI w)), some (vI 21)]) (st' := [vI 4, vR 2]) (L' := (gL bb K f s l)) 1 (fun _ _ => rfl) ?_
    refine rb (i' := 24) (ls' := [some (vR 0), some (vI (nI w)), some (vI 21)]) (st' := [vI (f 4)]) (L' := (gL bb K f s l)) 1 (fun _ _ => rfl) ?_
    refine rn_top (x := f 4) (y := nI (dg c 4)) (hB 4 (by decide)) ?_
    refine rb (i' := 25) (ls' := [some (vR 0), some (vI (nI w)), some (vI 21)]) (st' := [vI (nI w), vI (nI (dg c 4))]) (L' := (gL bb K f s l)) 1 (fun _ _ => rfl) ?_
    refine rn_if (b := 1) (x := nI (dg c 4)) (y := nI w) (it := 38) (ie := 26) (ls' := [some (vR 0), some (vI (nI w)), some (vI 21)]) (st' := []) (fun Fu F => bq_36_25 _ Fu F _ _ _ _ _) (fun q2 => ?_) (fun q2 => ?_)
    · have q2 := of_decide_eq_true (cmp_ne.symm.trans q2)
      have e : tri c w 2 4 6 = false := by
        unfold tri
        have hne : Nat.beq (dg c 4) w = false := Bool.eq_false_iff.mpr (fun z => q2 (congrArg nI (Nat.eq_of_beq_eq_true z)))
        simp [hne]
      refine rb (i' := 2) (ls' := [some (vR 0), some (vI (nI w)), some (vI 24)]) (st' := []) (L' := gL bb K f s l) 2 (fun _ _ => rfl) ?_
      exact h3_8 (by rw [← tfrom_8, hT]; show (tri c w 2 4 6 || _) = _; rw [e]; rfl)
    · have q2 := of_decide_eq_false (cmp_ne.symm.trans q2)
      refine rb (i' := 32) (ls' := [some (vR 0), some (vI (nI w)), some (vI 21)]) (st' := [vI (21 + 2), vS 2, vR 2]) (L' := (gL bb K f s l)) 6 (fun _ _ => rfl) ?_
      refine rb (i' := 33) (ls' := [some (vR 0), some (vI (nI w)), some (vI 21)]) (st' := [vI 6, vR 2]) (L' := (gL bb K f s l)) 1 (fun _ _ => rfl) ?_
      refine rb (i' := 34) (ls' := [some (vR 0), some (vI (nI w)), some (vI 21)]) (st' := [vI (f 6)]) (L' := (gL bb K f s l)) 1 (fun _ _ => rfl) ?_
      refine rn_top (x := f 6) (y := nI (dg c 6)) (hB 6 (by decide)) ?_
      refine rb (i' := 35) (ls' := [some (vR 0), some (vI (nI w)), some (vI 21)]) (st' := [vI (nI w), vI (nI (dg c 6))]) (L' := (gL bb K f s l)) 1 (fun _ _ => rfl) ?_
      refine rn_if (b := 1) (x := nI (dg c 6)) (y := nI w) (it := 38) (ie := 36) (ls' := [some (vR 0), some (vI (nI w)), some (vI 21)]) (st' := []) (fun Fu F => bq_36_35 _ Fu F _ _ _ _ _) (fun q3 => ?_) (fun q3 => ?_)
      · have q3 := of_decide_eq_true (cmp_ne.symm.trans q3)
        have e : tri c w 2 4 6 = false := by
          unfold tri
          have hne : Nat.beq (dg c 6) w = false := Bool.eq_false_iff.mpr (fun z => q3 (congrArg nI (Nat.eq_of_beq_eq_true z)))
          simp [hne]
        refine rb (i' := 2) (ls' := [some (vR 0), some (vI (nI w)), some (vI 24)]) (st' := []) (L' := gL bb K f s l) 2 (fun _ _ => rfl) ?_
        exact h3_8 (by rw [← tfrom_8, hT]; show (tri c w 2 4 6 || _) = _; rw [e]; rfl)
      · have q3 := of_decide_eq_false (cmp_ne.symm.trans q3)
        refine rb (i' := 37) (ls' := [some (vR 0), some (vI (nI w)), some (vI 21)]) (st' := [vI 1]) (L' := (gL bb K f s l)) 1 (fun _ _ => rfl) ?_
        refine rn_fin (fun _ _ => rfl) ?_
        have e : tri c w 2 4 6 = true := by
          unfold tri
          rw [(gnI_inj (by have := dg_lt c 2; omega) (by omega)).mp (Decidable.of_not_not q1), (gnI_inj (by have := dg_lt c 4; omega) (by omega)).mp (Decidable.of_not_not q2), (gnI_inj (by have := dg_lt c 6; omega) (by omega)).mp (Decidable.of_not_not q3)]
          simp
        have e2 : three c w = true := by
          rw [← tfrom_8, hT]
          show (tri c w 2 4 6 || _) = true
          rw [e]
          rfl
        rw [e2]
        rfl
theorem h3_6 (hB : Bd f c) (hw : w < 3) (hT : tfrom c w 8 = tfrom c w 2) : Rn d 36 2 [some (vR 0), some (vI (nI w)), some (vI 18)] [] (gL bb K f s l) (some (vI (bzb (three c w))), gL bb K f s l) := by
  refine rb (i' := 7) (ls' := [some (vR 0), some (vI (nI w)), some (vI 18)]) (st' := [vI (Int32.ofNat 24), vI (18 + 2)]) (L' := (gL bb K f s l)) 5 (fun _ _ => rfl) ?_
  refine rn_if (b := 3) (x := 18 + 2) (y := Int32.ofNat 24) (it := 40) (ie := 8) (ls' := [some (vR 0), some (vI (nI w)), some (vI 18)]) (st' := []) (fun Fu F => bq_36_7 _ Fu F _ _ _ _ _) (fun k1 => absurd (of_decide_eq_true (cmp_ge.symm.trans k1)) (show ¬ ((Int32.ofNat 24 : Int32) ≤ (18 + 2 : Int32)) from by decide +kernel)) (fun _ => ?_)
  refine rb (i' := 12) (ls' := [some (vR 0), some (vI (nI w)), some (vI 18)]) (st' := [vI 18, vS 2, vR 2]) (L' := (gL bb K f s l)) 4 (fun _ _ => rfl) ?_
  refine rb (i' := 13) (ls' := [some (vR 0), some (vI (nI w)), some (vI 18)]) (st' := [vI 0, vR 2]) (L' := (gL bb K f s l)) 1 (fun _ _ => rfl) ?_
  refine rb (i' := 14) (ls' := [some (vR 0), some (vI (nI w)), some (vI 18)]) (st' := [vI (f 0)]) (L' := (gL bb K f s l)) 1 (fun _ _ => rfl) ?_
  refine rn_top (x := f 0) (y := nI (dg c 0)) (hB 0 (by decide)) ?_
  refine rb (i' := 15) (ls' := [some (vR 0), some (vI (nI w)), some (vI 18)]) (st' := [vI (nI w), vI (nI (dg c 0))]) (L' := (gL bb K f s l)) 1 (fun _ _ => rfl) ?_
  refine rn_if (b := 1) (x := nI (dg c 0)) (y := nI w) (it := 38) (ie := 16) (ls' := [some (vR 0), some (vI (nI w)), some (vI 18)]) (st' := []) (fun Fu F => bq_36_15 _ Fu F _ _ _ _ _) (fun q1 => ?_) (fun q1 => ?_)
  · have q1 := of_decide_eq_true (cmp_ne.symm.trans q1)
    have e : tri c w 0 4 8 = false := by
      unfold tri
      have hne : Nat.beq (dg c 0) w = false := Bool.eq_false_iff.mpr (fun z => q1 (congrArg nI (Nat.eq_of_beq_eq_true z)))
      simp [hne]
    refine rb (i' := 2) (ls' := [some (vR 0), some (vI (nI w)), some (vI 21)]) (st' := []) (L' := gL bb K f s l) 2 (fun _ _ => rfl) ?_
    exact h3_7 hB hw (by rw [hT]; show (tri c w 0 4 8 || _) = _; rw [e]; rfl)
  · have q1 := of_decide_eq_false (cmp_ne.symm.trans q1)
    refine rb (i' := 22) (ls' := [some (vR 0), some (vI (nI w)), some (vI 18)]) (st' := [vI (18 + 1), vS 2, vR 2]) (L' := (gL bb K f s l)) 6 (fun _ _ => rfl) ?_
    refine rb (i' := 23) (ls' := [some (vR 0), some (vI (nI w)), some (vI 18)]) (st' := [vI 4, vR 2]) (L' := (gL bb K f s l)) 1 (fun _ _ => rfl) ?_
    refine rb (i' := 24) (ls' := [some (vR 0), some (vI (nI w)), some (vI 18)]) (st' := [vI (f 4)]) (L' := (gL bb K f s l)) 1 (fun _ _ => rfl) ?_
    refine rn_top (x := f 4) (y := nI (dg c 4)) (hB 4 (by decide)) ?_
    refine rb (i' := 25) (ls' := [some (vR 0), some (vI (nI w)), some (vI 18)]) (st' := [vI (nI w), vI (nI (dg c 4))]) (L' := (gL bb K f s l)) 1 (fun _ _ => rfl) ?_
    refine rn_if (b := 1) (x := nI (dg c 4)) (y := nI w) (it := 38) (ie := 26) (ls' := [some (vR 0), some (vI (nI w)), some (vI 18)]) (st' := []) (fun Fu F => bq_36_25 _ Fu F _ _ _ _ _) (fun q2 => ?_) (fun q2 => ?_)
    · have q2 := of_decide_eq_true (cmp_ne.symm.trans q2)
      have e : tri c w 0 4 8 = false := by
        unfold tri
        have hne : Nat.beq (dg c 4) w = false := Bool.eq_false_iff.mpr (fun z => q2 (congrArg nI (Nat.eq_of_beq_eq_true z)))
        simp [hne]
      refine rb (i' := 2) (ls' := [some (vR 0), some (vI (nI w)), some (vI 21)]) (st' := []) (L' := gL bb K f s l) 2 (fun _ _ => rfl) ?_
      exact h3_7 hB hw (by rw [hT]; show (tri c w 0 4 8 || _) = _; rw [e]; rfl)
    · have q2 := of_decide_eq_false (cmp_ne.symm.trans q2)
      refine rb (i' := 32) (ls' := [some (vR 0), some (vI (nI w)), some (vI 18)]) (st' := [vI (18 + 2), vS 2, vR 2]) (L' := (gL bb K f s l)) 6 (fun _ _ => rfl) ?_
      refine rb (i' := 33) (ls' := [some (vR 0), some (vI (nI w)), some (vI 18)]) (st' := [vI 8, vR 2]) (L' := (gL bb K f s l)) 1 (fun _ _ => rfl) ?_
      refine rb (i' := 34) (ls' := [some (vR 0), some (vI (nI w)), some (vI 18)]) (st' := [vI (f 8)]) (L' := (gL bb K f s l)) 1 (fun _ _ => rfl) ?_
      refine rn_top (x := f 8) (y := nI (dg c 8)) (hB 8 (by decide)) ?_
      refine rb (i' := 35) (ls' := [some (vR 0), some (vI (nI w)), some (vI 18)]) (st' := [vI (nI w), vI (nI (dg c 8))]) (L' := (gL bb K f s l)) 1 (fun _ _ => rfl) ?_
      refine rn_if (b := 1) (x := nI (dg c 8)) (y := nI w) (it := 38) (ie := 36) (ls' := [some (vR 0), some (vI (nI w)), some (vI 18)]) (st' := []) (fun Fu F => bq_36_35 _ Fu F _ _ _ _ _) (fun q3 => ?_) (fun q3 => ?_)
      · have q3 := of_decide_eq_true (cmp_ne.symm.trans q3)
        have e : tri c w 0 4 8 = false := by
          unfold tri
          have hne : Nat.beq (dg c 8) w = false := Bool.eq_false_iff.mpr (fun z => q3 (congrArg nI (Nat.eq_of_beq_eq_true z)))
          simp [hne]
        refine rb (i' := 2) (ls' := [some (vR 0), some (vI (nI w)), some (vI 21)]) (st' := []) (L' := gL bb K f s l) 2 (fun _ _ => rfl) ?_
        exact h3_7 hB hw (by rw [hT]; show (tri c w 0 4 8 || _) = _; rw [e]; rfl)
      · have q3 := of_decide_eq_false (cmp_ne.symm.trans q3)
        refine rb (i' := 37) (ls' := [some (vR 0), some (vI (nI w)), some (vI 18)]) (st' := [vI 1]) (L' := (gL bb K f s l)) 1 (fun _ _ => rfl) ?_
        refine rn_fin (fun _ _ => rfl) ?_
        have e : tri c w 0 4 8 = true := by
          unfold tri
          rw [(gnI_inj (by have := dg_lt c 0; omega) (by omega)).mp (Decidable.of_not_not q1), (gnI_inj (by have := dg_lt c 4; omega) (by omega)).mp (Decidable.of_not_not q2), (gnI_inj (by have := dg_lt c 8; omega) (by omega)).mp (Decidable.of_not_not q3)]
          simp
        have e2 : three c w = true := by
          rw [← tfrom_8, hT]
          show (tri c w 0 4 8 || _) = true
          rw [e]
          rfl
        rw [e2]
        rfl
theorem h3_5 (hB : Bd f c) (hw : w < 3) (hT : tfrom c w 8 = tfrom c w 3) : Rn d 36 2 [some (vR 0), some (vI (nI w)), some (vI 15)] [] (gL bb K f s l) (some (vI (bzb (three c w))), gL bb K f s l) := by
  refine rb (i' := 7) (ls' := [some (vR 0), some (vI (nI w)), some (vI 15)]) (st' := [vI (Int32.ofNat 24), vI (15 + 2)]) (L' := (gL bb K f s l)) 5 (fun _ _ => rfl) ?_
  refine rn_if (b := 3) (x := 15 + 2) (y := Int32.ofNat 24) (it := 40) (ie := 8) (ls' := [some (vR 0), some (vI (nI w)), some (vI 15)]) (st' := []) (fun Fu F => bq_36_7 _ Fu F _ _ _ _ _) (fun k1 => absurd (of_decide_eq_true (cmp_ge.symm.trans k1)) (show ¬ ((Int32.ofNat 24 : Int32) ≤ (15 + 2 : Int32)) from by decide +kernel)) (fun _ => ?_)
  refine rb (i' := 12) (ls' := [some (vR 0), some (vI (nI w)), some (vI 15)]) (st' := [vI 15, vS 2, vR 2]) (L' := (gL bb K f s l)) 4 (fun _ _ => rfl) ?_
  refine rb (i' := 13) (ls' := [some (vR 0), some (vI (nI w)), some (vI 15)]) (st' := [vI 2, vR 2]) (L' := (gL bb K f s l)) 1 (fun _ _ => rfl) ?_
  refine rb (i' := 14) (ls' := [some (vR 0), some (vI (nI w)), some (vI 15)]) (st' := [vI (f 2)]) (L' := (gL bb K f s l)) 1 (fun _ _ => rfl) ?_
  refine rn_top (x := f 2) (y := nI (dg c 2)) (hB 2 (by decide)) ?_
  refine rb (i' := 15) (ls' := [some (vR 0), some (vI (nI w)), some (vI 15)]) (st' := [vI (nI w), vI (nI (dg c 2))]) (L' := (gL bb K f s l)) 1 (fun _ _ => rfl) ?_
  refine rn_if (b := 1) (x := nI (dg c 2)) (y := nI w) (it := 38) (ie := 16) (ls' := [some (vR 0), some (vI (nI w)), some (vI 15)]) (st' := []) (fun Fu F => bq_36_15 _ Fu F _ _ _ _ _) (fun q1 => ?_) (fun q1 => ?_)
  · have q1 := of_decide_eq_true (cmp_ne.symm.trans q1)
    have e : tri c w 2 5 8 = false := by
      unfold tri
      have hne : Nat.beq (dg c 2) w = false := Bool.eq_false_iff.mpr (fun z => q1 (congrArg nI (Nat.eq_of_beq_eq_true z)))
      simp [hne]
    refine rb (i' := 2) (ls' := [some (vR 0), some (vI (nI w)), some (vI 18)]) (st' := []) (L' := gL bb K f s l) 2 (fun _ _ => rfl) ?_
    exact h3_6 hB hw (by rw [hT]; show (tri c w 2 5 8 || _) = _; rw [e]; rfl)
  · have q1 := of_decide_eq_false (cmp_ne.symm.trans q1)
    refine rb (i' := 22) (ls' := [some (vR 0), some (vI (nI w)), some (vI 15)]) (st' := [vI (15 + 1), vS 2, vR 2]) (L' := (gL bb K f s l)) 6 (fun _ _ => rfl) ?_
    refine rb (i' := 23) (ls' := [some (vR 0), some (vI (nI w)), some (vI 15)]) (st' := [vI 5, vR 2]) (L' := (gL bb K f s l)) 1 (fun _ _ => rfl) ?_
    refine rb (i' := 24) (ls' := [some (vR 0), some (vI (nI w)), some (vI 15)]) (st' := [vI (f 5)]) (L' := (gL bb K f s l)) 1 (fun _ _ => rfl) ?_
    refine rn_top (x := f 5) (y := nI (dg c 5)) (hB 5 (by decide)) ?_
    refine rb (i' := 25) (ls' := [some (vR 0), some (vI (nI w)), some (vI 15)]) (st' := [vI (nI w), vI (nI (dg c 5))]) (L' := (gL bb K f s l)) 1 (fun _ _ => rfl) ?_
    refine rn_if (b := 1) (x := nI (dg c 5)) (y := nI w) (it := 38) (ie := 26) (ls' := [some (vR 0), some (vI (nI w)), some (vI 15)]) (st' := []) (fun Fu F => bq_36_25 _ Fu F _ _ _ _ _) (fun q2 => ?_) (fun q2 => ?_)
    · have q2 := of_decide_eq_true (cmp_ne.symm.trans q2)
      have e : tri c w 2 5 8 = false := by
        unfold tri
        have hne : Nat.beq (dg c 5) w = false := Bool.eq_false_iff.mpr (fun z => q2 (congrArg nI (Nat.eq_of_beq_eq_true z)))
        simp [hne]
      refine rb (i' := 2) (ls' := [some (vR 0), some (vI (nI w)), some (vI 18)]) (st' := []) (L' := gL bb K f s l) 2 (fun _ _ => rfl) ?_
      exact h3_6 hB hw (by rw [hT]; show (tri c w 2 5 8 || _) = _; rw [e]; rfl)
    · have q2 := of_decide_eq_false (cmp_ne.symm.trans q2)
      refine rb (i' := 32) (ls' := [some (vR 0), some (vI (nI w)), some (vI 15)]) (st' := [vI (15 + 2), vS 2, vR 2]) (L' := (gL bb K f s l)) 6 (fun _ _ => rfl) ?_
      refine rb (i' := 33) (ls' := [some (vR 0), some (vI (nI w)), some (vI 15)]) (st' := [vI 8, vR 2]) (L' := (gL bb K f s l)) 1 (fun _ _ => rfl) ?_
      refine rb (i' := 34) (ls' := [some (vR 0), some (vI (nI w)), some (vI 15)]) (st' := [vI (f 8)]) (L' := (gL bb K f s l)) 1 (fun _ _ => rfl) ?_
      refine rn_top (x := f 8) (y := nI (dg c 8)) (hB 8 (by decide)) ?_
      refine rb (i' := 35) (ls' := [some (vR 0), some (vI (nI w)), some (vI 15)]) (st' := [vI (nI w), vI (nI (dg c 8))]) (L' := (gL bb K f s l)) 1 (fun _ _ => rfl) ?_
      refine rn_if (b := 1) (x := nI (dg c 8)) (y := nI w) (it := 38) (ie := 36) (ls' := [some (vR 0), some (vI (nI w)), some (vI 15)]) (st' := []) (fun Fu F => bq_36_35 _ Fu F _ _ _ _ _) (fun q3 => ?_) (fun q3 => ?_)
      · have q3 := of_decide_eq_true (cmp_ne.symm.trans q3)
        have e : tri c w 2 5 8 = false := by
          unfold tri
          have hne : Nat.beq (dg c 8) w = false := Bool.eq_false_iff.mpr (fun z => q3 (congrArg nI (Nat.eq_of_beq_eq_true z)))
          simp [hne]
        refine rb (i' := 2) (ls' := [some (vR 0), some (vI (nI w)), some (vI 18)]) (st' := []) (L' := gL bb K f s l) 2 (fun _ _ => rfl) ?_
        exact h3_6 hB hw (by rw [hT]; show (tri c w 2 5 8 || _) = _; rw [e]; rfl)
      · have q3 := of_decide_eq_false (cmp_ne.symm.trans q3)
        refine rb (i' := 37) (ls' := [some (vR 0), some (vI (nI w)), some (vI 15)]) (st' := [vI 1]) (L' := (gL bb K f s l)) 1 (fun _ _ => rfl) ?_
        refine rn_fin (fun _ _ => rfl) ?_
        have e : tri c w 2 5 8 = true := by
          unfold tri
          rw [(gnI_inj (by have := dg_lt c 2; omega) (by omega)).mp (Decidable.of_not_not q1), (gnI_inj (by have := dg_lt c 5; omega) (by omega)).mp (Decidable.of_not_not q2), (gnI_inj (by have := dg_lt c 8; omega) (by omega)).mp (Decidable.of_not_not q3)]
          simp
        have e2 : three c w = true := by
          rw [← tfrom_8, hT]
          show (tri c w 2 5 8 || _) = true
          rw [e]
          rfl
        rw [e2]
        rfl
theorem h3_4 (hB : Bd f c) (hw : w < 3) (hT : tfrom c w 8 = tfrom c w 4) : Rn d 36 2 [some (vR 0), some (vI (nI w)), some (vI 12)] [] (gL bb K f s l) (some (vI (bzb (three c w))), gL bb K f s l) := by
  refine rb (i' := 7) (ls' := [some (vR 0), some (vI (nI w)), some (vI 12)]) (st' := [vI (Int32.ofNat 24), vI (12 + 2)]) (L' := (gL bb K f s l)) 5 (fun _ _ => rfl) ?_
  refine rn_if (b := 3) (x := 12 + 2) (y := Int32.ofNat 24) (it := 40) (ie := 8) (ls' := [some (vR 0), some (vI (nI w)), some (vI 12)]) (st' := []) (fun Fu F => bq_36_7 _ Fu F _ _ _ _ _) (fun k1 => absurd (of_decide_eq_true (cmp_ge.symm.trans k1)) (show ¬ ((Int32.ofNat 24 : Int32) ≤ (12 + 2 : Int32)) from by decide +kernel)) (fun _ => ?_)
  refine rb (i' := 12) (ls' := [some (vR 0), some (vI (nI w)), some (vI 12)]) (st' := [vI 12, vS 2, vR 2]) (L' := (gL bb K f s l)) 4 (fun _ _ => rfl) ?_
  refine rb (i' := 13) (ls' := [some (vR 0), some (vI (nI w)), some (vI 12)]) (st' := [vI 1, vR 2]) (L' := (gL bb K f s l)) 1 (fun _ _ => rfl) ?_
  refine rb (i' := 14) (ls' := [some (vR 0), some (vI (nI w)), some (vI 12)]) (st' := [vI (f 1)]) (L' := (gL bb K f s l)) 1 (fun _ _ => rfl) ?_
  refine rn_top (x := f 1) (y := nI (dg c 1)) (hB 1 (by decide)) ?_
  refine rb (i' := 15) (ls' := [some (vR 0), some (vI (nI w)), some (vI 12)]) (st' := [vI (nI w), vI (nI (dg c 1))]) (L' := (gL bb K f s l)) 1 (fun _ _ => rfl) ?_
  refine rn_if (b := 1) (x := nI (dg c 1)) (y := nI w) (it := 38) (ie := 16) (ls' := [some (vR 0), some (vI (nI w)), some (vI 12)]) (st' := []) (fun Fu F => bq_36_15 _ Fu F _ _ _ _ _) (fun q1 => ?_) (fun q1 => ?_)
  · have q1 := of_decide_eq_true (cmp_ne.symm.trans q1)
    have e : tri c w 1 4 7 = false := by
      unfold tri
      have hne : Nat.beq (dg c 1) w = false := Bool.eq_false_iff.mpr (fun z => q1 (congrArg nI (Nat.eq_of_beq_eq_true z)))
      simp [hne]
    refine rb (i' := 2) (ls' := [some (vR 0), some (vI (nI w)), some (vI 15)]) (st' := []) (L' := gL bb K f s l) 2 (fun _ _ => rfl) ?_
    exact h3_5 hB hw (by rw [hT]; show (tri c w 1 4 7 || _) = _; rw [e]; rfl)
  · have q1 := of_decide_eq_false (cmp_ne.symm.trans q1)
    refine rb (i' := 22) (ls' := [some (vR 0), some (vI (nI w)), some (vI 12)]) (st' := [vI (12 + 1), vS 2, vR 2]) (L' := (gL bb K f s l)) 6 (fun _ _ => rfl) ?_
    refine rb (i' := 23) (ls' := [some (vR 0), some (vI (nI w)), some (vI 12)]) (st' := [vI 4, vR 2]) (L' := (gL bb K f s l)) 1 (fun _ _ => rfl) ?_
    refine rb (i' := 24) (ls' := [some (vR 0), some (vI (nI w)), some (vI 12)]) (st' := [vI (f 4)]) (L' := (gL bb K f s l)) 1 (fun _ _ => rfl) ?_
    refine rn_top (x := f 4) (y := nI (dg c 4)) (hB 4 (by decide)) ?_
    refine rb (i' := 25) (ls' := [some (vR 0), some (vI (nI w)), some (vI 12)]) (st' := [vI (nI w), vI (nI (dg c 4))]) (L' := (gL bb K f s l)) 1 (fun _ _ => rfl) ?_
    refine rn_if (b := 1) (x := nI (dg c 4)) (y := nI w) (it := 38) (ie := 26) (ls' := [some (vR 0), some (vI (nI w)), some (vI 12)]) (st' := []) (fun Fu F => bq_36_25 _ Fu F _ _ _ _ _) (fun q2 => ?_) (fun q2 => ?_)
    · have q2 := of_decide_eq_true (cmp_ne.symm.trans q2)
      have e : tri c w 1 4 7 = false := by
        unfold tri
        have hne : Nat.beq (dg c 4) w = false := Bool.eq_false_iff.mpr (fun z => q2 (congrArg nI (Nat.eq_of_beq_eq_true z)))
        simp [hne]
      refine rb (i' := 2) (ls' := [some (vR 0), some (vI (nI w)), some (vI 15)]) (st' := []) (L' := gL bb K f s l) 2 (fun _ _ => rfl) ?_
      exact h3_5 hB hw (by rw [hT]; show (tri c w 1 4 7 || _) = _; rw [e]; rfl)
    · have q2 := of_decide_eq_false (cmp_ne.symm.trans q2)
      refine rb (i' := 32) (ls' := [some (vR 0), some (vI (nI w)), some (vI 12)]) (st' := [vI (12 + 2), vS 2, vR 2]) (L' := (gL bb K f s l)) 6 (fun _ _ => rfl) ?_
      refine rb (i' := 33) (ls' := [some (vR 0), some (vI (nI w)), some (vI 12)]) (st' := [vI 7, vR 2]) (L' := (gL bb K f s l)) 1 (fun _ _ => rfl) ?_
      refine rb (i' := 34) (ls' := [some (vR 0), some (vI (nI w)), some (vI 12)]) (st' := [vI (f 7)]) (L' := (gL bb K f s l)) 1 (fun _ _ => rfl) ?_
      refine rn_top (x := f 7) (y := nI (dg c 7)) (hB 7 (by decide)) ?_
      refine rb (i' := 35) (ls' := [some (vR 0), some (vI (nI w)), some (vI 12)]) (st' := [vI (nI w), vI (nI (dg c 7))]) (L' := (gL bb K f s l)) 1 (fun _ _ => rfl) ?_
      refine rn_if (b := 1) (x := nI (dg c 7)) (y := nI w) (it := 38) (ie := 36) (ls' := [some (vR 0), some (vI (nI w)), some (vI 12)]) (st' := []) (fun Fu F => bq_36_35 _ Fu F _ _ _ _ _) (fun q3 => ?_) (fun q3 => ?_)
      · have q3 := of_decide_eq_true (cmp_ne.symm.trans q3)
        have e : tri c w 1 4 7 = false := by
          unfold tri
          have hne : Nat.beq (dg c 7) w = false := Bool.eq_false_iff.mpr (fun z => q3 (congrArg nI (Nat.eq_of_beq_eq_true z)))
          simp [hne]
        refine rb (i' := 2) (ls' := [some (vR 0), some (vI (nI w)), some (vI 15)]) (st' := []) (L' := gL bb K f s l) 2 (fun _ _ => rfl) ?_
        exact h3_5 hB hw (by rw [hT]; show (tri c w 1 4 7 || _) = _; rw [e]; rfl)
      · have q3 := of_decide_eq_false (cmp_ne.symm.trans q3)
        refine rb (i' := 37) (ls' := [some (vR 0), some (vI (nI w)), some (vI 12)]) (st' := [vI 1]) (L' := (gL bb K f s l)) 1 (fun _ _ => rfl) ?_
        refine rn_fin (fun _ _ => rfl) ?_
        have e : tri c w 1 4 7 = true := by
          unfold tri
          rw [(gnI_inj (by have := dg_lt c 1; omega) (by omega)).mp (Decidable.of_not_not q1), (gnI_inj (by have := dg_lt c 4; omega) (by omega)).mp (Decidable.of_not_not q2), (gnI_inj (by have := dg_lt c 7; omega) (by omega)).mp (Decidable.of_not_not q3)]
          simp
        have e2 : three c w = true := by
          rw [← tfrom_8, hT]
          show (tri c w 1 4 7 || _) = true
          rw [e]
          rfl
        rw [e2]
        rfl
theorem h3_3 (hB : Bd f c) (hw : w < 3) (hT : tfrom c w 8 = tfrom c w 5) : Rn d 36 2 [some (vR 0), some (vI (nI w)), some (vI 9)] [] (gL bb K f s l) (some (vI (bzb (three c w))), gL bb K f s l) := by
  refine rb (i' := 7) (ls' := [some (vR 0), some (vI (nI w)), some (vI 9)]) (st' := [vI (Int32.ofNat 24), vI (9 + 2)]) (L' := (gL bb K f s l)) 5 (fun _ _ => rfl) ?_
  refine rn_if (b := 3) (x := 9 + 2) (y := Int32.ofNat 24) (it := 40) (ie := 8) (ls' := [some (vR 0), some (vI (nI w)), some (vI 9)]) (st' := []) (fun Fu F => bq_36_7 _ Fu F _ _ _ _ _) (fun k1 => absurd (of_decide_eq_true (cmp_ge.symm.trans k1)) (show ¬ ((Int32.ofNat 24 : Int32) ≤ (9 + 2 : Int32)) from by decide +kernel)) (fun _ => ?_)
  refine rb (i' := 12) (ls' := [some (vR 0), some (vI (nI w)), some (vI 9)]) (st' := [vI 9, vS 2, vR 2]) (L' := (gL bb K f s l)) 4 (fun _ _ => rfl) ?_
  refine rb (i' := 13) (ls' := [some (vR 0), some (vI (nI w)), some (vI 9)]) (st' := [vI 0, vR 2]) (L' := (gL bb K f s l)) 1 (fun _ _ => rfl) ?_
  refine rb (i' := 14) (ls' := [some (vR 0), some (vI (nI w)), some (vI 9)]) (st' := [vI (f 0)]) (L' := (gL bb K f s l)) 1 (fun _ _ => rfl) ?_
  refine rn_top (x := f 0) (y := nI (dg c 0)) (hB 0 (by decide)) ?_
  refine rb (i' := 15) (ls' := [some (vR 0), some (vI (nI w)), some (vI 9)]) (st' := [vI (nI w), vI (nI (dg c 0))]) (L' := (gL bb K f s l)) 1 (fun _ _ => rfl) ?_
  refine rn_if (b := 1) (x := nI (dg c 0)) (y := nI w) (it := 38) (ie := 16) (ls' := [some (vR 0), some (vI (nI w)), some (vI 9)]) (st' := []) (fun Fu F => bq_36_15 _ Fu F _ _ _ _ _) (fun q1 => ?_) (fun q1 => ?_)
  · have q1 := of_decide_eq_true (cmp_ne.symm.trans q1)
    have e : tri c w 0 3 6 = false := by
      unfold tri
      have hne : Nat.beq (dg c 0) w = false := Bool.eq_false_iff.mpr (fun z => q1 (congrArg nI (Nat.eq_of_beq_eq_true z)))
      simp [hne]
    refine rb (i' := 2) (ls' := [some (vR 0), some (vI (nI w)), some (vI 12)]) (st' := []) (L' := gL bb K f s l) 2 (fun _ _ => rfl) ?_
    exact h3_4 hB hw (by rw [hT]; show (tri c w 0 3 6 || _) = _; rw [e]; rfl)
  · have q1 := of_decide_eq_false (cmp_ne.symm.trans q1)
    refine rb (i' := 22) (ls' := [some (vR 0), some (vI (nI w)), some (vI 9)]) (st' := [vI (9 + 1), vS 2, vR 2]) (L' := (gL bb K f s l)) 6 (fun _ _ => rfl) ?_
    refine rb (i' := 23) (ls' := [some (vR 0), some (vI (nI w)), some (vI 9)]) (st' := [vI 3, vR 2]) (L' := (gL bb K f s l)) 1 (fun _ _ => rfl) ?_
    refine rb (i' := 24) (ls' := [some (vR 0), some (vI (nI w)), some (vI 9)]) (st' := [vI (f 3)]) (L' := (gL bb K f s l)) 1 (fun _ _ => rfl) ?_
    refine rn_top (x := f 3) (y := nI (dg c 3)) (hB 3 (by decide)) ?_
    refine rb (i' := 25) (ls' := [some (vR 0), some (vI (nI w)), some (vI 9)]) (st' := [vI (nI w), vI (nI (dg c 3))]) (L' := (gL bb K f s l)) 1 (fun _ _ => rfl) ?_
    refine rn_if (b := 1) (x := nI (dg c 3)) (y := nI w) (it := 38) (ie := 26) (ls' := [some (vR 0), some (vI (nI w)), some (vI 9)]) (st' := []) (fun Fu F => bq_36_25 _ Fu F _ _ _ _ _) (fun q2 => ?_) (fun q2 => ?_)
    · have q2 := of_decide_eq_true (cmp_ne.symm.trans q2)
      have e : tri c w 0 3 6 = false := by
        unfold tri
        have hne : Nat.beq (dg c 3) w = false := Bool.eq_false_iff.mpr (fun z => q2 (congrArg nI (Nat.eq_of_beq_eq_true z)))
        simp [hne]
      refine rb (i' := 2) (ls' := [some (vR 0), some (vI (nI w)), some (vI 12)]) (st' := []) (L' := gL bb K f s l) 2 (fun _ _ => rfl) ?_
      exact h3_4 hB hw (by rw [hT]; show (tri c w 0 3 6 || _) = _; rw [e]; rfl)
    · have q2 := of_decide_eq_false (cmp_ne.symm.trans q2)
      refine rb (i' := 32) (ls' := [some (vR 0), some (vI (nI w)), some (vI 9)]) (st' := [vI (9 + 2), vS 2, vR 2]) (L' := (gL bb K f s l)) 6 (fun _ _ => rfl) ?_
      refine rb (i' := 33) (ls' := [some (vR 0), some (vI (nI w)), some (vI 9)]) (st' := [vI 6, vR 2]) (L' := (gL bb K f s l)) 1 (fun _ _ => rfl) ?_
      refine rb (i' := 34) (ls' := [some (vR 0), some (vI (nI w)), some (vI 9)]) (st' := [vI (f 6)]) (L' := (gL bb K f s l)) 1 (fun _ _ => rfl) ?_
      refine rn_top (x := f 6) (y := nI (dg c 6)) (hB 6 (by decide)) ?_
      refine rb (i' := 35) (ls' := [some (vR 0), some (vI (nI w)), some (vI 9)]) (st' := [vI (nI w), vI (nI (dg c 6))]) (L' := (gL bb K f s l)) 1 (fun _ _ => rfl) ?_
      refine rn_if (b := 1) (x := nI (dg c 6)) (y := nI w) (it := 38) (ie := 36) (ls' := [some (vR 0), some (vI (nI w)), some (vI 9)]) (st' := []) (fun Fu F => bq_36_35 _ Fu F _ _ _ _ _) (fun q3 => ?_) (fun q3 => ?_)
      · have q3 := of_decide_eq_true (cmp_ne.symm.trans q3)
        have e : tri c w 0 3 6 = false := by
          unfold tri
          have hne : Nat.beq (dg c 6) w = false := Bool.eq_false_iff.mpr (fun z => q3 (congrArg nI (Nat.eq_of_beq_eq_true z)))
          simp [hne]
        refine rb (i' := 2) (ls' := [some (vR 0), some (vI (nI w)), some (vI 12)]) (st' := []) (L' := gL bb K f s l) 2 (fun _ _ => rfl) ?_
        exact h3_4 hB hw (by rw [hT]; show (tri c w 0 3 6 || _) = _; rw [e]; rfl)
      · have q3 := of_decide_eq_false (cmp_ne.symm.trans q3)
        refine rb (i' := 37) (ls' := [some (vR 0), some (vI (nI w)), some (vI 9)]) (st' := [vI 1]) (L' := (gL bb K f s l)) 1 (fun _ _ => rfl) ?_
        refine rn_fin (fun _ _ => rfl) ?_
        have e : tri c w 0 3 6 = true := by
          unfold tri
          rw [(gnI_inj (by have := dg_lt c 0; omega) (by omega)).mp (Decidable.of_not_not q1), (gnI_inj (by have := dg_lt c 3; omega) (by omega)).mp (Decidable.of_not_not q2), (gnI_inj (by have := dg_lt c 6; omega) (by omega)).mp (Decidable.of_not_not q3)]
          simp
        have e2 : three c w = true := by
          rw [← tfrom_8, hT]
          show (tri c w 0 3 6 || _) = true
          rw [e]
          rfl
        rw [e2]
        rfl
theorem h3_2 (hB : Bd f c) (hw : w < 3) (hT : tfrom c w 8 = tfrom c w 6) : Rn d 36 2 [some (vR 0), some (vI (nI w)), some (vI 6)] [] (gL bb K f s l) (some (vI (bzb (three c w))), gL bb K f s l) := by
  refine rb (i' := 7) (ls' := [some (vR 0), some (vI (nI w)), some (vI 6)]) (st' := [vI (Int32.ofNat 24), vI (6 + 2)]) (L' := (gL bb K f s l)) 5 (fun _ _ => rfl) ?_
  refine rn_if (b := 3) (x := 6 + 2) (y := Int32.ofNat 24) (it := 40) (ie := 8) (ls' := [some (vR 0), some (vI (nI w)), some (vI 6)]) (st' := []) (fun Fu F => bq_36_7 _ Fu F _ _ _ _ _) (fun k1 => absurd (of_decide_eq_true (cmp_ge.symm.trans k1)) (show ¬ ((Int32.ofNat 24 : Int32) ≤ (6 + 2 : Int32)) from by decide +kernel)) (fun _ => ?_)
  refine rb (i' := 12) (ls' := [some (vR 0), some (vI (nI w)), some (vI 6)]) (st' := [vI 6, vS 2, vR 2]) (L' := (gL bb K f s l)) 4 (fun _ _ => rfl) ?_
  refine rb (i' := 13) (ls' := [some (vR 0), some (vI (nI w)), some (vI 6)]) (st' := [vI 6, vR 2]) (L' := (gL bb K f s l)) 1 (fun _ _ => rfl) ?_
  refine rb (i' := 14) (ls' := [some (vR 0), some (vI (nI w)), some (vI 6)]) (st' := [vI (f 6)]) (L' := (gL bb K f s l)) 1 (fun _ _ => rfl) ?_
  refine rn_top (x := f 6) (y := nI (dg c 6)) (hB 6 (by decide)) ?_
  refine rb (i' := 15) (ls' := [some (vR 0), some (vI (nI w)), some (vI 6)]) (st' := [vI (nI w), vI (nI (dg c 6))]) (L' := (gL bb K f s l)) 1 (fun _ _ => rfl) ?_
  refine rn_if (b := 1) (x := nI (dg c 6)) (y := nI w) (it := 38) (ie := 16) (ls' := [some (vR 0), some (vI (nI w)), some (vI 6)]) (st' := []) (fun Fu F => bq_36_15 _ Fu F _ _ _ _ _) (fun q1 => ?_) (fun q1 => ?_)
  · have q1 := of_decide_eq_true (cmp_ne.symm.trans q1)
    have e : tri c w 6 7 8 = false := by
      unfold tri
      have hne : Nat.beq (dg c 6) w = false := Bool.eq_false_iff.mpr (fun z => q1 (congrArg nI (Nat.eq_of_beq_eq_true z)))
      simp [hne]
    refine rb (i' := 2) (ls' := [some (vR 0), some (vI (nI w)), some (vI 9)]) (st' := []) (L' := gL bb K f s l) 2 (fun _ _ => rfl) ?_
    exact h3_3 hB hw (by rw [hT]; show (tri c w 6 7 8 || _) = _; rw [e]; rfl)
  · have q1 := of_decide_eq_false (cmp_ne.symm.trans q1)
    refine rb (i' := 22) (ls' := [some (vR 0), some (vI (nI w)), some (vI 6)]) (st' := [vI (6 + 1), vS 2, vR 2]) (L' := (gL bb K f s l)) 6 (fun _ _ => rfl) ?_
    refine rb (i' := 23) (ls' := [some (vR 0), some (vI (nI w)), some (vI 6)]) (st' := [vI 7, vR 2]) (L' := (gL bb K f s l)) 1 (fun _ _ => rfl) ?_
    refine rb (i' := 24) (ls' := [some (vR 0), some (vI (nI w)), some (vI 6)]) (st' := [vI (f 7)]) (L' := (gL bb K f s l)) 1 (fun _ _ => rfl) ?_
    refine rn_top (x := f 7) (y := nI (dg c 7)) (hB 7 (by decide)) ?_
    refine rb (i' := 25) (ls' := [some (vR 0), some (vI (nI w)), some (vI 6)]) (st' := [vI (nI w), vI (nI (dg c 7))]) (L' := (gL bb K f s l)) 1 (fun _ _ => rfl) ?_
    refine rn_if (b := 1) (x := nI (dg c 7)) (y := nI w) (it := 38) (ie := 26) (ls' := [some (vR 0), some (vI (nI w)), some (vI 6)]) (st' := []) (fun Fu F => bq_36_25 _ Fu F _ _ _ _ _) (fun q2 => ?_) (fun q2 => ?_)
    · have q2 := of_decide_eq_true (cmp_ne.symm.trans q2)
      have e : tri c w 6 7 8 = false := by
        unfold tri
        have hne : Nat.beq (dg c 7) w = false := Bool.eq_false_iff.mpr (fun z => q2 (congrArg nI (Nat.eq_of_beq_eq_true z)))
        simp [hne]
      refine rb (i' := 2) (ls' := [some (vR 0), some (vI (nI w)), some (vI 9)]) (st' := []) (L' := gL bb K f s l) 2 (fun _ _ => rfl) ?_
      exact h3_3 hB hw (by rw [hT]; show (tri c w 6 7 8 || _) = _; rw [e]; rfl)
    · have q2 := of_decide_eq_false (cmp_ne.symm.trans q2)
      refine rb (i' := 32) (ls' := [some (vR 0), some (vI (nI w)), some (vI 6)]) (st' := [vI (6 + 2), vS 2, vR 2]) (L' := (gL bb K f s l)) 6 (fun _ _ => rfl) ?_
      refine rb (i' := 33) (ls' := [some (vR 0), some (vI (nI w)), some (vI 6)]) (st' := [vI 8, vR 2]) (L' := (gL bb K f s l)) 1 (fun _ _ => rfl) ?_
      refine rb (i' := 34) (ls' := [some (vR 0), some (vI (nI w)), some (vI 6)]) (st' := [vI (f 8)]) (L' := (gL bb K f s l)) 1 (fun _ _ => rfl) ?_
      refine rn_top (x := f 8) (y := nI (dg c 8)) (hB 8 (by decide)) ?_
      refine rb (i' := 35) (ls' := [some (vR 0), some (vI (nI w)), some (vI 6)]) (st' := [vI (nI w), vI (nI (dg c 8))]) (L' := (gL bb K f s l)) 1 (fun _ _ => rfl) ?_
      refine rn_if (b := 1) (x := nI (dg c 8)) (y := nI w) (it := 38) (ie := 36) (ls' := [some (vR 0), some (vI (nI w)), some (vI 6)]) (st' := []) (fun Fu F => bq_36_35 _ Fu F _ _ _ _ _) (fun q3 => ?_) (fun q3 => ?_)
      · have q3 := of_decide_eq_true (cmp_ne.symm.trans q3)
        have e : tri c w 6 7 8 = false := by
          unfold tri
          have hne : Nat.beq (dg c 8) w = false := Bool.eq_false_iff.mpr (fun z => q3 (congrArg nI (Nat.eq_of_beq_eq_true z)))
          simp [hne]
        refine rb (i' := 2) (ls' := [some (vR 0), some (vI (nI w)), some (vI 9)]) (st' := []) (L' := gL bb K f s l) 2 (fun _ _ => rfl) ?_
        exact h3_3 hB hw (by rw [hT]; show (tri c w 6 7 8 || _) = _; rw [e]; rfl)
      · have q3 := of_decide_eq_false (cmp_ne.symm.trans q3)
        refine rb (i' := 37) (ls' := [some (vR 0), some (vI (nI w)), some (vI 6)]) (st' := [vI 1]) (L' := (gL bb K f s l)) 1 (fun _ _ => rfl) ?_
        refine rn_fin (fun _ _ => rfl) ?_
        have e : tri c w 6 7 8 = true := by
          unfold tri
          rw [(gnI_inj (by have := dg_lt c 6; omega) (by omega)).mp (Decidable.of_not_not q1), (gnI_inj (by have := dg_lt c 7; omega) (by omega)).mp (Decidable.of_not_not q2), (gnI_inj (by have := dg_lt c 8; omega) (by omega)).mp (Decidable.of_not_not q3)]
          simp
        have e2 : three c w = true := by
          rw [← tfrom_8, hT]
          show (tri c w 6 7 8 || _) = true
          rw [e]
          rfl
        rw [e2]
        rfl
theorem h3_1 (hB : Bd f c) (hw : w < 3) (hT : tfrom c w 8 = tfrom c w 7) : Rn d 36 2 [some (vR 0), some (vI (nI w)), some (vI 3)] [] (gL bb K f s l) (some (vI (bzb (three c w))), gL bb K f s l) := by
  refine rb (i' := 7) (ls' := [some (vR 0), some (vI (nI w)), some (vI 3)]) (st' := [vI (Int32.ofNat 24), vI (3 + 2)]) (L' := (gL bb K f s l)) 5 (fun _ _ => rfl) ?_
  refine rn_if (b := 3) (x := 3 + 2) (y := Int32.ofNat 24) (it := 40) (ie := 8) (ls' := [some (vR 0), some (vI (nI w)), some (vI 3)]) (st' := []) (fun Fu F => bq_36_7 _ Fu F _ _ _ _ _) (fun k1 => absurd (of_decide_eq_true (cmp_ge.symm.trans k1)) (show ¬ ((Int32.ofNat 24 : Int32) ≤ (3 + 2 : Int32)) from by decide +kernel)) (fun _ => ?_)
  refine rb (i' := 12) (ls' := [some (vR 0), some (vI (nI w)), some (vI 3)]) (st' := [vI 3, vS 2, vR 2]) (L' := (gL bb K f s l)) 4 (fun _ _ => rfl) ?_
  refine rb (i' := 13) (ls' := [some (vR 0), some (vI (nI w)), some (vI 3)]) (st' := [vI 3, vR 2]) (L' := (gL bb K f s l)) 1 (fun _ _ => rfl) ?_
  refine rb (i' := 14) (ls' := [some (vR 0), some (vI (nI w)), some (vI 3)]) (st' := [vI (f 3)]) (L' := (gL bb K f s l)) 1 (fun _ _ => rfl) ?_
  refine rn_top (x := f 3) (y := nI (dg c 3)) (hB 3 (by decide)) ?_
  refine rb (i' := 15) (ls' := [some (vR 0), some (vI (nI w)), some (vI 3)]) (st' := [vI (nI w), vI (nI (dg c 3))]) (L' := (gL bb K f s l)) 1 (fun _ _ => rfl) ?_
  refine rn_if (b := 1) (x := nI (dg c 3)) (y := nI w) (it := 38) (ie := 16) (ls' := [some (vR 0), some (vI (nI w)), some (vI 3)]) (st' := []) (fun Fu F => bq_36_15 _ Fu F _ _ _ _ _) (fun q1 => ?_) (fun q1 => ?_)
  · have q1 := of_decide_eq_true (cmp_ne.symm.trans q1)
    have e : tri c w 3 4 5 = false := by
      unfold tri
      have hne : Nat.beq (dg c 3) w = false := Bool.eq_false_iff.mpr (fun z => q1 (congrArg nI (Nat.eq_of_beq_eq_true z)))
      simp [hne]
    refine rb (i' := 2) (ls' := [some (vR 0), some (vI (nI w)), some (vI 6)]) (st' := []) (L' := gL bb K f s l) 2 (fun _ _ => rfl) ?_
    exact h3_2 hB hw (by rw [hT]; show (tri c w 3 4 5 || _) = _; rw [e]; rfl)
  · have q1 := of_decide_eq_false (cmp_ne.symm.trans q1)
    refine rb (i' := 22) (ls' := [some (vR 0), some (vI (nI w)), some (vI 3)]) (st' := [vI (3 + 1), vS 2, vR 2]) (L' := (gL bb K f s l)) 6 (fun _ _ => rfl) ?_
    refine rb (i' := 23) (ls' := [some (vR 0), some (vI (nI w)), some (vI 3)]) (st' := [vI 4, vR 2]) (L' := (gL bb K f s l)) 1 (fun _ _ => rfl) ?_
    refine rb (i' := 24) (ls' := [some (vR 0), some (vI (nI w)), some (vI 3)]) (st' := [vI (f 4)]) (L' := (gL bb K f s l)) 1 (fun _ _ => rfl) ?_
    refine rn_top (x := f 4) (y := nI (dg c 4)) (hB 4 (by decide)) ?_
    refine rb (i' := 25) (ls' := [some (vR 0), some (vI (nI w)), some (vI 3)]) (st' := [vI (nI w), vI (nI (dg c 4))]) (L' := (gL bb K f s l)) 1 (fun _ _ => rfl) ?_
    refine rn_if (b := 1) (x := nI (dg c 4)) (y := nI w) (it := 38) (ie := 26) (ls' := [some (vR 0), some (vI (nI w)), some (vI 3)]) (st' := []) (fun Fu F => bq_36_25 _ Fu F _ _ _ _ _) (fun q2 => ?_) (fun q2 => ?_)
    · have q2 := of_decide_eq_true (cmp_ne.symm.trans q2)
      have e : tri c w 3 4 5 = false := by
        unfold tri
        have hne : Nat.beq (dg c 4) w = false := Bool.eq_false_iff.mpr (fun z => q2 (congrArg nI (Nat.eq_of_beq_eq_true z)))
        simp [hne]
      refine rb (i' := 2) (ls' := [some (vR 0), some (vI (nI w)), some (vI 6)]) (st' := []) (L' := gL bb K f s l) 2 (fun _ _ => rfl) ?_
      exact h3_2 hB hw (by rw [hT]; show (tri c w 3 4 5 || _) = _; rw [e]; rfl)
    · have q2 := of_decide_eq_false (cmp_ne.symm.trans q2)
      refine rb (i' := 32) (ls' := [some (vR 0), some (vI (nI w)), some (vI 3)]) (st' := [vI (3 + 2), vS 2, vR 2]) (L' := (gL bb K f s l)) 6 (fun _ _ => rfl) ?_
      refine rb (i' := 33) (ls' := [some (vR 0), some (vI (nI w)), some (vI 3)]) (st' := [vI 5, vR 2]) (L' := (gL bb K f s l)) 1 (fun _ _ => rfl) ?_
      refine rb (i' := 34) (ls' := [some (vR 0), some (vI (nI w)), some (vI 3)]) (st' := [vI (f 5)]) (L' := (gL bb K f s l)) 1 (fun _ _ => rfl) ?_
      refine rn_top (x := f 5) (y := nI (dg c 5)) (hB 5 (by decide)) ?_
      refine rb (i' := 35) (ls' := [some (vR 0), some (vI (nI w)), some (vI 3)]) (st' := [vI (nI w), vI (nI (dg c 5))]) (L' := (gL bb K f s l)) 1 (fun _ _ => rfl) ?_
      refine rn_if (b := 1) (x := nI (dg c 5)) (y := nI w) (it := 38) (ie := 36) (ls' := [some (vR 0), some (vI (nI w)), some (vI 3)]) (st' := []) (fun Fu F => bq_36_35 _ Fu F _ _ _ _ _) (fun q3 => ?_) (fun q3 => ?_)
      · have q3 := of_decide_eq_true (cmp_ne.symm.trans q3)
        have e : tri c w 3 4 5 = false := by
          unfold tri
          have hne : Nat.beq (dg c 5) w = false := Bool.eq_false_iff.mpr (fun z => q3 (congrArg nI (Nat.eq_of_beq_eq_true z)))
          simp [hne]
        refine rb (i' := 2) (ls' := [some (vR 0), some (vI (nI w)), some (vI 6)]) (st' := []) (L' := gL bb K f s l) 2 (fun _ _ => rfl) ?_
        exact h3_2 hB hw (by rw [hT]; show (tri c w 3 4 5 || _) = _; rw [e]; rfl)
      · have q3 := of_decide_eq_false (cmp_ne.symm.trans q3)
        refine rb (i' := 37) (ls' := [some (vR 0), some (vI (nI w)), some (vI 3)]) (st' := [vI 1]) (L' := (gL bb K f s l)) 1 (fun _ _ => rfl) ?_
        refine rn_fin (fun _ _ => rfl) ?_
        have e : tri c w 3 4 5 = true := by
          unfold tri
          rw [(gnI_inj (by have := dg_lt c 3; omega) (by omega)).mp (Decidable.of_not_not q1), (gnI_inj (by have := dg_lt c 4; omega) (by omega)).mp (Decidable.of_not_not q2), (gnI_inj (by have := dg_lt c 5; omega) (by omega)).mp (Decidable.of_not_not q3)]
          simp
        have e2 : three c w = true := by
          rw [← tfrom_8, hT]
          show (tri c w 3 4 5 || _) = true
          rw [e]
          rfl
        rw [e2]
        rfl
theorem h3_0 (hB : Bd f c) (hw : w < 3) (hT : tfrom c w 8 = tfrom c w 8) : Rn d 36 2 [some (vR 0), some (vI (nI w)), some (vI 0)] [] (gL bb K f s l) (some (vI (bzb (three c w))), gL bb K f s l) := by
  refine rb (i' := 7) (ls' := [some (vR 0), some (vI (nI w)), some (vI 0)]) (st' := [vI (Int32.ofNat 24), vI (0 + 2)]) (L' := (gL bb K f s l)) 5 (fun _ _ => rfl) ?_
  refine rn_if (b := 3) (x := 0 + 2) (y := Int32.ofNat 24) (it := 40) (ie := 8) (ls' := [some (vR 0), some (vI (nI w)), some (vI 0)]) (st' := []) (fun Fu F => bq_36_7 _ Fu F _ _ _ _ _) (fun k1 => absurd (of_decide_eq_true (cmp_ge.symm.trans k1)) (show ¬ ((Int32.ofNat 24 : Int32) ≤ (0 + 2 : Int32)) from by decide +kernel)) (fun _ => ?_)
  refine rb (i' := 12) (ls' := [some (vR 0), some (vI (nI w)), some (vI 0)]) (st' := [vI 0, vS 2, vR 2]) (L' := (gL bb K f s l)) 4 (fun _ _ => rfl) ?_
  refine rb (i' := 13) (ls' := [some (vR 0), some (vI (nI w)), some (vI 0)]) (st' := [vI 0, vR 2]) (L' := (gL bb K f s l)) 1 (fun _ _ => rfl) ?_
  refine rb (i' := 14) (ls' := [some (vR 0), some (vI (nI w)), some (vI 0)]) (st' := [vI (f 0)]) (L' := (gL bb K f s l)) 1 (fun _ _ => rfl) ?_
  refine rn_top (x := f 0) (y := nI (dg c 0)) (hB 0 (by decide)) ?_
  refine rb (i' := 15) (ls' := [some (vR 0), some (vI (nI w)), some (vI 0)]) (st' := [vI (nI w), vI (nI (dg c 0))]) (L' := (gL bb K f s l)) 1 (fun _ _ => rfl) ?_
  refine rn_if (b := 1) (x := nI (dg c 0)) (y := nI w) (it := 38) (ie := 16) (ls' := [some (vR 0), some (vI (nI w)), some (vI 0)]) (st' := []) (fun Fu F => bq_36_15 _ Fu F _ _ _ _ _) (fun q1 => ?_) (fun q1 => ?_)
  · have q1 := of_decide_eq_true (cmp_ne.symm.trans q1)
    have e : tri c w 0 1 2 = false := by
      unfold tri
      have hne : Nat.beq (dg c 0) w = false := Bool.eq_false_iff.mpr (fun z => q1 (congrArg nI (Nat.eq_of_beq_eq_true z)))
      simp [hne]
    refine rb (i' := 2) (ls' := [some (vR 0), some (vI (nI w)), some (vI 3)]) (st' := []) (L' := gL bb K f s l) 2 (fun _ _ => rfl) ?_
    exact h3_1 hB hw (by rw [hT]; show (tri c w 0 1 2 || _) = _; rw [e]; rfl)
  · have q1 := of_decide_eq_false (cmp_ne.symm.trans q1)
    refine rb (i' := 22) (ls' := [some (vR 0), some (vI (nI w)), some (vI 0)]) (st' := [vI (0 + 1), vS 2, vR 2]) (L' := (gL bb K f s l)) 6 (fun _ _ => rfl) ?_
    refine rb (i' := 23) (ls' := [some (vR 0), some (vI (nI w)), some (vI 0)]) (st' := [vI 1, vR 2]) (L' := (gL bb K f s l)) 1 (fun _ _ => rfl) ?_
    refine rb (i' := 24) (ls' := [some (vR 0), some (vI (nI w)), some (vI 0)]) (st' := [vI (f 1)]) (L' := (gL bb K f s l)) 1 (fun _ _ => rfl) ?_
    refine rn_top (x := f 1) (y := nI (dg c 1)) (hB 1 (by decide)) ?_
    refine rb (i' := 25) (ls' := [some (vR 0), some (vI (nI w)), some (vI 0)]) (st' := [vI (nI w), vI (nI (dg c 1))]) (L' := (gL bb K f s l)) 1 (fun _ _ => rfl) ?_
    refine rn_if (b := 1) (x := nI (dg c 1)) (y := nI w) (it := 38) (ie := 26) (ls' := [some (vR 0), some (vI (nI w)), some (vI 0)]) (st' := []) (fun Fu F => bq_36_25 _ Fu F _ _ _ _ _) (fun q2 => ?_) (fun q2 => ?_)
    · have q2 := of_decide_eq_true (cmp_ne.symm.trans q2)
      have e : tri c w 0 1 2 = false := by
        unfold tri
        have hne : Nat.beq (dg c 1) w = false := Bool.eq_false_iff.mpr (fun z => q2 (congrArg nI (Nat.eq_of_beq_eq_true z)))
        simp [hne]
      refine rb (i' := 2) (ls' := [some (vR 0), some (vI (nI w)), some (vI 3)]) (st' := []) (L' := gL bb K f s l) 2 (fun _ _ => rfl) ?_
      exact h3_1 hB hw (by rw [hT]; show (tri c w 0 1 2 || _) = _; rw [e]; rfl)
    · have q2 := of_decide_eq_false (cmp_ne.symm.trans q2)
      refine rb (i' := 32) (ls' := [some (vR 0), some (vI (nI w)), some (vI 0)]) (st' := [vI (0 + 2), vS 2, vR 2]) (L' := (gL bb K f s l)) 6 (fun _ _ => rfl) ?_
      refine rb (i' := 33) (ls' := [some (vR 0), some (vI (nI w)), some (vI 0)]) (st' := [vI 2, vR 2]) (L' := (gL bb K f s l)) 1 (fun _ _ => rfl) ?_
      refine rb (i' := 34) (ls' := [some (vR 0), some (vI (nI w)), some (vI 0)]) (st' := [vI (f 2)]) (L' := (gL bb K f s l)) 1 (fun _ _ => rfl) ?_
      refine rn_top (x := f 2) (y := nI (dg c 2)) (hB 2 (by decide)) ?_
      refine rb (i' := 35) (ls' := [some (vR 0), some (vI (nI w)), some (vI 0)]) (st' := [vI (nI w), vI (nI (dg c 2))]) (L' := (gL bb K f s l)) 1 (fun _ _ => rfl) ?_
      refine rn_if (b := 1) (x := nI (dg c 2)) (y := nI w) (it := 38) (ie := 36) (ls' := [some (vR 0), some (vI (nI w)), some (vI 0)]) (st' := []) (fun Fu F => bq_36_35 _ Fu F _ _ _ _ _) (fun q3 => ?_) (fun q3 => ?_)
      · have q3 := of_decide_eq_true (cmp_ne.symm.trans q3)
        have e : tri c w 0 1 2 = false := by
          unfold tri
          have hne : Nat.beq (dg c 2) w = false := Bool.eq_false_iff.mpr (fun z => q3 (congrArg nI (Nat.eq_of_beq_eq_true z)))
          simp [hne]
        refine rb (i' := 2) (ls' := [some (vR 0), some (vI (nI w)), some (vI 3)]) (st' := []) (L' := gL bb K f s l) 2 (fun _ _ => rfl) ?_
        exact h3_1 hB hw (by rw [hT]; show (tri c w 0 1 2 || _) = _; rw [e]; rfl)
      · have q3 := of_decide_eq_false (cmp_ne.symm.trans q3)
        refine rb (i' := 37) (ls' := [some (vR 0), some (vI (nI w)), some (vI 0)]) (st' := [vI 1]) (L' := (gL bb K f s l)) 1 (fun _ _ => rfl) ?_
        refine rn_fin (fun _ _ => rfl) ?_
        have e : tri c w 0 1 2 = true := by
          unfold tri
          rw [(gnI_inj (by have := dg_lt c 0; omega) (by omega)).mp (Decidable.of_not_not q1), (gnI_inj (by have := dg_lt c 1; omega) (by omega)).mp (Decidable.of_not_not q2), (gnI_inj (by have := dg_lt c 2; omega) (by omega)).mp (Decidable.of_not_not q3)]
          simp
        have e2 : three c w = true := by
          rw [← tfrom_8, hT]
          show (tri c w 0 1 2 || _) = true
          rw [e]
          rfl
        rw [e2]
        rfl
theorem g_three (hB : Bd f c) (hw : w < 3) : MC (d + 1) 36 [vR 0, vI (nI w)] (gL bb K f s l) (some (vI (bzb (three c w))), gL bb K f s l) := by
  refine mc_of rfl ?_
  refine rb (i' := 2) (ls' := [some (vR 0), some (vI (nI w)), some (vI 0)]) (st' := []) (L' := gL bb K f s l) 2 (fun _ _ => rfl) ?_
  exact h3_0 hB hw rfl
end GThree
