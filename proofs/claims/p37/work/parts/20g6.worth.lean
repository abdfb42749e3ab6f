variable {zz : Nat → Int32}
theorem cq_75_1 (call : QC FA) (F : Nat) (ls : List (Option PV)) (U E : Int32) (W f : FA) : run (mK rdF wrF fzF call 75) (F + 1) 1 ls [vR 0] (mL zz U E W f) = cbind (call 76 [vR 0] (mL zz U E W f)) (fun r L' => run (mK rdF wrF fzF call 75) F 2 ls (r.toList ++ []) L') := pcV (ih := run (mK rdF wrF fzF call 75) F) (call := call) (a := 76) (b := 0) (v := 12) (t := 2) (x := 0) (ls := ls) (As := []) (st' := []) (L := (mL zz U E W f)) rfl rfl rfl
theorem cq_75_5 (call : QC FA) (F : Nat) (x1 : Int32) (ls : List (Option PV)) (U E : Int32) (W f : FA) : run (mK rdF wrF fzF call 75) (F + 1) 5 ls [vI x1, vR 0] (mL zz U E W f) = cbind (call 72 [vR 0, vI x1] (mL zz U E W f)) (fun r L' => run (mK rdF wrF fzF call 75) F 6 ls (r.toList ++ []) L') := pcV (ih := run (mK rdF wrF fzF call 75) F) (call := call) (a := 72) (b := 1) (v := 12) (t := 6) (x := 0) (ls := ls) (As := [vI x1]) (st' := []) (L := (mL zz U E W f)) rfl rfl rfl
theorem bq_75_6 (d Fu F : Nat) (x : Int32) (ls : List (Option PV)) (st : List PV) (L : QH FA) : rnF Fu d 75 (F + 1) 6 ls (vI x :: st) L = bif pcmp 0 x 0 then rnF Fu d 75 F 9 ls st L else rnF Fu d 75 F 7 ls st L := rfl
theorem cq_75_13 (call : QC FA) (F : Nat) (x1 : Int32) (ls : List (Option PV)) (U E : Int32) (W f : FA) : run (mK rdF wrF fzF call 75) (F + 1) 13 ls [vI x1, vR 0] (mL zz U E W f) = cbind (call 72 [vR 0, vI x1] (mL zz U E W f)) (fun r L' => run (mK rdF wrF fzF call 75) F 14 ls (r.toList ++ []) L') := pcV (ih := run (mK rdF wrF fzF call 75) F) (call := call) (a := 72) (b := 1) (v := 12) (t := 14) (x := 0) (ls := ls) (As := [vI x1]) (st' := []) (L := (mL zz U E W f)) rfl rfl rfl
theorem bq_75_14 (d Fu F : Nat) (x : Int32) (ls : List (Option PV)) (st : List PV) (L : QH FA) : rnF Fu d 75 (F + 1) 14 ls (vI x :: st) L = bif pcmp 0 x 0 then rnF Fu d 75 F 17 ls st L else rnF Fu d 75 F 15 ls st L := rfl
theorem bq_75_23 (d Fu F : Nat) (x y : Int32) (ls : List (Option PV)) (st : List PV) (L : QH FA) : rnF Fu d 75 (F + 1) 23 ls (vI y :: vI x :: st) L = bif pcmp 1 x y then rnF Fu d 75 F 26 ls st L else rnF Fu d 75 F 24 ls st L := rfl
theorem bq_75_32 (d Fu F : Nat) (x y : Int32) (ls : List (Option PV)) (st : List PV) (L : QH FA) : rnF Fu d 75 (F + 1) 32 ls (vI y :: vI x :: st) L = bif pcmp 3 x y then rnF Fu d 75 F 55 ls st L else rnF Fu d 75 F 33 ls st L := rfl
theorem bq_75_37 (d Fu F : Nat) (x : Int32) (ls : List (Option PV)) (st : List PV) (L : QH FA) : rnF Fu d 75 (F + 1) 37 ls (vI x :: st) L = bif pcmp 1 x 0 then rnF Fu d 75 F 53 ls st L else rnF Fu d 75 F 38 ls st L := rfl
theorem cq_75_46 (call : QC FA) (F : Nat) (x1 : Int32) (v0 : PV) (v1 : PV) (v2 : PV) (v3 : PV) (v4 : PV) (ls : List (Option PV)) (U E : Int32) (W f : FA) : run (mK rdF wrF fzF call 75) (F + 1) 46 ls [vI x1, vR 0, v4, v3, v2, v1, v0] (mL zz U E W f) = cbind (call 77 [vR 0, vI x1] (mL zz U E W f)) (fun r L' => run (mK rdF wrF fzF call 75) F 47 ls (r.toList ++ [v4, v3, v2, v1, v0]) L') := pcV (ih := run (mK rdF wrF fzF call 75) F) (call := call) (a := 77) (b := 1) (v := 12) (t := 47) (x := 0) (ls := ls) (As := [vI x1]) (st' := [v4, v3, v2, v1, v0]) (L := (mL zz U E W f)) rfl rfl rfl
theorem cq_75_51 (call : QC FA) (F : Nat) (x1 : Int32) (x2 : Int32) (ls : List (Option PV)) (U E : Int32) (W f : FA) : run (mK rdF wrF fzF call 75) (F + 1) 51 ls [vI x2, vI x1, vR 0] (mL zz U E W f) = cbind (call 68 [vR 0, vI x1, vI x2] (mL zz U E W f)) (fun r L' => run (mK rdF wrF fzF call 75) F 52 ls (r.toList ++ []) L') := pcV (ih := run (mK rdF wrF fzF call 75) F) (call := call) (a := 68) (b := 2) (v := 12) (t := 52) (x := 0) (ls := ls) (As := [vI x1, vI x2]) (st' := []) (L := (mL zz U E W f)) rfl rfl rfl
theorem bq_74_4 (d Fu F : Nat) (x y : Int32) (ls : List (Option PV)) (st : List PV) (L : QH FA) : rnF Fu d 74 (F + 1) 4 ls (vI y :: vI x :: st) L = bif pcmp 2 x y then rnF Fu d 74 F 32 ls st L else rnF Fu d 74 F 5 ls st L := rfl
theorem cq_74_8 (call : QC FA) (F : Nat) (x1 : Int32) (x2 : Int32) (ls : List (Option PV)) (U E : Int32) (W f : FA) : run (mK rdF wrF fzF call 74) (F + 1) 8 ls [vI x2, vI x1, vR 0] (mL zz U E W f) = cbind (call 71 [vR 0, vI x1, vI x2] (mL zz U E W f)) (fun r L' => run (mK rdF wrF fzF call 74) F 9 ls (r.toList ++ []) L') := pcV (ih := run (mK rdF wrF fzF call 74) F) (call := call) (a := 71) (b := 2) (v := 12) (t := 9) (x := 0) (ls := ls) (As := [vI x1, vI x2]) (st' := []) (L := (mL zz U E W f)) rfl rfl rfl
theorem bq_74_16 (d Fu F : Nat) (x y : Int32) (ls : List (Option PV)) (st : List PV) (L : QH FA) : rnF Fu d 74 (F + 1) 16 ls (vI y :: vI x :: st) L = bif pcmp 0 x y then rnF Fu d 74 F 24 ls st L else rnF Fu d 74 F 17 ls st L := rfl
theorem cq_74_26 (call : QC FA) (F : Nat) (x1 : Int32) (v0 : PV) (v1 : PV) (ls : List (Option PV)) (U E : Int32) (W f : FA) : run (mK rdF wrF fzF call 74) (F + 1) 26 ls [vI x1, vR 0, v1, v0] (mL zz U E W f) = cbind (call 75 [vR 0, vI x1] (mL zz U E W f)) (fun r L' => run (mK rdF wrF fzF call 74) F 27 ls (r.toList ++ [v1, v0]) L') := pcV (ih := run (mK rdF wrF fzF call 74) F) (call := call) (a := 75) (b := 1) (v := 12) (t := 27) (x := 0) (ls := ls) (As := [vI x1]) (st' := [v1, v0]) (L := (mL zz U E W f)) rfl rfl rfl
theorem iq_2_3 (ih : QK FA) (t : Nat) (v x : Int32) (l0 l1 : Option PV) (st : List PV) (L : QH FA) : p_iinc ih fzF 2 v t [l0, l1, some (vI x)] st L = ih t [l0, l1, some (vI (x + v))] st L := rfl
theorem bq_74_23 (d Fu F : Nat) (x y : Int32) (ls : List (Option PV)) (st : List PV) (L : QH FA) : rnF Fu d 74 (F + 1) 23 ls (vI y :: vI x :: st) L = bif pcmp 1 x y then rnF Fu d 74 F 28 ls st L else rnF Fu d 74 F 24 ls st L := rfl
theorem cq_78_2 (call : QC FA) (F : Nat) (x1 : Int32) (ls : List (Option PV)) (U E : Int32) (W f : FA) : run (mK rdF wrF fzF call 78) (F + 1) 2 ls [vI x1, vR 0] (mL zz U E W f) = cbind (call 72 [vR 0, vI x1] (mL zz U E W f)) (fun r L' => run (mK rdF wrF fzF call 78) F 3 ls (r.toList ++ []) L') := pcV (ih := run (mK rdF wrF fzF call 78) F) (call := call) (a := 72) (b := 1) (v := 12) (t := 3) (x := 0) (ls := ls) (As := [vI x1]) (st' := []) (L := (mL zz U E W f)) rfl rfl rfl
theorem bq_78_3 (d Fu F : Nat) (x : Int32) (ls : List (Option PV)) (st : List PV) (L : QH FA) : rnF Fu d 78 (F + 1) 3 ls (vI x :: st) L = bif pcmp 1 x 0 then rnF Fu d 78 F 15 ls st L else rnF Fu d 78 F 4 ls st L := rfl
theorem cq_78_6 (call : QC FA) (F : Nat) (x1 : Int32) (ls : List (Option PV)) (U E : Int32) (W f : FA) : run (mK rdF wrF fzF call 78) (F + 1) 6 ls [vI x1, vR 0] (mL zz U E W f) = cbind (call 72 [vR 0, vI x1] (mL zz U E W f)) (fun r L' => run (mK rdF wrF fzF call 78) F 7 ls (r.toList ++ []) L') := pcV (ih := run (mK rdF wrF fzF call 78) F) (call := call) (a := 72) (b := 1) (v := 12) (t := 7) (x := 0) (ls := ls) (As := [vI x1]) (st' := []) (L := (mL zz U E W f)) rfl rfl rfl
theorem bq_78_7 (d Fu F : Nat) (x : Int32) (ls : List (Option PV)) (st : List PV) (L : QH FA) : rnF Fu d 78 (F + 1) 7 ls (vI x :: st) L = bif pcmp 1 x 0 then rnF Fu d 78 F 15 ls st L else rnF Fu d 78 F 8 ls st L := rfl
theorem bq_78_14 (d Fu F : Nat) (x y : Int32) (ls : List (Option PV)) (st : List PV) (L : QH FA) : rnF Fu d 78 (F + 1) 14 ls (vI y :: vI x :: st) L = bif pcmp 1 x y then rnF Fu d 78 F 17 ls st L else rnF Fu d 78 F 15 ls st L := rfl
theorem alt_wn {c : Nat} (h : alt c = true) : (if cnt c 1 = cnt c 2 then 1 else 2) = wn (fl c) := by
  rw [alt_iff] at h
  rw [cnt_fl]
  unfold wn
  rcases h with h | h
  · rw [if_pos h, if_pos (by omega)]
  · rw [if_neg (by omega), if_neg (by omega)]
theorem alt_mv {c i : Nat} (h : alt c = true) (hi : i < 9) (hd : dg c i = 0) : alt (c + wn (fl c) * 3 ^ (8 - i)) = true := by
  have hw := alt_wn h
  rw [alt_iff] at h ⊢
  rw [mv_cnt hi hd (wn_12 _) (by decide), mv_cnt hi hd (wn_12 _) (by decide), ← hw]
  rcases h with h | h
  · rw [if_pos h]
    have e1 : is 1 1 = 1 := rfl
    have e2 : is 1 2 = 0 := rfl
    omega
  · rw [if_neg (by omega)]
    have e1 : is 2 1 = 0 := rfl
    have e2 : is 2 2 = 1 := rfl
    omega
theorem gf_congr {V V' : Nat → Int32} {w c : Nat} (h : ∀ i, i < 9 → dg c i = 0 → V (c + w * 3 ^ (8 - i)) = V' (c + w * 3 ^ (8 - i))) : ∀ i, i ≤ 9 → gf V w c i = gf V' w c i := by
  intro i hi
  induction i with
  | zero => rfl
  | succ i ih =>
    have := ih (by omega)
    unfold gf
    split
    · rename_i hd
      rw [this, h i (by omega) hd]
    · exact this
theorem Vc_n {c : Nat} (h1 : ¬ three c (wn (fl c)) = true) (h2 : ¬ three c (3 - wn (fl c)) = true) (h9 : fl c < 9) : Vc c = gf Vc (wn (fl c)) c 9 := by
  have e : gf Vc (wn (fl c)) c 9 = gf (gv (8 - fl c) (3 - wn (fl c))) (wn (fl c)) c 9 := by
    refine gf_congr (fun i hi hd => ?_) 9 (Nat.le_refl _)
    have hfl := mv_fl (w := wn (fl c)) hi hd (wn_12 _)
    unfold Vc
    rw [hfl, wn_s, show 9 - (fl c + 1) = 8 - fl c by omega]
  rw [e]
  unfold Vc
  rw [show 9 - fl c = (8 - fl c) + 1 by omega, gv, if_neg h1, if_neg h2]
theorem Vc_9 {c : Nat} (h1 : ¬ three c (wn (fl c)) = true) (h2 : ¬ three c (3 - wn (fl c)) = true) (h9 : fl c = 9) : Vc c = 0 := by
  unfold Vc
  rw [h9, Nat.sub_self, gv]
  rw [h9] at h1 h2
  rw [if_neg h1, if_neg h2]
theorem Vc_1 {c : Nat} (h1 : three c (wn (fl c)) = true) : Vc c = 1 := gv_1 h1
theorem Vc_2 {c : Nat} (h1 : ¬ three c (wn (fl c)) = true) (h2 : three c (3 - wn (fl c)) = true) : Vc c = -1 := gv_2 h1 h2
theorem w_1 {D c : Nat} {W f : FA} (hB : Bd f c) (ha : alt c = true) (h1 : three c (wn (fl c)) = true) : MC (D + 2 + 1) 75 [vR 0, vI (nI c)] (mL zz (nI (cnt c 1)) (nI (cnt c 2)) W f) (some (vI 1), mL zz (nI (cnt c 1)) (nI (cnt c 2)) W f) := by
  refine mc_of rfl ?_
  show Rn (D + 2) 75 0 [some (vR 0), some (vI (nI c)), none, none, none] [] (mL zz (nI (cnt c 1)) (nI (cnt c 2)) W f) _
  refine rb (i' := 1) (ls' := [some (vR 0), some (vI (nI c)), none, none, none]) (st' := [vR 0]) (L' := (mL zz (nI (cnt c 1)) (nI (cnt c 2)) W f)) 1 (fun _ _ => rfl) ?_
  refine rn_call (a := 76) (As := [vR 0]) (t := 2) (ls' := [some (vR 0), some (vI (nI c)), none, none, none]) (st' := []) (fun Fu F => cq_75_1 (evF Fu _) F _ _ _ _ _) (r_next (cnt_lt c).1 (cnt_lt c).2) ?_
  refine rn_eq (ls' := [some (vR 0), some (vI (nI c)), none, none, none]) (st' := [vI (nI (if cnt c 1 = cnt c 2 then 1 else 2))]) (L' := (mL zz (nI (cnt c 1)) (nI (cnt c 2)) W f)) rfl rfl rfl ?_
  refine rn_top (x := nI (if cnt c 1 = cnt c 2 then 1 else 2)) (y := nI (wn (fl c))) (congrArg nI (alt_wn ha)) ?_
  refine rb (i' := 5) (ls' := [some (vR 0), some (vI (nI c)), some (vI (nI (wn (fl c)))), none, none]) (st' := [vI (nI (wn (fl c))), vR 0]) (L' := (mL zz (nI (cnt c 1)) (nI (cnt c 2)) W f)) 3 (fun _ _ => rfl) ?_
  refine rn_call (a := 72) (As := [vR 0, vI (nI (wn (fl c)))]) (t := 6) (ls' := [some (vR 0), some (vI (nI c)), some (vI (nI (wn (fl c)))), none, none]) (st' := []) (fun Fu F => cq_75_5 (evF Fu _) F _ _ _ _ _ _) (r_three hB (by have := wn_12 (fl c); omega)) ?_
  refine rn_eq (ls' := [some (vR 0), some (vI (nI c)), some (vI (nI (wn (fl c)))), none, none]) (st' := [vI (bzb (three c (wn (fl c))))]) (L' := (mL zz (nI (cnt c 1)) (nI (cnt c 2)) W f)) rfl rfl rfl ?_
  refine rn_if (b := 0) (x := bzb (three c (wn (fl c)))) (y := 0) (it := 9) (ie := 7) (ls' := [some (vR 0), some (vI (nI c)), some (vI (nI (wn (fl c)))), none, none]) (st' := []) (fun Fu F => bq_75_6 _ Fu F _ _ _ _) (fun k1 => absurd (of_decide_eq_true (cmp_eq.symm.trans k1)) (show ¬ ((bzb (three c (wn (fl c))) : Int32) = (0 : Int32)) from by rw [h1]; decide)) (fun _ => ?_)
  refine rb (i' := 8) (ls' := [some (vR 0), some (vI (nI c)), some (vI (nI (wn (fl c)))), none, none]) (st' := [vI 1]) (L' := (mL zz (nI (cnt c 1)) (nI (cnt c 2)) W f)) 1 (fun _ _ => rfl) ?_
  exact rn_fin (fun _ _ => rfl) (rfl)
theorem w_2 {D c : Nat} {W f : FA} (hB : Bd f c) (ha : alt c = true) (h1 : three c (wn (fl c)) = false) (h2 : three c (3 - wn (fl c)) = true) : MC (D + 2 + 1) 75 [vR 0, vI (nI c)] (mL zz (nI (cnt c 1)) (nI (cnt c 2)) W f) (some (vI (-1)), mL zz (nI (cnt c 1)) (nI (cnt c 2)) W f) := by
  refine mc_of rfl ?_
  show Rn (D + 2) 75 0 [some (vR 0), some (vI (nI c)), none, none, none] [] (mL zz (nI (cnt c 1)) (nI (cnt c 2)) W f) _
  refine rb (i' := 1) (ls' := [some (vR 0), some (vI (nI c)), none, none, none]) (st' := [vR 0]) (L' := (mL zz (nI (cnt c 1)) (nI (cnt c 2)) W f)) 1 (fun _ _ => rfl) ?_
  refine rn_call (a := 76) (As := [vR 0]) (t := 2) (ls' := [some (vR 0), some (vI (nI c)), none, none, none]) (st' := []) (fun Fu F => cq_75_1 (evF Fu _) F _ _ _ _ _) (r_next (cnt_lt c).1 (cnt_lt c).2) ?_
  refine rn_eq (ls' := [some (vR 0), some (vI (nI c)), none, none, none]) (st' := [vI (nI (if cnt c 1 = cnt c 2 then 1 else 2))]) (L' := (mL zz (nI (cnt c 1)) (nI (cnt c 2)) W f)) rfl rfl rfl ?_
  refine rn_top (x := nI (if cnt c 1 = cnt c 2 then 1 else 2)) (y := nI (wn (fl c))) (congrArg nI (alt_wn ha)) ?_
  refine rb (i' := 5) (ls' := [some (vR 0), some (vI (nI c)), some (vI (nI (wn (fl c)))), none, none]) (st' := [vI (nI (wn (fl c))), vR 0]) (L' := (mL zz (nI (cnt c 1)) (nI (cnt c 2)) W f)) 3 (fun _ _ => rfl) ?_
  refine rn_call (a := 72) (As := [vR 0, vI (nI (wn (fl c)))]) (t := 6) (ls' := [some (vR 0), some (vI (nI c)), some (vI (nI (wn (fl c)))), none, none]) (st' := []) (fun Fu F => cq_75_5 (evF Fu _) F _ _ _ _ _ _) (r_three hB (by have := wn_12 (fl c); omega)) ?_
  refine rn_eq (ls' := [some (vR 0), some (vI (nI c)), some (vI (nI (wn (fl c)))), none, none]) (st' := [vI (bzb (three c (wn (fl c))))]) (L' := (mL zz (nI (cnt c 1)) (nI (cnt c 2)) W f)) rfl rfl rfl ?_
  refine rn_if (b := 0) (x := bzb (three c (wn (fl c)))) (y := 0) (it := 9) (ie := 7) (ls' := [some (vR 0), some (vI (nI c)), some (vI (nI (wn (fl c)))), none, none]) (st' := []) (fun Fu F => bq_75_6 _ Fu F _ _ _ _) (fun _ => ?_) (fun k1 => absurd (show (bzb (three c (wn (fl c))) : Int32) = (0 : Int32) from by rw [h1]; rfl) (of_decide_eq_false (cmp_eq.symm.trans k1)))
  refine rb (i' := 13) (ls' := [some (vR 0), some (vI (nI c)), some (vI (nI (wn (fl c)))), none, none]) (st' := [vI (3 - (nI (wn (fl c)))), vR 0]) (L' := (mL zz (nI (cnt c 1)) (nI (cnt c 2)) W f)) 4 (fun _ _ => rfl) ?_
  refine rn_top (x := 3 - (nI (wn (fl c)))) (y := nI (3 - wn (fl c))) ((show (3 : Int32) - nI (wn (fl c)) = nI (3 - wn (fl c)) by rcases wn_12 (fl c) with e | e <;> rw [e] <;> decide)) ?_
  refine rn_call (a := 72) (As := [vR 0, vI (nI (3 - wn (fl c)))]) (t := 14) (ls' := [some (vR 0), some (vI (nI c)), some (vI (nI (wn (fl c)))), none, none]) (st' := []) (fun Fu F => cq_75_13 (evF Fu _) F _ _ _ _ _ _) (r_three hB (by have := wn_12 (fl c); omega)) ?_
  refine rn_eq (ls' := [some (vR 0), some (vI (nI c)), some (vI (nI (wn (fl c)))), none, none]) (st' := [vI (bzb (three c (3 - wn (fl c))))]) (L' := (mL zz (nI (cnt c 1)) (nI (cnt c 2)) W f)) rfl rfl rfl ?_
  refine rn_if (b := 0) (x := bzb (three c (3 - wn (fl c)))) (y := 0) (it := 17) (ie := 15) (ls' := [some (vR 0), some (vI (nI c)), some (vI (nI (wn (fl c)))), none, none]) (st' := []) (fun Fu F => bq_75_14 _ Fu F _ _ _ _) (fun k2 => absurd (of_decide_eq_true (cmp_eq.symm.trans k2)) (show ¬ ((bzb (three c (3 - wn (fl c))) : Int32) = (0 : Int32)) from by rw [h2]; decide)) (fun _ => ?_)
  refine rb (i' := 16) (ls' := [some (vR 0), some (vI (nI c)), some (vI (nI (wn (fl c)))), none, none]) (st' := [vI ((-1))]) (L' := (mL zz (nI (cnt c 1)) (nI (cnt c 2)) W f)) 1 (fun _ _ => rfl) ?_
  exact rn_fin (fun _ _ => rfl) (rfl)
theorem w_3 {D c : Nat} {W f : FA} (hB : Bd f c) (ha : alt c = true) (h1 : three c (wn (fl c)) = false) (h2 : three c (3 - wn (fl c)) = false) (h9 : fl c = 9) : MC (D + 2 + 1) 75 [vR 0, vI (nI c)] (mL zz (nI (cnt c 1)) (nI (cnt c 2)) W f) (some (vI 0), mL zz (nI (cnt c 1)) (nI (cnt c 2)) W f) := by
  refine mc_of rfl ?_
  show Rn (D + 2) 75 0 [some (vR 0), some (vI (nI c)), none, none, none] [] (mL zz (nI (cnt c 1)) (nI (cnt c 2)) W f) _
  refine rb (i' := 1) (ls' := [some (vR 0), some (vI (nI c)), none, none, none]) (st' := [vR 0]) (L' := (mL zz (nI (cnt c 1)) (nI (cnt c 2)) W f)) 1 (fun _ _ => rfl) ?_
  refine rn_call (a := 76) (As := [vR 0]) (t := 2) (ls' := [some (vR 0), some (vI (nI c)), none, none, none]) (st' := []) (fun Fu F => cq_75_1 (evF Fu _) F _ _ _ _ _) (r_next (cnt_lt c).1 (cnt_lt c).2) ?_
  refine rn_eq (ls' := [some (vR 0), some (vI (nI c)), none, none, none]) (st' := [vI (nI (if cnt c 1 = cnt c 2 then 1 else 2))]) (L' := (mL zz (nI (cnt c 1)) (nI (cnt c 2)) W f)) rfl rfl rfl ?_
  refine rn_top (x := nI (if cnt c 1 = cnt c 2 then 1 else 2)) (y := nI (wn (fl c))) (congrArg nI (alt_wn ha)) ?_
  refine rb (i' := 5) (ls' := [some (vR 0), some (vI (nI c)), some (vI (nI (wn (fl c)))), none, none]) (st' := [vI (nI (wn (fl c))), vR 0]) (L' := (mL zz (nI (cnt c 1)) (nI (cnt c 2)) W f)) 3 (fun _ _ => rfl) ?_
  refine rn_call (a := 72) (As := [vR 0, vI (nI (wn (fl c)))]) (t := 6) (ls' := [some (vR 0), some (vI (nI c)), some (vI (nI (wn (fl c)))), none, none]) (st' := []) (fun Fu F => cq_75_5 (evF Fu _) F _ _ _ _ _ _) (r_three hB (by have := wn_12 (fl c); omega)) ?_
  refine rn_eq (ls' := [some (vR 0), some (vI (nI c)), some (vI (nI (wn (fl c)))), none, none]) (st' := [vI (bzb (three c (wn (fl c))))]) (L' := (mL zz (nI (cnt c 1)) (nI (cnt c 2)) W f)) rfl rfl rfl ?_
  refine rn_if (b := 0) (x := bzb (three c (wn (fl c)))) (y := 0) (it := 9) (ie := 7) (ls' := [some (vR 0), some (vI (nI c)), some (vI (nI (wn (fl c)))), none, none]) (st' := []) (fun Fu F => bq_75_6 _ Fu F _ _ _ _) (fun _ => ?_) (fun k1 => absurd (show (bzb (three c (wn (fl c))) : Int32) = (0 : Int32) from by rw [h1]; rfl) (of_decide_eq_false (cmp_eq.symm.trans k1)))
  refine rb (i' := 13) (ls' := [some (vR 0), some (vI (nI c)), some (vI (nI (wn (fl c)))), none, none]) (st' := [vI (3 - (nI (wn (fl c)))), vR 0]) (L' := (mL zz (nI (cnt c 1)) (nI (cnt c 2)) W f)) 4 (fun _ _ => rfl) ?_
  refine rn_top (x := 3 - (nI (wn (fl c)))) (y := nI (3 - wn (fl c))) ((show (3 : Int32) - nI (wn (fl c)) = nI (3 - wn (fl c)) by rcases wn_12 (fl c) with e | e <;> rw [e] <;> decide)) ?_
  refine rn_call (a := 72) (As := [vR 0, vI (nI (3 - wn (fl c)))]) (t := 14) (ls' := [some (vR 0), some (vI (nI c)), some (vI (nI (wn (fl c)))), none, none]) (st' := []) (fun Fu F => cq_75_13 (evF Fu _) F _ _ _ _ _ _) (r_three hB (by have := wn_12 (fl c); omega)) ?_
  refine rn_eq (ls' := [some (vR 0), some (vI (nI c)), some (vI (nI (wn (fl c)))), none, none]) (st' := [vI (bzb (three c (3 - wn (fl c))))]) (L' := (mL zz (nI (cnt c 1)) (nI (cnt c 2)) W f)) rfl rfl rfl ?_
  refine rn_if (b := 0) (x := bzb (three c (3 - wn (fl c)))) (y := 0) (it := 17) (ie := 15) (ls' := [some (vR 0), some (vI (nI c)), some (vI (nI (wn (fl c)))), none, none]) (st' := []) (fun Fu F => bq_75_14 _ Fu F _ _ _ _) (fun _ => ?_) (fun k2 => absurd (show (bzb (three c (3 - wn (fl c))) : Int32) = (0 : Int32) from by rw [h2]; rfl) (of_decide_eq_false (cmp_eq.symm.trans k2)))
  refine rb (i' := 22) (ls' := [some (vR 0), some (vI (nI c)), some (vI (nI (wn (fl c)))), none, none]) (st' := [vI ((nI (cnt c 1)) + (nI (cnt c 2)))]) (L' := (mL zz (nI (cnt c 1)) (nI (cnt c 2)) W f)) 5 (fun _ _ => rfl) ?_
  refine rn_top (x := (nI (cnt c 1)) + (nI (cnt c 2))) (y := nI (fl c)) ((nadd rfl rfl).trans (congrArg nI (cnt_fl c).symm)) ?_
  refine rb (i' := 23) (ls' := [some (vR 0), some (vI (nI c)), some (vI (nI (wn (fl c)))), none, none]) (st' := [vI 9, vI (nI (fl c))]) (L' := (mL zz (nI (cnt c 1)) (nI (cnt c 2)) W f)) 1 (fun _ _ => rfl) ?_
  refine rn_if (b := 1) (x := nI (fl c)) (y := 9) (it := 26) (ie := 24) (ls' := [some (vR 0), some (vI (nI c)), some (vI (nI (wn (fl c)))), none, none]) (st' := []) (fun Fu F => bq_75_23 _ Fu F _ _ _ _ _) (fun k3 => absurd (of_decide_eq_true (cmp_ne.symm.trans k3)) (show ¬ (¬ (nI (fl c) : Int32) = (9 : Int32)) from fun z => z (by rw [h9]; rfl))) (fun _ => ?_)
  refine rb (i' := 25) (ls' := [some (vR 0), some (vI (nI c)), some (vI (nI (wn (fl c)))), none, none]) (st' := [vI 0]) (L' := (mL zz (nI (cnt c 1)) (nI (cnt c 2)) W f)) 1 (fun _ _ => rfl) ?_
  exact rn_fin (fun _ _ => rfl) (rfl)
theorem w_4 {D c : Nat} {W f : FA} {res : Option PV × QH FA} (hB : Bd f c) (ha : alt c = true) (h1 : three c (wn (fl c)) = false) (h2 : three c (3 - wn (fl c)) = false) (h9 : fl c < 9) (hk : Rn (D + 2) 75 30 [some (vR 0), some (vI (nI c)), some (vI (nI (wn (fl c)))), some (vI (-1)), some (vI 0)] [] (mL zz (nI (cnt c 1)) (nI (cnt c 2)) W f) res) : Rn (D + 2) 75 0 [some (vR 0), some (vI (nI c)), none, none, none] [] (mL zz (nI (cnt c 1)) (nI (cnt c 2)) W f) res := by
  refine rb (i' := 1) (ls' := [some (vR 0), some (vI (nI c)), none, none, none]) (st' := [vR 0]) (L' := (mL zz (nI (cnt c 1)) (nI (cnt c 2)) W f)) 1 (fun _ _ => rfl) ?_
  refine rn_call (a := 76) (As := [vR 0]) (t := 2) (ls' := [some (vR 0), some (vI (nI c)), none, none, none]) (st' := []) (fun Fu F => cq_75_1 (evF Fu _) F _ _ _ _ _) (r_next (cnt_lt c).1 (cnt_lt c).2) ?_
  refine rn_eq (ls' := [some (vR 0), some (vI (nI c)), none, none, none]) (st' := [vI (nI (if cnt c 1 = cnt c 2 then 1 else 2))]) (L' := (mL zz (nI (cnt c 1)) (nI (cnt c 2)) W f)) rfl rfl rfl ?_
  refine rn_top (x := nI (if cnt c 1 = cnt c 2 then 1 else 2)) (y := nI (wn (fl c))) (congrArg nI (alt_wn ha)) ?_
  refine rb (i' := 5) (ls' := [some (vR 0), some (vI (nI c)), some (vI (nI (wn (fl c)))), none, none]) (st' := [vI (nI (wn (fl c))), vR 0]) (L' := (mL zz (nI (cnt c 1)) (nI (cnt c 2)) W f)) 3 (fun _ _ => rfl) ?_
  refine rn_call (a := 72) (As := [vR 0, vI (nI (wn (fl c)))]) (t := 6) (ls' := [some (vR 0), some (vI (nI c)), some (vI (nI (wn (fl c)))), none, none]) (st' := []) (fun Fu F => cq_75_5 (evF Fu _) F _ _ _ _ _ _) (r_three hB (by have := wn_12 (fl c); omega)) ?_
  refine rn_eq (ls' := [some (vR 0), some (vI (nI c)), some (vI (nI (wn (fl c)))), none, none]) (st' := [vI (bzb (three c (wn (fl c))))]) (L' := (mL zz (nI (cnt c 1)) (nI (cnt c 2)) W f)) rfl rfl rfl ?_
  refine rn_if (b := 0) (x := bzb (three c (wn (fl c)))) (y := 0) (it := 9) (ie := 7) (ls' := [some (vR 0), some (vI (nI c)), some (vI (nI (wn (fl c)))), none, none]) (st' := []) (fun Fu F => bq_75_6 _ Fu F _ _ _ _) (fun _ => ?_) (fun k1 => absurd (show (bzb (three c (wn (fl c))) : Int32) = (0 : Int32) from by rw [h1]; rfl) (of_decide_eq_false (cmp_eq.symm.trans k1)))
  refine rb (i' := 13) (ls' := [some (vR 0), some (vI (nI c)), some (vI (nI (wn (fl c)))), none, none]) (st' := [vI (3 - (nI (wn (fl c)))), vR 0]) (L' := (mL zz (nI (cnt c 1)) (nI (cnt c 2)) W f)) 4 (fun _ _ => rfl) ?_
  refine rn_top (x := 3 - (nI (wn (fl c)))) (y := nI (3 - wn (fl c))) ((show (3 : Int32) - nI (wn (fl c)) = nI (3 - wn (fl c)) by rcases wn_12 (fl c) with e | e <;> rw [e] <;> decide)) ?_
  refine rn_call (a := 72) (As := [vR 0, vI (nI (3 - wn (fl c)))]) (t := 14) (ls' := [some (vR 0), some (vI (nI c)), some (vI (nI (wn (fl c)))), none, none]) (st' := []) (fun Fu F => cq_75_13 (evF Fu _) F _ _ _ _ _ _) (r_three hB (by have := wn_12 (fl c); omega)) ?_
  refine rn_eq (ls' := [some (vR 0), some (vI (nI c)), some (vI (nI (wn (fl c)))), none, none]) (st' := [vI (bzb (three c (3 - wn (fl c))))]) (L' := (mL zz (nI (cnt c 1)) (nI (cnt c 2)) W f)) rfl rfl rfl ?_
  refine rn_if (b := 0) (x := bzb (three c (3 - wn (fl c)))) (y := 0) (it := 17) (ie := 15) (ls' := [some (vR 0), some (vI (nI c)), some (vI (nI (wn (fl c)))), none, none]) (st' := []) (fun Fu F => bq_75_14 _ Fu F _ _ _ _) (fun _ => ?_) (fun k2 => absurd (show (bzb (three c (3 - wn (fl c))) : Int32) = (0 : Int32) from by rw [h2]; rfl) (of_decide_eq_false (cmp_eq.symm.trans k2)))
  refine rb (i' := 22) (ls' := [some (vR 0), some (vI (nI c)), some (vI (nI (wn (fl c)))), none, none]) (st' := [vI ((nI (cnt c 1)) + (nI (cnt c 2)))]) (L' := (mL zz (nI (cnt c 1)) (nI (cnt c 2)) W f)) 5 (fun _ _ => rfl) ?_
  refine rn_top (x := (nI (cnt c 1)) + (nI (cnt c 2))) (y := nI (fl c)) ((nadd rfl rfl).trans (congrArg nI (cnt_fl c).symm)) ?_
  refine rb (i' := 23) (ls' := [some (vR 0), some (vI (nI c)), some (vI (nI (wn (fl c)))), none, none]) (st' := [vI 9, vI (nI (fl c))]) (L' := (mL zz (nI (cnt c 1)) (nI (cnt c 2)) W f)) 1 (fun _ _ => rfl) ?_
  refine rn_if (b := 1) (x := nI (fl c)) (y := 9) (it := 26) (ie := 24) (ls' := [some (vR 0), some (vI (nI c)), some (vI (nI (wn (fl c)))), none, none]) (st' := []) (fun Fu F => bq_75_23 _ Fu F _ _ _ _ _) (fun _ => ?_) (fun k3 => absurd (show ¬ (nI (fl c) : Int32) = (9 : Int32) from fun z => by have := (gnI_inj (a := fl c) (b := 9) (by omega) (by decide)).mp z; omega) (of_decide_eq_false (cmp_ne.symm.trans k3)))
  refine rb (i' := 30) (ls' := [some (vR 0), some (vI (nI c)), some (vI (nI (wn (fl c)))), some (vI ((-1))), some (vI 0)]) (st' := []) (L' := (mL zz (nI (cnt c 1)) (nI (cnt c 2)) W f)) 4 (fun _ _ => rfl) ?_
  exact hk
theorem w_l9 {D c : Nat} {W f : FA} {b : Int32} : Rn (D + 2) 75 30 [some (vR 0), some (vI (nI c)), some (vI (nI (wn (fl c)))), some (vI b), some (vI (nI 9))] [] (mL zz (nI (cnt c 1)) (nI (cnt c 2)) W f) (some (vI b), mL zz (nI (cnt c 1)) (nI (cnt c 2)) W f) := by
  refine rb (i' := 32) (ls' := [some (vR 0), some (vI (nI c)), some (vI (nI (wn (fl c)))), some (vI b), some (vI (nI 9))]) (st' := [vI 9, vI (nI 9)]) (L' := (mL zz (nI (cnt c 1)) (nI (cnt c 2)) W f)) 2 (fun _ _ => rfl) ?_
  refine rn_if (b := 3) (x := nI 9) (y := 9) (it := 55) (ie := 33) (ls' := [some (vR 0), some (vI (nI c)), some (vI (nI (wn (fl c)))), some (vI b), some (vI (nI 9))]) (st' := []) (fun Fu F => bq_75_32 _ Fu F _ _ _ _ _) (fun _ => ?_) (fun k1 => absurd (show (9 : Int32) ≤ (nI 9 : Int32) from Int32.le_refl _) (of_decide_eq_false (cmp_ge.symm.trans k1)))
  refine rb (i' := 56) (ls' := [some (vR 0), some (vI (nI c)), some (vI (nI (wn (fl c)))), some (vI b), some (vI (nI 9))]) (st' := [vI b]) (L' := (mL zz (nI (cnt c 1)) (nI (cnt c 2)) W f)) 1 (fun _ _ => rfl) ?_
  exact rn_fin (fun _ _ => rfl) (rfl)
theorem w_lk {D c i : Nat} {W f : FA} {b : Int32} {res : Option PV × QH FA} (hi : i < 9) (hB : Bd f c) (hd : ¬ dg c i = 0) (hk : Rn (D + 2) 75 30 [some (vR 0), some (vI (nI c)), some (vI (nI (wn (fl c)))), some (vI b), some (vI (nI (i + 1)))] [] (mL zz (nI (cnt c 1)) (nI (cnt c 2)) W f) res) : Rn (D + 2) 75 30 [some (vR 0), some (vI (nI c)), some (vI (nI (wn (fl c)))), some (vI b), some (vI (nI i))] [] (mL zz (nI (cnt c 1)) (nI (cnt c 2)) W f) res := by
  refine rb (i' := 32) (ls' := [some (vR 0), some (vI (nI c)), some (vI (nI (wn (fl c)))), some (vI b), some (vI (nI i))]) (st' := [vI 9, vI (nI i)]) (L' := (mL zz (nI (cnt c 1)) (nI (cnt c 2)) W f)) 2 (fun _ _ => rfl) ?_
  refine rn_if (b := 3) (x := nI i) (y := 9) (it := 55) (ie := 33) (ls' := [some (vR 0), some (vI (nI c)), some (vI (nI (wn (fl c)))), some (vI b), some (vI (nI i))]) (st' := []) (fun Fu F => bq_75_32 _ Fu F _ _ _ _ _) (fun k1 => absurd (of_decide_eq_true (cmp_ge.symm.trans k1)) (show ¬ ((9 : Int32) ≤ (nI i : Int32)) from nI_ge hi (by decide))) (fun _ => ?_)
  refine rb (i' := 36) (ls' := [some (vR 0), some (vI (nI c)), some (vI (nI (wn (fl c)))), some (vI b), some (vI (nI i))]) (st' := [vI (nI i), vR 2]) (L' := (mL zz (nI (cnt c 1)) (nI (cnt c 2)) W f)) 3 (fun _ _ => rfl) ?_
  refine rn_g (g := (Nat.beq 0 0 && pin (nI i) 9)) (i' := 37) (ls' := [some (vR 0), some (vI (nI c)), some (vI (nI (wn (fl c)))), some (vI b), some (vI (nI i))]) (st' := [vI (f (ix (nI i)))]) (L' := (mL zz (nI (cnt c 1)) (nI (cnt c 2)) W f)) (fun _ _ => rfl) (gpin_nI hi (by decide)) ?_
  refine rn_top (x := f (ix (nI i))) (y := nI (dg c i)) ((congrArg f (gix_nI (by omega))).trans (hB i hi)) ?_
  refine rn_if (b := 1) (x := nI (dg c i)) (y := 0) (it := 53) (ie := 38) (ls' := [some (vR 0), some (vI (nI c)), some (vI (nI (wn (fl c)))), some (vI b), some (vI (nI i))]) (st' := []) (fun Fu F => bq_75_37 _ Fu F _ _ _ _) (fun _ => ?_) (fun k2 => absurd (show ¬ (nI (dg c i) : Int32) = (0 : Int32) from fun z => hd ((gnI_inj (by have := dg_lt c i; omega) (by decide)).mp z)) (of_decide_eq_false (cmp_ne.symm.trans k2)))
  refine rb (i' := 30) (ls' := [some (vR 0), some (vI (nI c)), some (vI (nI (wn (fl c)))), some (vI b), some (vI (nI i + 1))]) (st' := []) (L' := (mL zz (nI (cnt c 1)) (nI (cnt c 2)) W f)) 2 (fun _ _ => rfl) ?_
  rw [nadd (rfl : nI i = nI i) (rfl : (1 : Int32) = nI 1)]
  exact hk
theorem w_lm {D c i : Nat} {W f : FA} {b : Int32} {res : Option PV × QH FA} (hi : i < 9) (hB : Bd f c) (hd : dg c i = 0) (hc' : c + wn (fl c) * 3 ^ (8 - i) < 19683) (hk : Rn (D + 2) 75 30 [some (vR 0), some (vI (nI c)), some (vI (nI (wn (fl c)))), some (vI (gmax b (-(W (c + wn (fl c) * 3 ^ (8 - i)))))), some (vI (nI (i + 1)))] [] (mL zz (nI (cnt c 1)) (nI (cnt c 2)) W f) res) : Rn (D + 2) 75 30 [some (vR 0), some (vI (nI c)), some (vI (nI (wn (fl c)))), some (vI b), some (vI (nI i))] [] (mL zz (nI (cnt c 1)) (nI (cnt c 2)) W f) res := by
  refine rb (i' := 32) (ls' := [some (vR 0), some (vI (nI c)), some (vI (nI (wn (fl c)))), some (vI b), some (vI (nI i))]) (st' := [vI 9, vI (nI i)]) (L' := (mL zz (nI (cnt c 1)) (nI (cnt c 2)) W f)) 2 (fun _ _ => rfl) ?_
  refine rn_if (b := 3) (x := nI i) (y := 9) (it := 55) (ie := 33) (ls' := [some (vR 0), some (vI (nI c)), some (vI (nI (wn (fl c)))), some (vI b), some (vI (nI i))]) (st' := []) (fun Fu F => bq_75_32 _ Fu F _ _ _ _ _) (fun k1 => absurd (of_decide_eq_true (cmp_ge.symm.trans k1)) (show ¬ ((9 : Int32) ≤ (nI i : Int32)) from nI_ge hi (by decide))) (fun _ => ?_)
  refine rb (i' := 36) (ls' := [some (vR 0), some (vI (nI c)), some (vI (nI (wn (fl c)))), some (vI b), some (vI (nI i))]) (st' := [vI (nI i), vR 2]) (L' := (mL zz (nI (cnt c 1)) (nI (cnt c 2)) W f)) 3 (fun _ _ => rfl) ?_
  refine rn_g (g := (Nat.beq 0 0 && pin (nI i) 9)) (i' := 37) (ls' := [some (vR 0), some (vI (nI c)), some (vI (nI (wn (fl c)))), some (vI b), some (vI (nI i))]) (st' := [vI (f (ix (nI i)))]) (L' := (mL zz (nI (cnt c 1)) (nI (cnt c 2)) W f)) (fun _ _ => rfl) (gpin_nI hi (by decide)) ?_
  refine rn_top (x := f (ix (nI i))) (y := nI (dg c i)) ((congrArg f (gix_nI (by omega))).trans (hB i hi)) ?_
  refine rn_if (b := 1) (x := nI (dg c i)) (y := 0) (it := 53) (ie := 38) (ls' := [some (vR 0), some (vI (nI c)), some (vI (nI (wn (fl c)))), some (vI b), some (vI (nI i))]) (st' := []) (fun Fu F => bq_75_37 _ Fu F _ _ _ _) (fun k2 => absurd (of_decide_eq_true (cmp_ne.symm.trans k2)) (show ¬ (¬ (nI (dg c i) : Int32) = (0 : Int32)) from fun z => z (by rw [hd]; rfl))) (fun _ => ?_)
  refine rb (i' := 46) (ls' := [some (vR 0), some (vI (nI c)), some (vI (nI (wn (fl c)))), some (vI b), some (vI (nI i))]) (st' := [vI (nI i), vR 0, vI (nI (wn (fl c))), vI (nI c), vR 1, vI b, vR 0]) (L' := (mL zz (nI (cnt c 1)) (nI (cnt c 2)) W f)) 8 (fun _ _ => rfl) ?_
  refine rn_call (a := 77) (As := [vR 0, vI (nI i)]) (t := 47) (ls' := [some (vR 0), some (vI (nI c)), some (vI (nI (wn (fl c)))), some (vI b), some (vI (nI i))]) (st' := [vI (nI (wn (fl c))), vI (nI c), vR 1, vI b, vR 0]) (fun Fu F => cq_75_46 (evF Fu _) F _ _ _ _ _ _ _ _ _ _ _) (r_powr hi) ?_
  refine rn_eq (ls' := [some (vR 0), some (vI (nI c)), some (vI (nI (wn (fl c)))), some (vI b), some (vI (nI i))]) (st' := [vI (nI (3 ^ (8 - i))), vI (nI (wn (fl c))), vI (nI c), vR 1, vI b, vR 0]) (L' := (mL zz (nI (cnt c 1)) (nI (cnt c 2)) W f)) rfl rfl rfl ?_
  refine rb (i' := 48) (ls' := [some (vR 0), some (vI (nI c)), some (vI (nI (wn (fl c)))), some (vI b), some (vI (nI i))]) (st' := [vI ((nI (wn (fl c))) * (nI (3 ^ (8 - i)))), vI (nI c), vR 1, vI b, vR 0]) (L' := (mL zz (nI (cnt c 1)) (nI (cnt c 2)) W f)) 1 (fun _ _ => rfl) ?_
  refine rn_top (x := (nI (wn (fl c))) * (nI (3 ^ (8 - i)))) (y := nI (wn (fl c) * 3 ^ (8 - i))) (nmul rfl rfl) ?_
  refine rb (i' := 49) (ls' := [some (vR 0), some (vI (nI c)), some (vI (nI (wn (fl c)))), some (vI b), some (vI (nI i))]) (st' := [vI ((nI c) + (nI (wn (fl c) * 3 ^ (8 - i)))), vR 1, vI b, vR 0]) (L' := (mL zz (nI (cnt c 1)) (nI (cnt c 2)) W f)) 1 (fun _ _ => rfl) ?_
  refine rn_top (x := (nI c) + (nI (wn (fl c) * 3 ^ (8 - i)))) (y := nI (c + wn (fl c) * 3 ^ (8 - i))) (nadd rfl rfl) ?_
  refine rn_g (g := (Nat.beq 0 0 && pin (nI (c + wn (fl c) * 3 ^ (8 - i))) 19683)) (i' := 50) (ls' := [some (vR 0), some (vI (nI c)), some (vI (nI (wn (fl c)))), some (vI b), some (vI (nI i))]) (st' := [vI (W (ix (nI (c + wn (fl c) * 3 ^ (8 - i))))), vI b, vR 0]) (L' := (mL zz (nI (cnt c 1)) (nI (cnt c 2)) W f)) (fun _ _ => rfl) (gpin_nI hc' (by decide)) ?_
  refine rn_top (x := W (ix (nI (c + wn (fl c) * 3 ^ (8 - i))))) (y := W (c + wn (fl c) * 3 ^ (8 - i))) (congrArg W (gix_nI (by omega))) ?_
  refine rb (i' := 51) (ls' := [some (vR 0), some (vI (nI c)), some (vI (nI (wn (fl c)))), some (vI b), some (vI (nI i))]) (st' := [vI (-(W (c + wn (fl c) * 3 ^ (8 - i)))), vI b, vR 0]) (L' := (mL zz (nI (cnt c 1)) (nI (cnt c 2)) W f)) 1 (fun _ _ => rfl) ?_
  refine rn_call (a := 68) (As := [vR 0, vI b, vI (-(W (c + wn (fl c) * 3 ^ (8 - i))))]) (t := 52) (ls' := [some (vR 0), some (vI (nI c)), some (vI (nI (wn (fl c)))), some (vI b), some (vI (nI i))]) (st' := []) (fun Fu F => cq_75_51 (evF Fu _) F _ _ _ _ _ _ _) (r_great) ?_
  refine rn_eq (ls' := [some (vR 0), some (vI (nI c)), some (vI (nI (wn (fl c)))), some (vI b), some (vI (nI i))]) (st' := [vI (gmax b (-(W (c + wn (fl c) * 3 ^ (8 - i)))))]) (L' := (mL zz (nI (cnt c 1)) (nI (cnt c 2)) W f)) rfl rfl rfl ?_
  refine rb (i' := 53) (ls' := [some (vR 0), some (vI (nI c)), some (vI (nI (wn (fl c)))), some (vI (gmax b (-(W (c + wn (fl c) * 3 ^ (8 - i)))))), some (vI (nI i))]) (st' := []) (L' := (mL zz (nI (cnt c 1)) (nI (cnt c 2)) W f)) 1 (fun _ _ => rfl) ?_
  refine rb (i' := 30) (ls' := [some (vR 0), some (vI (nI c)), some (vI (nI (wn (fl c)))), some (vI (gmax b (-(W (c + wn (fl c) * 3 ^ (8 - i)))))), some (vI (nI i + 1))]) (st' := []) (L' := (mL zz (nI (cnt c 1)) (nI (cnt c 2)) W f)) 2 (fun _ _ => rfl) ?_
  rw [nadd (rfl : nI i = nI i) (rfl : (1 : Int32) = nI 1)]
  exact hk
def WI (W : FA) (lo : Nat) : Prop := ∀ c, lo ≤ c → c < 19683 → W c = if alt c = true then Vc c else 0
theorem mv_gt {c i w : Nat} (hw : w = 1 ∨ w = 2) : c < c + w * 3 ^ (8 - i) := by
  have : 0 < 3 ^ (8 - i) := Nat.pow_pos (by decide)
  rcases hw with rfl | rfl <;> omega
theorem w_loop {D c : Nat} {W f : FA} (hc : c < 19683) (hB : Bd f c) (ha : alt c = true) (hW : WI W (c + 1)) : ∀ (t i : Nat), i + t = 9 → Rn (D + 2) 75 30 [some (vR 0), some (vI (nI c)), some (vI (nI (wn (fl c)))), some (vI (gf Vc (wn (fl c)) c i)), some (vI (nI i))] [] (mL zz (nI (cnt c 1)) (nI (cnt c 2)) W f) (some (vI (gf Vc (wn (fl c)) c 9)), mL zz (nI (cnt c 1)) (nI (cnt c 2)) W f) := by
  intro t
  induction t with
  | zero =>
    intro i hi
    obtain rfl : i = 9 := by omega
    exact w_l9
  | succ t ih =>
    intro i hi
    have hi9 : i < 9 := by omega
    have h := ih (i + 1) (by omega)
    by_cases hd : dg c i = 0
    · have hlt := mv_lt hc hi9 hd (wn_12 (fl c))
      refine w_lm hi9 hB hd hlt ?_
      have e : W (c + wn (fl c) * 3 ^ (8 - i)) = Vc (c + wn (fl c) * 3 ^ (8 - i)) := by
        rw [hW _ (mv_gt (wn_12 (fl c))) hlt, if_pos (alt_mv ha hi9 hd)]
      have e2 : gf Vc (wn (fl c)) c (i + 1) = gmax (gf Vc (wn (fl c)) c i) (-(Vc (c + wn (fl c) * 3 ^ (8 - i)))) := by rw [gf, if_pos hd]
      rw [e, ← e2]
      exact h
    · refine w_lk hi9 hB hd ?_
      have e2 : gf Vc (wn (fl c)) c (i + 1) = gf Vc (wn (fl c)) c i := by rw [gf, if_neg hd]
      rw [← e2]
      exact h
theorem r_worth {D c : Nat} {W f : FA} (hc : c < 19683) (hB : Bd f c) (ha : alt c = true) (hW : WI W (c + 1)) : MC (D + 3) 75 [vR 0, vI (nI c)] (mL zz (nI (cnt c 1)) (nI (cnt c 2)) W f) (some (vI (Vc c)), mL zz (nI (cnt c 1)) (nI (cnt c 2)) W f) := by
  by_cases h1 : three c (wn (fl c)) = true
  · rw [Vc_1 h1]
    exact w_1 hB ha h1
  · by_cases h2 : three c (3 - wn (fl c)) = true
    · rw [Vc_2 h1 h2]
      exact w_2 hB ha (Bool.eq_false_iff.mpr h1) h2
    · by_cases h9 : fl c = 9
      · rw [Vc_9 h1 h2 h9]
        exact w_3 hB ha (Bool.eq_false_iff.mpr h1) (Bool.eq_false_iff.mpr h2) h9
      · have hlt : fl c < 9 := by have := fl_le c; omega
        rw [Vc_n h1 h2 hlt]
        exact mc_of rfl (w_4 hB ha (Bool.eq_false_iff.mpr h1) (Bool.eq_false_iff.mpr h2) hlt (w_loop hc hB ha hW 9 0 rfl))
theorem fw_e {D lo : Nat} {U E x : Int32} {W f : FA} (h : x < nI lo) : Rn D 74 2 [some (vR 0), some (vI (nI lo)), some (vI x)] [] (mL zz U E W f) (none, mL zz U E W f) := by
  refine rb (i' := 4) (ls' := [some (vR 0), some (vI (nI lo)), some (vI x)]) (st' := [vI (nI lo), vI x]) (L' := (mL zz U E W f)) 2 (fun _ _ => rfl) ?_
  refine rn_if (b := 2) (x := x) (y := nI lo) (it := 32) (ie := 5) (ls' := [some (vR 0), some (vI (nI lo)), some (vI x)]) (st' := []) (fun Fu F => bq_74_4 _ Fu F _ _ _ _ _) (fun _ => ?_) (fun k1 => absurd (show (x : Int32) < (nI lo : Int32) from h) (of_decide_eq_false (cmp_lt.symm.trans k1)))
  exact rn_ret (fun _ _ => rfl)
theorem fw_a {D lo c : Nat} {U E : Int32} {W f f' : FA} {res : Option PV × QH FA} (hlo : lo ≤ c) (hc : c < 19683) (hN : MC (D + 1) 71 [vR 0, vI (nI c), vI 3] (mL zz U E W f) (none, mL zz (nI (cnt c 1)) (nI (cnt c 2)) W f')) {x : Int32} (h : cnt c 1 = cnt c 2) (hM : MC (D + 1) 75 [vR 0, vI (nI c)] (mL zz (nI (cnt c 1)) (nI (cnt c 2)) W f') (some (vI x), mL zz (nI (cnt c 1)) (nI (cnt c 2)) W f')) (hk : Rn (D + 1) 74 2 [some (vR 0), some (vI (nI lo)), some (vI (nI c + (-1)))] [] (mL zz (nI (cnt c 1)) (nI (cnt c 2)) (upd W c x) f') res) : Rn (D + 1) 74 2 [some (vR 0), some (vI (nI lo)), some (vI (nI c))] [] (mL zz U E W f) res := by
  have hcl := cnt_lt c
  refine rb (i' := 4) (ls' := [some (vR 0), some (vI (nI lo)), some (vI (nI c))]) (st' := [vI (nI lo), vI (nI c)]) (L' := (mL zz U E W f)) 2 (fun _ _ => rfl) ?_
  refine rn_if (b := 2) (x := nI c) (y := nI lo) (it := 32) (ie := 5) (ls' := [some (vR 0), some (vI (nI lo)), some (vI (nI c))]) (st' := []) (fun Fu F => bq_74_4 _ Fu F _ _ _ _ _) (fun k1 => absurd (of_decide_eq_true (cmp_lt.symm.trans k1)) (show ¬ ((nI c : Int32) < (nI lo : Int32)) from nI_nlt hlo (by omega))) (fun _ => ?_)
  refine rb (i' := 8) (ls' := [some (vR 0), some (vI (nI lo)), some (vI (nI c))]) (st' := [vI 3, vI (nI c), vR 0]) (L' := (mL zz U E W f)) 3 (fun _ _ => rfl) ?_
  refine rn_call (a := 71) (As := [vR 0, vI (nI c), vI 3]) (t := 9) (ls' := [some (vR 0), some (vI (nI lo)), some (vI (nI c))]) (st' := []) (fun Fu F => cq_74_8 (evF Fu _) F _ _ _ _ _ _ _) (hN) ?_
  refine rn_eq (ls' := [some (vR 0), some (vI (nI lo)), some (vI (nI c))]) (st' := []) (L' := (mL zz (nI (cnt c 1)) (nI (cnt c 2)) W f')) rfl rfl rfl ?_
  refine rb (i' := 16) (ls' := [some (vR 0), some (vI (nI lo)), some (vI (nI c))]) (st' := [vI (nI (cnt c 2)), vI (nI (cnt c 1)), vI (nI c), vR 1]) (L' := (mL zz (nI (cnt c 1)) (nI (cnt c 2)) W f')) 7 (fun _ _ => rfl) ?_
  refine rn_if (b := 0) (x := nI (cnt c 1)) (y := nI (cnt c 2)) (it := 24) (ie := 17) (ls' := [some (vR 0), some (vI (nI lo)), some (vI (nI c))]) (st' := [vI (nI c), vR 1]) (fun Fu F => bq_74_16 _ Fu F _ _ _ _ _) (fun _ => ?_) (fun k2 => absurd (show (nI (cnt c 1) : Int32) = (nI (cnt c 2) : Int32) from by rw [h]) (of_decide_eq_false (cmp_eq.symm.trans k2)))
  refine rb (i' := 26) (ls' := [some (vR 0), some (vI (nI lo)), some (vI (nI c))]) (st' := [vI (nI c), vR 0, vI (nI c), vR 1]) (L' := (mL zz (nI (cnt c 1)) (nI (cnt c 2)) W f')) 2 (fun _ _ => rfl) ?_
  refine rn_call (a := 75) (As := [vR 0, vI (nI c)]) (t := 27) (ls' := [some (vR 0), some (vI (nI lo)), some (vI (nI c))]) (st' := [vI (nI c), vR 1]) (fun Fu F => cq_74_26 (evF Fu _) F _ _ _ _ _ _ _ _) (hM) ?_
  refine rn_eq (ls' := [some (vR 0), some (vI (nI lo)), some (vI (nI c))]) (st' := [vI x, vI (nI c), vR 1]) (L' := (mL zz (nI (cnt c 1)) (nI (cnt c 2)) W f')) rfl rfl rfl ?_
  refine rb (i' := 29) (ls' := [some (vR 0), some (vI (nI lo)), some (vI (nI c))]) (st' := [vI x, vI (nI c), vR 1]) (L' := (mL zz (nI (cnt c 1)) (nI (cnt c 2)) W f')) 1 (fun _ _ => rfl) ?_
  refine rn_g (g := (Nat.beq 0 0 && pin (nI c) 19683)) (i' := 30) (ls' := [some (vR 0), some (vI (nI lo)), some (vI (nI c))]) (st' := []) (L' := (mL zz (nI (cnt c 1)) (nI (cnt c 2)) (upd W (ix (nI c)) x) f')) (fun _ _ => rfl) (gpin_nI hc (by decide)) ?_
  refine rn_eq (ls' := [some (vR 0), some (vI (nI lo)), some (vI (nI c))]) (st' := []) (L' := (mL zz (nI (cnt c 1)) (nI (cnt c 2)) (upd W c x) f')) rfl rfl (by rw [gix_nI (by omega)]) ?_
  refine rb (i' := 31) (ls' := [some (vR 0), some (vI (nI lo)), some (vI ((nI c) + (-1)))]) (st' := []) (L' := (mL zz (nI (cnt c 1)) (nI (cnt c 2)) (upd W c x) f')) 1 (fun Fu F => iq_2_3 (rnF Fu _ 74 F) 31 (-1) _ _ _ _ _) ?_
  refine rb (i' := 2) (ls' := [some (vR 0), some (vI (nI lo)), some (vI ((nI c) + (-1)))]) (st' := []) (L' := (mL zz (nI (cnt c 1)) (nI (cnt c 2)) (upd W c x) f')) 1 (fun _ _ => rfl) ?_
  exact hk
theorem fw_b {D lo c : Nat} {U E : Int32} {W f f' : FA} {res : Option PV × QH FA} (hlo : lo ≤ c) (hc : c < 19683) (hN : MC (D + 1) 71 [vR 0, vI (nI c), vI 3] (mL zz U E W f) (none, mL zz (nI (cnt c 1)) (nI (cnt c 2)) W f')) {x : Int32} (h : cnt c 1 = cnt c 2 + 1) (hM : MC (D + 1) 75 [vR 0, vI (nI c)] (mL zz (nI (cnt c 1)) (nI (cnt c 2)) W f') (some (vI x), mL zz (nI (cnt c 1)) (nI (cnt c 2)) W f')) (hk : Rn (D + 1) 74 2 [some (vR 0), some (vI (nI lo)), some (vI (nI c + (-1)))] [] (mL zz (nI (cnt c 1)) (nI (cnt c 2)) (upd W c x) f') res) : Rn (D + 1) 74 2 [some (vR 0), some (vI (nI lo)), some (vI (nI c))] [] (mL zz U E W f) res := by
  have hcl := cnt_lt c
  refine rb (i' := 4) (ls' := [some (vR 0), some (vI (nI lo)), some (vI (nI c))]) (st' := [vI (nI lo), vI (nI c)]) (L' := (mL zz U E W f)) 2 (fun _ _ => rfl) ?_
  refine rn_if (b := 2) (x := nI c) (y := nI lo) (it := 32) (ie := 5) (ls' := [some (vR 0), some (vI (nI lo)), some (vI (nI c))]) (st' := []) (fun Fu F => bq_74_4 _ Fu F _ _ _ _ _) (fun k1 => absurd (of_decide_eq_true (cmp_lt.symm.trans k1)) (show ¬ ((nI c : Int32) < (nI lo : Int32)) from nI_nlt hlo (by omega))) (fun _ => ?_)
  refine rb (i' := 8) (ls' := [some (vR 0), some (vI (nI lo)), some (vI (nI c))]) (st' := [vI 3, vI (nI c), vR 0]) (L' := (mL zz U E W f)) 3 (fun _ _ => rfl) ?_
  refine rn_call (a := 71) (As := [vR 0, vI (nI c), vI 3]) (t := 9) (ls' := [some (vR 0), some (vI (nI lo)), some (vI (nI c))]) (st' := []) (fun Fu F => cq_74_8 (evF Fu _) F _ _ _ _ _ _ _) (hN) ?_
  refine rn_eq (ls' := [some (vR 0), some (vI (nI lo)), some (vI (nI c))]) (st' := []) (L' := (mL zz (nI (cnt c 1)) (nI (cnt c 2)) W f')) rfl rfl rfl ?_
  refine rb (i' := 16) (ls' := [some (vR 0), some (vI (nI lo)), some (vI (nI c))]) (st' := [vI (nI (cnt c 2)), vI (nI (cnt c 1)), vI (nI c), vR 1]) (L' := (mL zz (nI (cnt c 1)) (nI (cnt c 2)) W f')) 7 (fun _ _ => rfl) ?_
  refine rn_if (b := 0) (x := nI (cnt c 1)) (y := nI (cnt c 2)) (it := 24) (ie := 17) (ls' := [some (vR 0), some (vI (nI lo)), some (vI (nI c))]) (st' := [vI (nI c), vR 1]) (fun Fu F => bq_74_16 _ Fu F _ _ _ _ _) (fun k2 => absurd (of_decide_eq_true (cmp_eq.symm.trans k2)) (show ¬ ((nI (cnt c 1) : Int32) = (nI (cnt c 2) : Int32)) from fun z => by have := (gnI_inj hcl.1 hcl.2).mp z; omega)) (fun _ => ?_)
  refine rb (i' := 23) (ls' := [some (vR 0), some (vI (nI lo)), some (vI (nI c))]) (st' := [vI ((nI (cnt c 2)) + 1), vI (nI (cnt c 1)), vI (nI c), vR 1]) (L' := (mL zz (nI (cnt c 1)) (nI (cnt c 2)) W f')) 6 (fun _ _ => rfl) ?_
  refine rn_top (x := (nI (cnt c 2)) + 1) (y := nI (cnt c 2 + 1)) (nadd rfl (rfl : (1 : Int32) = nI 1)) ?_
  refine rn_if (b := 1) (x := nI (cnt c 1)) (y := nI (cnt c 2 + 1)) (it := 28) (ie := 24) (ls' := [some (vR 0), some (vI (nI lo)), some (vI (nI c))]) (st' := [vI (nI c), vR 1]) (fun Fu F => bq_74_23 _ Fu F _ _ _ _ _) (fun k3 => absurd (of_decide_eq_true (cmp_ne.symm.trans k3)) (show ¬ (¬ (nI (cnt c 1) : Int32) = (nI (cnt c 2 + 1) : Int32)) from fun z => z (by rw [h]))) (fun _ => ?_)
  refine rb (i' := 26) (ls' := [some (vR 0), some (vI (nI lo)), some (vI (nI c))]) (st' := [vI (nI c), vR 0, vI (nI c), vR 1]) (L' := (mL zz (nI (cnt c 1)) (nI (cnt c 2)) W f')) 2 (fun _ _ => rfl) ?_
  refine rn_call (a := 75) (As := [vR 0, vI (nI c)]) (t := 27) (ls' := [some (vR 0), some (vI (nI lo)), some (vI (nI c))]) (st' := [vI (nI c), vR 1]) (fun Fu F => cq_74_26 (evF Fu _) F _ _ _ _ _ _ _ _) (hM) ?_
  refine rn_eq (ls' := [some (vR 0), some (vI (nI lo)), some (vI (nI c))]) (st' := [vI x, vI (nI c), vR 1]) (L' := (mL zz (nI (cnt c 1)) (nI (cnt c 2)) W f')) rfl rfl rfl ?_
  refine rb (i' := 29) (ls' := [some (vR 0), some (vI (nI lo)), some (vI (nI c))]) (st' := [vI x, vI (nI c), vR 1]) (L' := (mL zz (nI (cnt c 1)) (nI (cnt c 2)) W f')) 1 (fun _ _ => rfl) ?_
  refine rn_g (g := (Nat.beq 0 0 && pin (nI c) 19683)) (i' := 30) (ls' := [some (vR 0), some (vI (nI lo)), some (vI (nI c))]) (st' := []) (L' := (mL zz (nI (cnt c 1)) (nI (cnt c 2)) (upd W (ix (nI c)) x) f')) (fun _ _ => rfl) (gpin_nI hc (by decide)) ?_
  refine rn_eq (ls' := [some (vR 0), some (vI (nI lo)), some (vI (nI c))]) (st' := []) (L' := (mL zz (nI (cnt c 1)) (nI (cnt c 2)) (upd W c x) f')) rfl rfl (by rw [gix_nI (by omega)]) ?_
  refine rb (i' := 31) (ls' := [some (vR 0), some (vI (nI lo)), some (vI ((nI c) + (-1)))]) (st' := []) (L' := (mL zz (nI (cnt c 1)) (nI (cnt c 2)) (upd W c x) f')) 1 (fun Fu F => iq_2_3 (rnF Fu _ 74 F) 31 (-1) _ _ _ _ _) ?_
  refine rb (i' := 2) (ls' := [some (vR 0), some (vI (nI lo)), some (vI ((nI c) + (-1)))]) (st' := []) (L' := (mL zz (nI (cnt c 1)) (nI (cnt c 2)) (upd W c x) f')) 1 (fun _ _ => rfl) ?_
  exact hk
theorem fw_n {D lo c : Nat} {U E : Int32} {W f f' : FA} {res : Option PV × QH FA} (hlo : lo ≤ c) (hc : c < 19683) (hN : MC (D + 1) 71 [vR 0, vI (nI c), vI 3] (mL zz U E W f) (none, mL zz (nI (cnt c 1)) (nI (cnt c 2)) W f')) (h : ¬ (cnt c 1 = cnt c 2 ∨ cnt c 1 = cnt c 2 + 1)) (hk : Rn (D + 1) 74 2 [some (vR 0), some (vI (nI lo)), some (vI (nI c + (-1)))] [] (mL zz (nI (cnt c 1)) (nI (cnt c 2)) (upd W c 0) f') res) : Rn (D + 1) 74 2 [some (vR 0), some (vI (nI lo)), some (vI (nI c))] [] (mL zz U E W f) res := by
  have hcl := cnt_lt c
  refine rb (i' := 4) (ls' := [some (vR 0), some (vI (nI lo)), some (vI (nI c))]) (st' := [vI (nI lo), vI (nI c)]) (L' := (mL zz U E W f)) 2 (fun _ _ => rfl) ?_
  refine rn_if (b := 2) (x := nI c) (y := nI lo) (it := 32) (ie := 5) (ls' := [some (vR 0), some (vI (nI lo)), some (vI (nI c))]) (st' := []) (fun Fu F => bq_74_4 _ Fu F _ _ _ _ _) (fun k1 => absurd (of_decide_eq_true (cmp_lt.symm.trans k1)) (show ¬ ((nI c : Int32) < (nI lo : Int32)) from nI_nlt hlo (by omega))) (fun _ => ?_)
  refine rb (i' := 8) (ls' := [some (vR 0), some (vI (nI lo)), some (vI (nI c))]) (st' := [vI 3, vI (nI c), vR 0]) (L' := (mL zz U E W f)) 3 (fun _ _ => rfl) ?_
  refine rn_call (a := 71) (As := [vR 0, vI (nI c), vI 3]) (t := 9) (ls' := [some (vR 0), some (vI (nI lo)), some (vI (nI c))]) (st' := []) (fun Fu F => cq_74_8 (evF Fu _) F _ _ _ _ _ _ _) (hN) ?_
  refine rn_eq (ls' := [some (vR 0), some (vI (nI lo)), some (vI (nI c))]) (st' := []) (L' := (mL zz (nI (cnt c 1)) (nI (cnt c 2)) W f')) rfl rfl rfl ?_
  refine rb (i' := 16) (ls' := [some (vR 0), some (vI (nI lo)), some (vI (nI c))]) (st' := [vI (nI (cnt c 2)), vI (nI (cnt c 1)), vI (nI c), vR 1]) (L' := (mL zz (nI (cnt c 1)) (nI (cnt c 2)) W f')) 7 (fun _ _ => rfl) ?_
  refine rn_if (b := 0) (x := nI (cnt c 1)) (y := nI (cnt c 2)) (it := 24) (ie := 17) (ls' := [some (vR 0), some (vI (nI lo)), some (vI (nI c))]) (st' := [vI (nI c), vR 1]) (fun Fu F => bq_74_16 _ Fu F _ _ _ _ _) (fun k2 => absurd (of_decide_eq_true (cmp_eq.symm.trans k2)) (show ¬ ((nI (cnt c 1) : Int32) = (nI (cnt c 2) : Int32)) from fun z => h (Or.inl ((gnI_inj hcl.1 hcl.2).mp z)))) (fun _ => ?_)
  refine rb (i' := 23) (ls' := [some (vR 0), some (vI (nI lo)), some (vI (nI c))]) (st' := [vI ((nI (cnt c 2)) + 1), vI (nI (cnt c 1)), vI (nI c), vR 1]) (L' := (mL zz (nI (cnt c 1)) (nI (cnt c 2)) W f')) 6 (fun _ _ => rfl) ?_
  refine rn_top (x := (nI (cnt c 2)) + 1) (y := nI (cnt c 2 + 1)) (nadd rfl (rfl : (1 : Int32) = nI 1)) ?_
  refine rn_if (b := 1) (x := nI (cnt c 1)) (y := nI (cnt c 2 + 1)) (it := 28) (ie := 24) (ls' := [some (vR 0), some (vI (nI lo)), some (vI (nI c))]) (st' := [vI (nI c), vR 1]) (fun Fu F => bq_74_23 _ Fu F _ _ _ _ _) (fun _ => ?_) (fun k3 => absurd (show ¬ (nI (cnt c 1) : Int32) = (nI (cnt c 2 + 1) : Int32) from fun z => h (Or.inr ((nI_eq (by omega) (by omega)).mp z))) (of_decide_eq_false (cmp_ne.symm.trans k3)))
  refine rb (i' := 29) (ls' := [some (vR 0), some (vI (nI lo)), some (vI (nI c))]) (st' := [vI 0, vI (nI c), vR 1]) (L' := (mL zz (nI (cnt c 1)) (nI (cnt c 2)) W f')) 1 (fun _ _ => rfl) ?_
  refine rn_g (g := (Nat.beq 0 0 && pin (nI c) 19683)) (i' := 30) (ls' := [some (vR 0), some (vI (nI lo)), some (vI (nI c))]) (st' := []) (L' := (mL zz (nI (cnt c 1)) (nI (cnt c 2)) (upd W (ix (nI c)) 0) f')) (fun _ _ => rfl) (gpin_nI hc (by decide)) ?_
  refine rn_eq (ls' := [some (vR 0), some (vI (nI lo)), some (vI (nI c))]) (st' := []) (L' := (mL zz (nI (cnt c 1)) (nI (cnt c 2)) (upd W c 0) f')) rfl rfl (by rw [gix_nI (by omega)]) ?_
  refine rb (i' := 31) (ls' := [some (vR 0), some (vI (nI lo)), some (vI ((nI c) + (-1)))]) (st' := []) (L' := (mL zz (nI (cnt c 1)) (nI (cnt c 2)) (upd W c 0) f')) 1 (fun Fu F => iq_2_3 (rnF Fu _ 74 F) 31 (-1) _ _ _ _ _) ?_
  refine rb (i' := 2) (ls' := [some (vR 0), some (vI (nI lo)), some (vI ((nI c) + (-1)))]) (st' := []) (L' := (mL zz (nI (cnt c 1)) (nI (cnt c 2)) (upd W c 0) f')) 1 (fun _ _ => rfl) ?_
  exact hk
theorem WI_up {W : FA} {c : Nat} {x : Int32} (h : WI W (c + 1)) (hx : x = if alt c = true then Vc c else 0) : WI (upd W c x) c := by
  intro c2 h1 h2
  by_cases e : c2 = c
  · subst e
    rw [pk_us, hx]
  · rw [pk_un e]
    exact h c2 (by omega) h2
theorem fw_loop {D lo : Nat} : ∀ (r c : Nat) (U E : Int32) (W f : FA), lo + r = c → c ≤ 19683 → WI W c → ∃ U' E' W' f', WI W' lo ∧ Rn (D + 3) 74 2 [some (vR 0), some (vI (nI lo)), some (vI (nI c + (-1)))] [] (mL zz U E W f) (none, mL zz U' E' W' f') := by
  intro r
  induction r with
  | zero =>
    intro c U E W f hr hc hW
    obtain rfl : lo = c := by omega
    refine ⟨U, E, W, f, hW, fw_e ?_⟩
    cases lo with
    | zero => decide
    | succ k => rw [nI_dec]; exact nI_lt (by omega) (by omega)
  | succ r ih =>
    intro c U E W f hr hc hW
    obtain ⟨k, rfl⟩ : ∃ k, c = k + 1 := ⟨c - 1, by omega⟩
    have hk : k < 19683 := by omega
    rw [nI_dec]
    obtain ⟨f1, hB, hN⟩ := r_n3 (zz := zz) (D := D + 2) (U := U) (E := E) (W := W) (f := f) hk
    by_cases ha : alt k = true
    · have hM := r_worth (zz := zz) (D := D) (W := W) hk hB ha hW
      obtain ⟨U', E', W', f', hW', hr'⟩ := ih k (nI (cnt k 1)) (nI (cnt k 2)) (upd W k (Vc k)) f1 (by omega) (by omega) (WI_up hW (by rw [if_pos ha]))
      refine ⟨U', E', W', f', hW', ?_⟩
      rcases alt_iff.mp ha with h | h
      · exact fw_a (by omega) hk hN h hM hr'
      · exact fw_b (by omega) hk hN h hM hr'
    · obtain ⟨U', E', W', f', hW', hr'⟩ := ih k (nI (cnt k 1)) (nI (cnt k 2)) (upd W k 0) f1 (by omega) (by omega) (WI_up hW (by rw [if_neg ha]))
      exact ⟨U', E', W', f', hW', fw_n (by omega) hk hN (fun q => ha (alt_iff.mpr q)) hr'⟩
theorem r_finds {D lo : Nat} {U E : Int32} {W f : FA} (hlo : lo < 19683) : ∃ U' E' W' f', WI W' lo ∧ MC (D + 4) 74 [vR 0, vI (nI lo)] (mL zz U E W f) (none, mL zz U' E' W' f') := by
  obtain ⟨U', E', W', f', hW', hr⟩ := fw_loop (zz := zz) (D := D) (lo := lo) (19683 - lo) 19683 U E W f (by omega) (Nat.le_refl _) (fun c h1 h2 => by omega)
  refine ⟨U', E', W', f', hW', mc_of rfl ?_⟩
  refine rb (i' := 2) (ls' := [some (vR 0), some (vI (nI lo)), some (vI 19682)]) (st' := []) (L' := mL zz U E W f) 2 (fun _ _ => rfl) ?_
  rw [show (19682 : Int32) = nI 19683 + (-1) by decide +kernel]
  exact hr
theorem ov_1 {D c : Nat} {W f : FA} (hB : Bd f c) (h1 : three c 1 = true) : MC (D + 2 + 1) 78 [vR 0] (mL zz (nI (cnt c 1)) (nI (cnt c 2)) W f) (some (vI 1), mL zz (nI (cnt c 1)) (nI (cnt c 2)) W f) := by
  refine mc_of rfl ?_
  show Rn (D + 2) 78 0 [some (vR 0)] [] (mL zz (nI (cnt c 1)) (nI (cnt c 2)) W f) _
  refine rb (i' := 2) (ls' := [some (vR 0)]) (st' := [vI 1, vR 0]) (L' := (mL zz (nI (cnt c 1)) (nI (cnt c 2)) W f)) 2 (fun _ _ => rfl) ?_
  refine rn_call (a := 72) (As := [vR 0, vI 1]) (t := 3) (ls' := [some (vR 0)]) (st' := []) (fun Fu F => cq_78_2 (evF Fu _) F _ _ _ _ _ _) (r_three (w := 1) hB (by decide)) ?_
  refine rn_eq (ls' := [some (vR 0)]) (st' := [vI (bzb (three c 1))]) (L' := (mL zz (nI (cnt c 1)) (nI (cnt c 2)) W f)) rfl rfl rfl ?_
  refine rn_if (b := 1) (x := bzb (three c 1)) (y := 0) (it := 15) (ie := 4) (ls' := [some (vR 0)]) (st' := []) (fun Fu F => bq_78_3 _ Fu F _ _ _ _) (fun _ => ?_) (fun k1 => absurd (show ¬ (bzb (three c 1) : Int32) = (0 : Int32) from by rw [h1]; decide) (of_decide_eq_false (cmp_ne.symm.trans k1)))
  refine rb (i' := 18) (ls' := [some (vR 0)]) (st' := [vI 1]) (L' := (mL zz (nI (cnt c 1)) (nI (cnt c 2)) W f)) 2 (fun _ _ => rfl) ?_
  exact rn_fin (fun _ _ => rfl) (rfl)
theorem ov_2 {D c : Nat} {W f : FA} (hB : Bd f c) (h1 : three c 1 = false) (h2 : three c 2 = true) : MC (D + 2 + 1) 78 [vR 0] (mL zz (nI (cnt c 1)) (nI (cnt c 2)) W f) (some (vI 1), mL zz (nI (cnt c 1)) (nI (cnt c 2)) W f) := by
  refine mc_of rfl ?_
  show Rn (D + 2) 78 0 [some (vR 0)] [] (mL zz (nI (cnt c 1)) (nI (cnt c 2)) W f) _
  refine rb (i' := 2) (ls' := [some (vR 0)]) (st' := [vI 1, vR 0]) (L' := (mL zz (nI (cnt c 1)) (nI (cnt c 2)) W f)) 2 (fun _ _ => rfl) ?_
  refine rn_call (a := 72) (As := [vR 0, vI 1]) (t := 3) (ls' := [some (vR 0)]) (st' := []) (fun Fu F => cq_78_2 (evF Fu _) F _ _ _ _ _ _) (r_three (w := 1) hB (by decide)) ?_
  refine rn_eq (ls' := [some (vR 0)]) (st' := [vI (bzb (three c 1))]) (L' := (mL zz (nI (cnt c 1)) (nI (cnt c 2)) W f)) rfl rfl rfl ?_
  refine rn_if (b := 1) (x := bzb (three c 1)) (y := 0) (it := 15) (ie := 4) (ls' := [some (vR 0)]) (st' := []) (fun Fu F => bq_78_3 _ Fu F _ _ _ _) (fun k1 => absurd (of_decide_eq_true (cmp_ne.symm.trans k1)) (show ¬ (¬ (bzb (three c 1) : Int32) = (0 : Int32)) from fun z => z (by rw [h1]; rfl))) (fun _ => ?_)
  refine rb (i' := 6) (ls' := [some (vR 0)]) (st' := [vI 2, vR 0]) (L' := (mL zz (nI (cnt c 1)) (nI (cnt c 2)) W f)) 2 (fun _ _ => rfl) ?_
  refine rn_call (a := 72) (As := [vR 0, vI 2]) (t := 7) (ls' := [some (vR 0)]) (st' := []) (fun Fu F => cq_78_6 (evF Fu _) F _ _ _ _ _ _) (r_three (w := 2) hB (by decide)) ?_
  refine rn_eq (ls' := [some (vR 0)]) (st' := [vI (bzb (three c 2))]) (L' := (mL zz (nI (cnt c 1)) (nI (cnt c 2)) W f)) rfl rfl rfl ?_
  refine rn_if (b := 1) (x := bzb (three c 2)) (y := 0) (it := 15) (ie := 8) (ls' := [some (vR 0)]) (st' := []) (fun Fu F => bq_78_7 _ Fu F _ _ _ _) (fun _ => ?_) (fun k2 => absurd (show ¬ (bzb (three c 2) : Int32) = (0 : Int32) from by rw [h2]; decide) (of_decide_eq_false (cmp_ne.symm.trans k2)))
  refine rb (i' := 18) (ls' := [some (vR 0)]) (st' := [vI 1]) (L' := (mL zz (nI (cnt c 1)) (nI (cnt c 2)) W f)) 2 (fun _ _ => rfl) ?_
  exact rn_fin (fun _ _ => rfl) (rfl)
theorem ov_3 {D c : Nat} {W f : FA} (hB : Bd f c) (h1 : three c 1 = false) (h2 : three c 2 = false) (h9 : fl c = 9) : MC (D + 2 + 1) 78 [vR 0] (mL zz (nI (cnt c 1)) (nI (cnt c 2)) W f) (some (vI 1), mL zz (nI (cnt c 1)) (nI (cnt c 2)) W f) := by
  refine mc_of rfl ?_
  show Rn (D + 2) 78 0 [some (vR 0)] [] (mL zz (nI (cnt c 1)) (nI (cnt c 2)) W f) _
  refine rb (i' := 2) (ls' := [some (vR 0)]) (st' := [vI 1, vR 0]) (L' := (mL zz (nI (cnt c 1)) (nI (cnt c 2)) W f)) 2 (fun _ _ => rfl) ?_
  refine rn_call (a := 72) (As := [vR 0, vI 1]) (t := 3) (ls' := [some (vR 0)]) (st' := []) (fun Fu F => cq_78_2 (evF Fu _) F _ _ _ _ _ _) (r_three (w := 1) hB (by decide)) ?_
  refine rn_eq (ls' := [some (vR 0)]) (st' := [vI (bzb (three c 1))]) (L' := (mL zz (nI (cnt c 1)) (nI (cnt c 2)) W f)) rfl rfl rfl ?_
  refine rn_if (b := 1) (x := bzb (three c 1)) (y := 0) (it := 15) (ie := 4) (ls' := [some (vR 0)]) (st' := []) (fun Fu F => bq_78_3 _ Fu F _ _ _ _) (fun k1 => absurd (of_decide_eq_true (cmp_ne.symm.trans k1)) (show ¬ (¬ (bzb (three c 1) : Int32) = (0 : Int32)) from fun z => z (by rw [h1]; rfl))) (fun _ => ?_)
  refine rb (i' := 6) (ls' := [some (vR 0)]) (st' := [vI 2, vR 0]) (L' := (mL zz (nI (cnt c 1)) (nI (cnt c 2)) W f)) 2 (fun _ _ => rfl) ?_
  refine rn_call (a := 72) (As := [vR 0, vI 2]) (t := 7) (ls' := [some (vR 0)]) (st' := []) (fun Fu F => cq_78_6 (evF Fu _) F _ _ _ _ _ _) (r_three (w := 2) hB (by decide)) ?_
  refine rn_eq (ls' := [some (vR 0)]) (st' := [vI (bzb (three c 2))]) (L' := (mL zz (nI (cnt c 1)) (nI (cnt c 2)) W f)) rfl rfl rfl ?_
  refine rn_if (b := 1) (x := bzb (three c 2)) (y := 0) (it := 15) (ie := 8) (ls' := [some (vR 0)]) (st' := []) (fun Fu F => bq_78_7 _ Fu F _ _ _ _) (fun k2 => absurd (of_decide_eq_true (cmp_ne.symm.trans k2)) (show ¬ (¬ (bzb (three c 2) : Int32) = (0 : Int32)) from fun z => z (by rw [h2]; rfl))) (fun _ => ?_)
  refine rb (i' := 13) (ls' := [some (vR 0)]) (st' := [vI ((nI (cnt c 1)) + (nI (cnt c 2)))]) (L' := (mL zz (nI (cnt c 1)) (nI (cnt c 2)) W f)) 5 (fun _ _ => rfl) ?_
  refine rn_top (x := (nI (cnt c 1)) + (nI (cnt c 2))) (y := nI (fl c)) ((nadd rfl rfl).trans (congrArg nI (cnt_fl c).symm)) ?_
  refine rb (i' := 14) (ls' := [some (vR 0)]) (st' := [vI 9, vI (nI (fl c))]) (L' := (mL zz (nI (cnt c 1)) (nI (cnt c 2)) W f)) 1 (fun _ _ => rfl) ?_
  refine rn_if (b := 1) (x := nI (fl c)) (y := 9) (it := 17) (ie := 15) (ls' := [some (vR 0)]) (st' := []) (fun Fu F => bq_78_14 _ Fu F _ _ _ _ _) (fun k3 => absurd (of_decide_eq_true (cmp_ne.symm.trans k3)) (show ¬ (¬ (nI (fl c) : Int32) = (9 : Int32)) from fun z => z (by rw [h9]; rfl))) (fun _ => ?_)
  refine rb (i' := 18) (ls' := [some (vR 0)]) (st' := [vI 1]) (L' := (mL zz (nI (cnt c 1)) (nI (cnt c 2)) W f)) 2 (fun _ _ => rfl) ?_
  exact rn_fin (fun _ _ => rfl) (rfl)
theorem ov_4 {D c : Nat} {W f : FA} (hB : Bd f c) (h1 : three c 1 = false) (h2 : three c 2 = false) (h9 : fl c < 9) : MC (D + 2 + 1) 78 [vR 0] (mL zz (nI (cnt c 1)) (nI (cnt c 2)) W f) (some (vI 0), mL zz (nI (cnt c 1)) (nI (cnt c 2)) W f) := by
  refine mc_of rfl ?_
  show Rn (D + 2) 78 0 [some (vR 0)] [] (mL zz (nI (cnt c 1)) (nI (cnt c 2)) W f) _
  refine rb (i' := 2) (ls' := [some (vR 0)]) (st' := [vI 1, vR 0]) (L' := (mL zz (nI (cnt c 1)) (nI (cnt c 2)) W f)) 2 (fun _ _ => rfl) ?_
  refine rn_call (a := 72) (As := [vR 0, vI 1]) (t := 3) (ls' := [some (vR 0)]) (st' := []) (fun Fu F => cq_78_2 (evF Fu _) F _ _ _ _ _ _) (r_three (w := 1) hB (by decide)) ?_
  refine rn_eq (ls' := [some (vR 0)]) (st' := [vI (bzb (three c 1))]) (L' := (mL zz (nI (cnt c 1)) (nI (cnt c 2)) W f)) rfl rfl rfl ?_
  refine rn_if (b := 1) (x := bzb (three c 1)) (y := 0) (it := 15) (ie := 4) (ls' := [some (vR 0)]) (st' := []) (fun Fu F => bq_78_3 _ Fu F _ _ _ _) (fun k1 => absurd (of_decide_eq_true (cmp_ne.symm.trans k1)) (show ¬ (¬ (bzb (three c 1) : Int32) = (0 : Int32)) from fun z => z (by rw [h1]; rfl))) (fun _ => ?_)
  refine rb (i' := 6) (ls' := [some (vR 0)]) (st' := [vI 2, vR 0]) (L' := (mL zz (nI (cnt c 1)) (nI (cnt c 2)) W f)) 2 (fun _ _ => rfl) ?_
  refine rn_call (a := 72) (As := [vR 0, vI 2]) (t := 7) (ls' := [some (vR 0)]) (st' := []) (fun Fu F => cq_78_6 (evF Fu _) F _ _ _ _ _ _) (r_three (w := 2) hB (by decide)) ?_
  refine rn_eq (ls' := [some (vR 0)]) (st' := [vI (bzb (three c 2))]) (L' := (mL zz (nI (cnt c 1)) (nI (cnt c 2)) W f)) rfl rfl rfl ?_
  refine rn_if (b := 1) (x := bzb (three c 2)) (y := 0) (it := 15) (ie := 8) (ls' := [some (vR 0)]) (st' := []) (fun Fu F => bq_78_7 _ Fu F _ _ _ _) (fun k2 => absurd (of_decide_eq_true (cmp_ne.symm.trans k2)) (show ¬ (¬ (bzb (three c 2) : Int32) = (0 : Int32)) from fun z => z (by rw [h2]; rfl))) (fun _ => ?_)
  refine rb (i' := 13) (ls' := [some (vR 0)]) (st' := [vI ((nI (cnt c 1)) + (nI (cnt c 2)))]) (L' := (mL zz (nI (cnt c 1)) (nI (cnt c 2)) W f)) 5 (fun _ _ => rfl) ?_
  refine rn_top (x := (nI (cnt c 1)) + (nI (cnt c 2))) (y := nI (fl c)) ((nadd rfl rfl).trans (congrArg nI (cnt_fl c).symm)) ?_
  refine rb (i' := 14) (ls' := [some (vR 0)]) (st' := [vI 9, vI (nI (fl c))]) (L' := (mL zz (nI (cnt c 1)) (nI (cnt c 2)) W f)) 1 (fun _ _ => rfl) ?_
  refine rn_if (b := 1) (x := nI (fl c)) (y := 9) (it := 17) (ie := 15) (ls' := [some (vR 0)]) (st' := []) (fun Fu F => bq_78_14 _ Fu F _ _ _ _ _) (fun _ => ?_) (fun k3 => absurd (show ¬ (nI (fl c) : Int32) = (9 : Int32) from fun z => by have := (gnI_inj (a := fl c) (b := 9) (by omega) (by decide)).mp z; omega) (of_decide_eq_false (cmp_ne.symm.trans k3)))
  refine rb (i' := 18) (ls' := [some (vR 0)]) (st' := [vI 0]) (L' := (mL zz (nI (cnt c 1)) (nI (cnt c 2)) W f)) 1 (fun _ _ => rfl) ?_
  exact rn_fin (fun _ _ => rfl) (rfl)
