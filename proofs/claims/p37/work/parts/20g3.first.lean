variable {bb : Int32}
theorem cq_37_5 (call : QC FA) (F : Nat) (x1 : Int32) (x2 : Int32) (ls : List (Option PV)) (K f : FA) (s l : Int32) : run (mK rdF wrF fzF call 37) (F + 1) 5 ls [vI x2, vI x1, vR 0] (gL bb K f s l) = cbind (call 38 [vR 0, vI x1, vI x2] (gL bb K f s l)) (fun r L' => run (mK rdF wrF fzF call 37) F 6 ls (r.toList ++ []) L') := pcV (ih := run (mK rdF wrF fzF call 37) F) (call := call) (a := 38) (b := 2) (v := 2) (t := 6) (x := 0) (ls := ls) (As := [vI x1, vI x2]) (st' := []) (L := (gL bb K f s l)) rfl rfl rfl
theorem cq_43_2 (call : QC FA) (F : Nat) (x1 : Int32) (ls : List (Option PV)) (K f : FA) (s l : Int32) : run (mK rdF wrF fzF call 43) (F + 1) 2 ls [vI x1, vR 0] (gL bb K f s l) = cbind (call 36 [vR 0, vI x1] (gL bb K f s l)) (fun r L' => run (mK rdF wrF fzF call 43) F 3 ls (r.toList ++ []) L') := pcV (ih := run (mK rdF wrF fzF call 43) F) (call := call) (a := 36) (b := 1) (v := 2) (t := 3) (x := 0) (ls := ls) (As := [vI x1]) (st' := []) (L := (gL bb K f s l)) rfl rfl rfl
theorem bq_43_3 (d Fu F : Nat) (x : Int32) (ls : List (Option PV)) (st : List PV) (L : QH FA) : rnF Fu d 43 (F + 1) 3 ls (vI x :: st) L = bif pcmp 1 x 0 then rnF Fu d 43 F 8 ls st L else rnF Fu d 43 F 4 ls st L := rfl
theorem cq_43_6 (call : QC FA) (F : Nat) (x1 : Int32) (ls : List (Option PV)) (K f : FA) (s l : Int32) : run (mK rdF wrF fzF call 43) (F + 1) 6 ls [vI x1, vR 0] (gL bb K f s l) = cbind (call 36 [vR 0, vI x1] (gL bb K f s l)) (fun r L' => run (mK rdF wrF fzF call 43) F 7 ls (r.toList ++ []) L') := pcV (ih := run (mK rdF wrF fzF call 43) F) (call := call) (a := 36) (b := 1) (v := 2) (t := 7) (x := 0) (ls := ls) (As := [vI x1]) (st' := []) (L := (gL bb K f s l)) rfl rfl rfl
theorem bq_43_7 (d Fu F : Nat) (x : Int32) (ls : List (Option PV)) (st : List PV) (L : QH FA) : rnF Fu d 43 (F + 1) 7 ls (vI x :: st) L = bif pcmp 0 x 0 then rnF Fu d 43 F 10 ls st L else rnF Fu d 43 F 8 ls st L := rfl
theorem cq_43_15 (call : QC FA) (F : Nat) (x1 : Int32) (x2 : Int32) (ls : List (Option PV)) (K f : FA) (s l : Int32) : run (mK rdF wrF fzF call 43) (F + 1) 15 ls [vI x2, vI x1, vR 0] (gL bb K f s l) = cbind (call 38 [vR 0, vI x1, vI x2] (gL bb K f s l)) (fun r L' => run (mK rdF wrF fzF call 43) F 16 ls (r.toList ++ []) L') := pcV (ih := run (mK rdF wrF fzF call 43) F) (call := call) (a := 38) (b := 2) (v := 2) (t := 16) (x := 0) (ls := ls) (As := [vI x1, vI x2]) (st' := []) (L := (gL bb K f s l)) rfl rfl rfl
theorem bq_43_21 (d Fu F : Nat) (x y : Int32) (ls : List (Option PV)) (st : List PV) (L : QH FA) : rnF Fu d 43 (F + 1) 21 ls (vI y :: vI x :: st) L = bif pcmp 3 x y then rnF Fu d 43 F 40 ls st L else rnF Fu d 43 F 22 ls st L := rfl
theorem bq_43_26 (d Fu F : Nat) (x : Int32) (ls : List (Option PV)) (st : List PV) (L : QH FA) : rnF Fu d 43 (F + 1) 26 ls (vI x :: st) L = bif pcmp 1 x 0 then rnF Fu d 43 F 38 ls st L else rnF Fu d 43 F 27 ls st L := rfl
theorem cq_43_33 (call : QC FA) (F : Nat) (x1 : Int32) (x2 : Int32) (x3 : Int32) (ls : List (Option PV)) (K f : FA) (s l : Int32) : run (mK rdF wrF fzF call 43) (F + 1) 33 ls [vI x3, vI x2, vI x1, vR 0] (gL bb K f s l) = cbind (call 41 [vR 0, vI x1, vI x2, vI x3] (gL bb K f s l)) (fun r L' => run (mK rdF wrF fzF call 43) F 34 ls (r.toList ++ []) L') := pcV (ih := run (mK rdF wrF fzF call 43) F) (call := call) (a := 41) (b := 3) (v := 2) (t := 34) (x := 0) (ls := ls) (As := [vI x1, vI x2, vI x3]) (st' := []) (L := (gL bb K f s l)) rfl rfl rfl
theorem bq_43_35 (d Fu F : Nat) (x y : Int32) (ls : List (Option PV)) (st : List PV) (L : QH FA) : rnF Fu d 43 (F + 1) 35 ls (vI y :: vI x :: st) L = bif pcmp 1 x y then rnF Fu d 43 F 38 ls st L else rnF Fu d 43 F 36 ls st L := rfl
theorem v_loop {D c m : Nat} {f : FA} {s l : Int32} {V : Nat → Int32} (hV : ∀ c, rng (V c)) (hB : Bd f c) (hch : ∀ i, i < 9 → dg c i = 0 → ∀ K, KI K → ∃ K', KI K' ∧ MC (D + 1) 41 [vR 0, vI (nI i), vI (nI c), vI (nI m)] (gL bb K f s l) (some (vI (-(V (c + wn m * 3 ^ (8 - i))))), gL bb K' f s l)) : ∀ (t i : Nat) (K : FA), i + t = 9 → KI K → ∃ K', KI K' ∧ ∀ res, (∀ l5, Rn (D + 1) 38 59 [some (vR 0), some (vI (nI c)), some (vI (nI m)), some (vI (gf V (wn m) c 9)), some (vI (nI (wn m))), l5] [] (gL bb K' f s l) res) → Rn (D + 1) 38 38 [some (vR 0), some (vI (nI c)), some (vI (nI m)), some (vI (gf V (wn m) c i)), some (vI (nI (wn m))), some (vI (nI i))] [] (gL bb K f s l) res := by
  intro t
  induction t with
  | zero =>
    intro i K hi hK
    obtain rfl : i = 9 := by omega
    exact ⟨K, hK, fun res h => v_l9 rfl (h _)⟩
  | succ t ih =>
    intro i K hi hK
    have hi9 : i < 9 := by omega
    by_cases h1 : gf V (wn m) c i < 1
    · by_cases hd : dg c i = 0
      · obtain ⟨K1, hK1, hM⟩ := hch i hi9 hd K hK
        obtain ⟨K', hK', hr⟩ := ih (i + 1) K1 (by omega) hK1
        refine ⟨K', hK', fun res h => ?_⟩
        refine v_lm hi9 h1 hB hd hM ?_
        have e : gmax (gf V (wn m) c i) (-(V (c + wn m * 3 ^ (8 - i)))) = gf V (wn m) c (i + 1) := by
          rw [gf, if_pos hd]
        rw [e]
        exact hr res h
      · obtain ⟨K', hK', hr⟩ := ih (i + 1) K (by omega) hK
        refine ⟨K', hK', fun res h => ?_⟩
        refine v_lk hi9 h1 hB hd ?_
        have e : gf V (wn m) c (i + 1) = gf V (wn m) c i := by rw [gf, if_neg hd]
        rw [← e]
        exact hr res h
    · have e1 := rng_1 (gf_rng hV i) h1
      refine ⟨K, hK, fun res h => ?_⟩
      refine v_l1 hi9 h1 ?_
      have e : gf V (wn m) c 9 = gf V (wn m) c i := by rw [gf_one hV e1 9 (by omega), e1]
      rw [← e]
      exact h _
theorem gv_1 {n w c : Nat} (h : three c w = true) : gv n w c = 1 := by
  cases n <;> rw [gv, if_pos h]
theorem gv_2 {n w c : Nat} (h : ¬ three c w = true) (h2 : three c (3 - w) = true) : gv n w c = -1 := by
  cases n <;> rw [gv, if_neg h, if_pos h2]
theorem val_ok : ∀ (n D c : Nat) (K f : FA) (s l : Int32), n + fl c = 9 → c < 19683 → Bd f c → KI K → ∃ K', KI K' ∧ MC (D + 2 * n + 2) 38 [vR 0, vI (nI c), vI (nI (fl c))] (gL bb K f s l) (some (vI (Vc c)), gL bb K' f s l) := by
  intro n
  induction n with
  | zero =>
    intro D c K f s l hn hc hB hK
    have hm10 : fl c < 10 := by have := fl_le c; omega
    by_cases hs : slotI K c = 0
    · have heq : slotI K c - 2 = -2 := by rw [hs]; decide
      by_cases ht : three c (wn (fl c)) = true
      · have hv : Vc c = 1 := gv_1 ht
        refine ⟨keepK K c (Vc c), KI_keep hc hK, mc_of rfl ?_⟩
        rw [hv]
        exact v_pre (D := D + 2 * 0) hc hm10 hB heq (v_b1 hc ht)
      · by_cases ht2 : three c (3 - wn (fl c)) = true
        · have hv : Vc c = -1 := gv_2 ht ht2
          refine ⟨keepK K c (Vc c), KI_keep hc hK, mc_of rfl ?_⟩
          rw [hv]
          exact v_pre (D := D + 2 * 0) hc hm10 hB heq (v_b2 hc hB (Bool.eq_false_iff.mpr ht) ht2)
        · have hv : Vc c = 0 := by
            unfold Vc
            rw [show 9 - fl c = 0 by omega, gv, if_neg ht, if_neg ht2]
          refine ⟨keepK K c (Vc c), KI_keep hc hK, mc_of rfl ?_⟩
          rw [hv]
          exact v_pre (D := D + 2 * 0) hc hm10 hB heq (v_b3 hc (by omega) hm10 hB (Bool.eq_false_iff.mpr ht) (Bool.eq_false_iff.mpr ht2))
    · have q := (hK c hc).resolve_left hs
      have e : slotI K c - 2 = Vc c := by rw [q]; rcases Vc_rng c with z | z | z <;> rw [z] <;> decide
      have hne : ¬ slotI K c - 2 = -2 := by rw [e]; rcases Vc_rng c with z | z | z <;> rw [z] <;> decide
      refine ⟨K, hK, mc_of rfl ?_⟩
      have h := v_known (bb := bb) (D := D + 2 * 0) (m := fl c) (f := f) (s := s) (l := l) hc hne
      rw [e] at h
      exact h
  | succ n ih =>
    intro D c K f s l hn hc hB hK
    have hm9 : fl c < 9 := by omega
    by_cases hs : slotI K c = 0
    · have heq : slotI K c - 2 = -2 := by rw [hs]; decide
      by_cases ht : three c (wn (fl c)) = true
      · have hv : Vc c = 1 := gv_1 ht
        refine ⟨keepK K c (Vc c), KI_keep hc hK, mc_of rfl ?_⟩
        rw [hv]
        exact v_pre (D := D + 2 * (n + 1)) hc (by omega) hB heq (v_b1 hc ht)
      · by_cases ht2 : three c (3 - wn (fl c)) = true
        · have hv : Vc c = -1 := gv_2 ht ht2
          refine ⟨keepK K c (Vc c), KI_keep hc hK, mc_of rfl ?_⟩
          rw [hv]
          exact v_pre (D := D + 2 * (n + 1)) hc (by omega) hB heq (v_b2 hc hB (Bool.eq_false_iff.mpr ht) ht2)
        · have hv : gf (gv n (3 - wn (fl c))) (wn (fl c)) c 9 = Vc c := by
            unfold Vc
            rw [show 9 - fl c = n + 1 by omega, gv, if_neg ht, if_neg ht2]
          have hch : ∀ i, i < 9 → dg c i = 0 → ∀ K, KI K → ∃ K', KI K' ∧ MC (D + 2 * (n + 1) + 1) 41 [vR 0, vI (nI i), vI (nI c), vI (nI (fl c))] (gL bb K f s l) (some (vI (-(gv n (3 - wn (fl c)) (c + wn (fl c) * 3 ^ (8 - i))))), gL bb K' f s l) := by
            intro i hi hd K hK
            have hfl := mv_fl (w := wn (fl c)) hi hd (wn_12 _)
            obtain ⟨K', hK', hM⟩ := ih D (c + wn (fl c) * 3 ^ (8 - i)) K (upd f i (nI (wn (fl c)))) s l (by omega) (mv_lt hc hi hd (wn_12 _)) (Bd_mv hB hi hd (wn_12 _)) hK
            have hV : Vc (c + wn (fl c) * 3 ^ (8 - i)) = gv n (3 - wn (fl c)) (c + wn (fl c) * 3 ^ (8 - i)) := by
              unfold Vc
              rw [hfl, wn_s, show 9 - (fl c + 1) = n by omega]
            rw [hV, hfl] at hM
            exact ⟨K', hK', g_move (D := D + 2 * n + 1) hi hm9 (by rw [hB i hi, hd]; rfl) hM⟩
          obtain ⟨K1, hK1, hr⟩ := v_loop (bb := bb) (D := D + 2 * (n + 1)) (V := gv n (3 - wn (fl c))) (fun _ => gv_rng _ _ _) hB hch 9 0 K rfl hK
          refine ⟨keepK K1 c (Vc c), KI_keep hc hK1, mc_of rfl ?_⟩
          refine v_pre (D := D + 2 * (n + 1)) hc (by omega) hB heq (v_b4 hc hm9 hB (Bool.eq_false_iff.mpr ht) (Bool.eq_false_iff.mpr ht2) ?_)
          exact hr _ (fun l5 => by rw [hv]; exact v_tail hc)
    · have q := (hK c hc).resolve_left hs
      have e : slotI K c - 2 = Vc c := by rw [q]; rcases Vc_rng c with z | z | z <;> rw [z] <;> decide
      have hne : ¬ slotI K c - 2 = -2 := by rw [e]; rcases Vc_rng c with z | z | z <;> rw [z] <;> decide
      refine ⟨K, hK, mc_of rfl ?_⟩
      have h := v_known (bb := bb) (D := D + 2 * (n + 1)) (m := fl c) (f := f) (s := s) (l := l) hc hne
      rw [e] at h
      exact h
/-- at every depth that is deep enough -/
theorem gval_at {D c : Nat} {K f : FA} {s l : Int32} (hc : c < 19683) (hB : Bd f c) (hK : KI K) : ∃ K', KI K' ∧ MC (D + 20) 38 [vR 0, vI (nI c), vI (nI (fl c))] (gL bb K f s l) (some (vI (Vc c)), gL bb K' f s l) := by
  have h := val_ok (bb := bb) (9 - fl c) (D + 2 * fl c) c K f s l (by have := fl_le c; omega) hc hB hK
  rw [show D + 2 * fl c + 2 * (9 - fl c) + 2 = D + 20 by have := fl_le c; omega] at h
  exact h
theorem fl_lt {c i : Nat} (hi : i < 9) (h0 : dg c i = 0) : fl c < 9 := by
  have h := mv_fl (w := 1) hi h0 (Or.inl rfl)
  have := fl_le (c + 1 * 3 ^ (8 - i))
  omega
theorem mov_at {D c i : Nat} {K f : FA} {s l : Int32} (hc : c < 19683) (hB : Bd f c) (hK : KI K) (hi : i < 9) (hd : dg c i = 0) : ∃ K', KI K' ∧ MC (D + 21) 41 [vR 0, vI (nI i), vI (nI c), vI (nI (fl c))] (gL bb K f s l) (some (vI (-(Vc (c + wn (fl c) * 3 ^ (8 - i))))), gL bb K' f s l) := by
  have hfl := mv_fl (w := wn (fl c)) hi hd (wn_12 _)
  obtain ⟨K', hK', hM⟩ := gval_at (bb := bb) (D := D) (s := s) (l := l) (mv_lt hc hi hd (wn_12 (fl c))) (Bd_mv hB hi hd (wn_12 (fl c))) hK
  rw [hfl] at hM
  exact ⟨K', hK', g_move (D := D + 19) hi (fl_lt hi hd) (by rw [hB i hi, hd]; rfl) hM⟩
theorem g_vfn {D : Nat} {K K' f : FA} {s l x : Int32} (hV : MC (D + 1) 38 [vR 0, vI s, vI l] (gL bb K f s l) (some (vI x), gL bb K' f s l)) : MC (D + 1 + 1) 37 [vR 0] (gL bb K f s l) (some (vI x), gL bb K' f s l) := by
  refine mc_of rfl ?_
  show Rn (D + 1) 37 0 [some (vR 0)] [] (gL bb K f s l) _
  refine rb (i' := 5) (ls' := [some (vR 0)]) (st' := [vI l, vI s, vR 0]) (L' := (gL bb K f s l)) 5 (fun _ _ => rfl) ?_
  refine rn_call (a := 38) (As := [vR 0, vI s, vI l]) (t := 6) (ls' := [some (vR 0)]) (st' := []) (fun Fu F => cq_37_5 (evF Fu _) F _ _ _ _ _ _ _) (hV) ?_
  refine rn_eq (ls' := [some (vR 0)]) (st' := [vI x]) (L' := (gL bb K' f s l)) rfl rfl rfl ?_
  exact rn_fin (fun _ _ => rfl) (rfl)
def fk (c : Nat) : Nat → Int32
  | 0 => -1
  | t + 1 => if dg c (8 - t) = 0 ∧ -(Vc (c + wn (fl c) * 3 ^ (8 - (8 - t)))) = Vc c then nI (8 - t) else fk c t
theorem f_over1 {D c : Nat} {K f : FA} {s l : Int32} (hB : Bd f c) (h1 : three c 1 = true) : MC (D + 1 + 1) 43 [vR 0] (gL bb K f s l) (some (vI (-1)), gL bb K f s l) := by
  refine mc_of rfl ?_
  show Rn (D + 1) 43 0 [some (vR 0), none, none] [] (gL bb K f s l) _
  refine rb (i' := 2) (ls' := [some (vR 0), none, none]) (st' := [vI 1, vR 0]) (L' := (gL bb K f s l)) 2 (fun _ _ => rfl) ?_
  refine rn_call (a := 36) (As := [vR 0, vI 1]) (t := 3) (ls' := [some (vR 0), none, none]) (st' := []) (fun Fu F => cq_43_2 (evF Fu _) F _ _ _ _ _ _) (g_three (w := 1) hB (by decide)) ?_
  refine rn_eq (ls' := [some (vR 0), none, none]) (st' := [vI (bzb (three c 1))]) (L' := (gL bb K f s l)) rfl rfl rfl ?_
  refine rn_if (b := 1) (x := bzb (three c 1)) (y := 0) (it := 8) (ie := 4) (ls' := [some (vR 0), none, none]) (st' := []) (fun Fu F => bq_43_3 _ Fu F _ _ _ _) (fun _ => ?_) (fun k1 => absurd (show ¬ (bzb (three c 1) : Int32) = (0 : Int32) from by rw [h1]; decide) (of_decide_eq_false (cmp_ne.symm.trans k1)))
  refine rb (i' := 9) (ls' := [some (vR 0), none, none]) (st' := [vI ((-1))]) (L' := (gL bb K f s l)) 1 (fun _ _ => rfl) ?_
  exact rn_fin (fun _ _ => rfl) (rfl)
theorem f_over2 {D c : Nat} {K f : FA} {s l : Int32} (hB : Bd f c) (h1 : three c 1 = false) (h2 : three c 2 = true) : MC (D + 1 + 1) 43 [vR 0] (gL bb K f s l) (some (vI (-1)), gL bb K f s l) := by
  refine mc_of rfl ?_
  show Rn (D + 1) 43 0 [some (vR 0), none, none] [] (gL bb K f s l) _
  refine rb (i' := 2) (ls' := [some (vR 0), none, none]) (st' := [vI 1, vR 0]) (L' := (gL bb K f s l)) 2 (fun _ _ => rfl) ?_
  refine rn_call (a := 36) (As := [vR 0, vI 1]) (t := 3) (ls' := [some (vR 0), none, none]) (st' := []) (fun Fu F => cq_43_2 (evF Fu _) F _ _ _ _ _ _) (g_three (w := 1) hB (by decide)) ?_
  refine rn_eq (ls' := [some (vR 0), none, none]) (st' := [vI (bzb (three c 1))]) (L' := (gL bb K f s l)) rfl rfl rfl ?_
  refine rn_if (b := 1) (x := bzb (three c 1)) (y := 0) (it := 8) (ie := 4) (ls' := [some (vR 0), none, none]) (st' := []) (fun Fu F => bq_43_3 _ Fu F _ _ _ _) (fun k1 => absurd (of_decide_eq_true (cmp_ne.symm.trans k1)) (show ¬ (¬ (bzb (three c 1) : Int32) = (0 : Int32)) from fun z => z (by rw [h1]; rfl))) (fun _ => ?_)
  refine rb (i' := 6) (ls' := [some (vR 0), none, none]) (st' := [vI 2, vR 0]) (L' := (gL bb K f s l)) 2 (fun _ _ => rfl) ?_
  refine rn_call (a := 36) (As := [vR 0, vI 2]) (t := 7) (ls' := [some (vR 0), none, none]) (st' := []) (fun Fu F => cq_43_6 (evF Fu _) F _ _ _ _ _ _) (g_three (w := 2) hB (by decide)) ?_
  refine rn_eq (ls' := [some (vR 0), none, none]) (st' := [vI (bzb (three c 2))]) (L' := (gL bb K f s l)) rfl rfl rfl ?_
  refine rn_if (b := 0) (x := bzb (three c 2)) (y := 0) (it := 10) (ie := 8) (ls' := [some (vR 0), none, none]) (st' := []) (fun Fu F => bq_43_7 _ Fu F _ _ _ _) (fun k2 => absurd (of_decide_eq_true (cmp_eq.symm.trans k2)) (show ¬ ((bzb (three c 2) : Int32) = (0 : Int32)) from by rw [h2]; decide)) (fun _ => ?_)
  refine rb (i' := 9) (ls' := [some (vR 0), none, none]) (st' := [vI ((-1))]) (L' := (gL bb K f s l)) 1 (fun _ _ => rfl) ?_
  exact rn_fin (fun _ _ => rfl) (rfl)
theorem f_pre {D c : Nat} {K K' f : FA} {s l x : Int32} {res : Option PV × QH FA} (hB : Bd f c) (h1 : three c 1 = false) (h2 : three c 2 = false) (hV : MC (D + 1) 38 [vR 0, vI s, vI l] (gL bb K f s l) (some (vI x), gL bb K' f s l)) (hk : Rn (D + 1) 43 19 [some (vR 0), some (vI x), some (vI 0)] [] (gL bb K' f s l) res) : Rn (D + 1) 43 0 [some (vR 0), none, none] [] (gL bb K f s l) res := by
  refine rb (i' := 2) (ls' := [some (vR 0), none, none]) (st' := [vI 1, vR 0]) (L' := (gL bb K f s l)) 2 (fun _ _ => rfl) ?_
  refine rn_call (a := 36) (As := [vR 0, vI 1]) (t := 3) (ls' := [some (vR 0), none, none]) (st' := []) (fun Fu F => cq_43_2 (evF Fu _) F _ _ _ _ _ _) (g_three (w := 1) hB (by decide)) ?_
  refine rn_eq (ls' := [some (vR 0), none, none]) (st' := [vI (bzb (three c 1))]) (L' := (gL bb K f s l)) rfl rfl rfl ?_
  refine rn_if (b := 1) (x := bzb (three c 1)) (y := 0) (it := 8) (ie := 4) (ls' := [some (vR 0), none, none]) (st' := []) (fun Fu F => bq_43_3 _ Fu F _ _ _ _) (fun k1 => absurd (of_decide_eq_true (cmp_ne.symm.trans k1)) (show ¬ (¬ (bzb (three c 1) : Int32) = (0 : Int32)) from fun z => z (by rw [h1]; rfl))) (fun _ => ?_)
  refine rb (i' := 6) (ls' := [some (vR 0), none, none]) (st' := [vI 2, vR 0]) (L' := (gL bb K f s l)) 2 (fun _ _ => rfl) ?_
  refine rn_call (a := 36) (As := [vR 0, vI 2]) (t := 7) (ls' := [some (vR 0), none, none]) (st' := []) (fun Fu F => cq_43_6 (evF Fu _) F _ _ _ _ _ _) (g_three (w := 2) hB (by decide)) ?_
  refine rn_eq (ls' := [some (vR 0), none, none]) (st' := [vI (bzb (three c 2))]) (L' := (gL bb K f s l)) rfl rfl rfl ?_
  refine rn_if (b := 0) (x := bzb (three c 2)) (y := 0) (it := 10) (ie := 8) (ls' := [some (vR 0), none, none]) (st' := []) (fun Fu F => bq_43_7 _ Fu F _ _ _ _) (fun _ => ?_) (fun k2 => absurd (show (bzb (three c 2) : Int32) = (0 : Int32) from by rw [h2]; rfl) (of_decide_eq_false (cmp_eq.symm.trans k2)))
  refine rb (i' := 15) (ls' := [some (vR 0), none, none]) (st' := [vI l, vI s, vR 0]) (L' := (gL bb K f s l)) 5 (fun _ _ => rfl) ?_
  refine rn_call (a := 38) (As := [vR 0, vI s, vI l]) (t := 16) (ls' := [some (vR 0), none, none]) (st' := []) (fun Fu F => cq_43_15 (evF Fu _) F _ _ _ _ _ _ _) (hV) ?_
  refine rn_eq (ls' := [some (vR 0), none, none]) (st' := [vI x]) (L' := (gL bb K' f s l)) rfl rfl rfl ?_
  refine rb (i' := 19) (ls' := [some (vR 0), some (vI x), some (vI 0)]) (st' := []) (L' := (gL bb K' f s l)) 3 (fun _ _ => rfl) ?_
  exact hk
theorem f_l9 {D : Nat} {K f : FA} {s l x : Int32} : Rn (D + 1) 43 19 [some (vR 0), some (vI x), some (vI (nI 9))] [] (gL bb K f s l) (some (vI (-1)), gL bb K f s l) := by
  refine rb (i' := 21) (ls' := [some (vR 0), some (vI x), some (vI (nI 9))]) (st' := [vI 9, vI (nI 9)]) (L' := (gL bb K f s l)) 2 (fun _ _ => rfl) ?_
  refine rn_if (b := 3) (x := nI 9) (y := 9) (it := 40) (ie := 22) (ls' := [some (vR 0), some (vI x), some (vI (nI 9))]) (st' := []) (fun Fu F => bq_43_21 _ Fu F _ _ _ _ _) (fun _ => ?_) (fun k1 => absurd (show (9 : Int32) ≤ (nI 9 : Int32) from Int32.le_refl _) (of_decide_eq_false (cmp_ge.symm.trans k1)))
  refine rb (i' := 41) (ls' := [some (vR 0), some (vI x), some (vI (nI 9))]) (st' := [vI ((-1))]) (L' := (gL bb K f s l)) 1 (fun _ _ => rfl) ?_
  exact rn_fin (fun _ _ => rfl) (rfl)
theorem f_lk {D c i : Nat} {K f : FA} {s l x : Int32} {res : Option PV × QH FA} (hi : i < 9) (hB : Bd f c) (hd : ¬ dg c i = 0) (hk : Rn (D + 1) 43 19 [some (vR 0), some (vI x), some (vI (nI (i + 1)))] [] (gL bb K f s l) res) : Rn (D + 1) 43 19 [some (vR 0), some (vI x), some (vI (nI i))] [] (gL bb K f s l) res := by
  refine rb (i' := 21) (ls' := [some (vR 0), some (vI x), some (vI (nI i))]) (st' := [vI 9, vI (nI i)]) (L' := (gL bb K f s l)) 2 (fun _ _ => rfl) ?_
  refine rn_if (b := 3) (x := nI i) (y := 9) (it := 40) (ie := 22) (ls' := [some (vR 0), some (vI x), some (vI (nI i))]) (st' := []) (fun Fu F => bq_43_21 _ Fu F _ _ _ _ _) (fun k1 => absurd (of_decide_eq_true (cmp_ge.symm.trans k1)) (show ¬ ((9 : Int32) ≤ (nI i : Int32)) from nI_ge hi (by decide))) (fun _ => ?_)
  refine rb (i' := 25) (ls' := [some (vR 0), some (vI x), some (vI (nI i))]) (st' := [vI (nI i), vR 2]) (L' := (gL bb K f s l)) 3 (fun _ _ => rfl) ?_
  refine rn_g (g := (Nat.beq 0 0 && pin (nI i) 9)) (i' := 26) (ls' := [some (vR 0), some (vI x), some (vI (nI i))]) (st' := [vI (f (ix (nI i)))]) (L' := (gL bb K f s l)) (fun _ _ => rfl) (gpin_nI hi (by decide)) ?_
  refine rn_top (x := f (ix (nI i))) (y := nI (dg c i)) ((congrArg f (gix_nI (by omega))).trans (hB i hi)) ?_
  refine rn_if (b := 1) (x := nI (dg c i)) (y := 0) (it := 38) (ie := 27) (ls' := [some (vR 0), some (vI x), some (vI (nI i))]) (st' := []) (fun Fu F => bq_43_26 _ Fu F _ _ _ _) (fun _ => ?_) (fun k2 => absurd (show ¬ (nI (dg c i) : Int32) = (0 : Int32) from fun z => hd ((gnI_inj (by have := dg_lt c i; omega) (by decide)).mp z)) (of_decide_eq_false (cmp_ne.symm.trans k2)))
  refine rb (i' := 19) (ls' := [some (vR 0), some (vI x), some (vI (nI i + 1))]) (st' := []) (L' := (gL bb K f s l)) 2 (fun _ _ => rfl) ?_
  rw [nadd (rfl : nI i = nI i) (rfl : (1 : Int32) = nI 1)]
  exact hk
theorem f_ln {D c i : Nat} {K K' f : FA} {s l x y : Int32} {res : Option PV × QH FA} (hi : i < 9) (hB : Bd f c) (hd : dg c i = 0) (hM : MC (D + 1) 41 [vR 0, vI (nI i), vI s, vI l] (gL bb K f s l) (some (vI y), gL bb K' f s l)) (he : ¬ y = x) (hk : Rn (D + 1) 43 19 [some (vR 0), some (vI x), some (vI (nI (i + 1)))] [] (gL bb K' f s l) res) : Rn (D + 1) 43 19 [some (vR 0), some (vI x), some (vI (nI i))] [] (gL bb K f s l) res := by
  refine rb (i' := 21) (ls' := [some (vR 0), some (vI x), some (vI (nI i))]) (st' := [vI 9, vI (nI i)]) (L' := (gL bb K f s l)) 2 (fun _ _ => rfl) ?_
  refine rn_if (b := 3) (x := nI i) (y := 9) (it := 40) (ie := 22) (ls' := [some (vR 0), some (vI x), some (vI (nI i))]) (st' := []) (fun Fu F => bq_43_21 _ Fu F _ _ _ _ _) (fun k1 => absurd (of_decide_eq_true (cmp_ge.symm.trans k1)) (show ¬ ((9 : Int32) ≤ (nI i : Int32)) from nI_ge hi (by decide))) (fun _ => ?_)
  refine rb (i' := 25) (ls' := [some (vR 0), some (vI x), some (vI (nI i))]) (st' := [vI (nI i), vR 2]) (L' := (gL bb K f s l)) 3 (fun _ _ => rfl) ?_
  refine rn_g (g := (Nat.beq 0 0 && pin (nI i) 9)) (i' := 26) (ls' := [some (vR 0), some (vI x), some (vI (nI i))]) (st' := [vI (f (ix (nI i)))]) (L' := (gL bb K f s l)) (fun _ _ => rfl) (gpin_nI hi (by decide)) ?_
  refine rn_top (x := f (ix (nI i))) (y := nI (dg c i)) ((congrArg f (gix_nI (by omega))).trans (hB i hi)) ?_
  refine rn_if (b := 1) (x := nI (dg c i)) (y := 0) (it := 38) (ie := 27) (ls' := [some (vR 0), some (vI x), some (vI (nI i))]) (st' := []) (fun Fu F => bq_43_26 _ Fu F _ _ _ _) (fun k2 => absurd (of_decide_eq_true (cmp_ne.symm.trans k2)) (show ¬ (¬ (nI (dg c i) : Int32) = (0 : Int32)) from fun z => z (by rw [hd]; rfl))) (fun _ => ?_)
  refine rb (i' := 33) (ls' := [some (vR 0), some (vI x), some (vI (nI i))]) (st' := [vI l, vI s, vI (nI i), vR 0]) (L' := (gL bb K f s l)) 6 (fun _ _ => rfl) ?_
  refine rn_call (a := 41) (As := [vR 0, vI (nI i), vI s, vI l]) (t := 34) (ls' := [some (vR 0), some (vI x), some (vI (nI i))]) (st' := []) (fun Fu F => cq_43_33 (evF Fu _) F _ _ _ _ _ _ _ _) (hM) ?_
  refine rn_eq (ls' := [some (vR 0), some (vI x), some (vI (nI i))]) (st' := [vI y]) (L' := (gL bb K' f s l)) rfl rfl rfl ?_
  refine rb (i' := 35) (ls' := [some (vR 0), some (vI x), some (vI (nI i))]) (st' := [vI x, vI y]) (L' := (gL bb K' f s l)) 1 (fun _ _ => rfl) ?_
  refine rn_if (b := 1) (x := y) (y := x) (it := 38) (ie := 36) (ls' := [some (vR 0), some (vI x), some (vI (nI i))]) (st' := []) (fun Fu F => bq_43_35 _ Fu F _ _ _ _ _) (fun _ => ?_) (fun k3 => absurd (show ¬ (y : Int32) = (x : Int32) from he) (of_decide_eq_false (cmp_ne.symm.trans k3)))
  refine rb (i' := 19) (ls' := [some (vR 0), some (vI x), some (vI (nI i + 1))]) (st' := []) (L' := (gL bb K' f s l)) 2 (fun _ _ => rfl) ?_
  rw [nadd (rfl : nI i = nI i) (rfl : (1 : Int32) = nI 1)]
  exact hk
theorem f_ly {D c i : Nat} {K K' f : FA} {s l x y : Int32} (hi : i < 9) (hB : Bd f c) (hd : dg c i = 0) (hM : MC (D + 1) 41 [vR 0, vI (nI i), vI s, vI l] (gL bb K f s l) (some (vI y), gL bb K' f s l)) (he : y = x) : Rn (D + 1) 43 19 [some (vR 0), some (vI x), some (vI (nI i))] [] (gL bb K f s l) (some (vI (nI i)), gL bb K' f s l) := by
  refine rb (i' := 21) (ls' := [some (vR 0), some (vI x), some (vI (nI i))]) (st' := [vI 9, vI (nI i)]) (L' := (gL bb K f s l)) 2 (fun _ _ => rfl) ?_
  refine rn_if (b := 3) (x := nI i) (y := 9) (it := 40) (ie := 22) (ls' := [some (vR 0), some (vI x), some (vI (nI i))]) (st' := []) (fun Fu F => bq_43_21 _ Fu F _ _ _ _ _) (fun k1 => absurd (of_decide_eq_true (cmp_ge.symm.trans k1)) (show ¬ ((9 : Int32) ≤ (nI i : Int32)) from nI_ge hi (by decide))) (fun _ => ?_)
  refine rb (i' := 25) (ls' := [some (vR 0), some (vI x), some (vI (nI i))]) (st' := [vI (nI i), vR 2]) (L' := (gL bb K f s l)) 3 (fun _ _ => rfl) ?_
  refine rn_g (g := (Nat.beq 0 0 && pin (nI i) 9)) (i' := 26) (ls' := [some (vR 0), some (vI x), some (vI (nI i))]) (st' := [vI (f (ix (nI i)))]) (L' := (gL bb K f s l)) (fun _ _ => rfl) (gpin_nI hi (by decide)) ?_
  refine rn_top (x := f (ix (nI i))) (y := nI (dg c i)) ((congrArg f (gix_nI (by omega))).trans (hB i hi)) ?_
  refine rn_if (b := 1) (x := nI (dg c i)) (y := 0) (it := 38) (ie := 27) (ls' := [some (vR 0), some (vI x), some (vI (nI i))]) (st' := []) (fun Fu F => bq_43_26 _ Fu F _ _ _ _) (fun k2 => absurd (of_decide_eq_true (cmp_ne.symm.trans k2)) (show ¬ (¬ (nI (dg c i) : Int32) = (0 : Int32)) from fun z => z (by rw [hd]; rfl))) (fun _ => ?_)
  refine rb (i' := 33) (ls' := [some (vR 0), some (vI x), some (vI (nI i))]) (st' := [vI l, vI s, vI (nI i), vR 0]) (L' := (gL bb K f s l)) 6 (fun _ _ => rfl) ?_
  refine rn_call (a := 41) (As := [vR 0, vI (nI i), vI s, vI l]) (t := 34) (ls' := [some (vR 0), some (vI x), some (vI (nI i))]) (st' := []) (fun Fu F => cq_43_33 (evF Fu _) F _ _ _ _ _ _ _ _) (hM) ?_
  refine rn_eq (ls' := [some (vR 0), some (vI x), some (vI (nI i))]) (st' := [vI y]) (L' := (gL bb K' f s l)) rfl rfl rfl ?_
  refine rb (i' := 35) (ls' := [some (vR 0), some (vI x), some (vI (nI i))]) (st' := [vI x, vI y]) (L' := (gL bb K' f s l)) 1 (fun _ _ => rfl) ?_
  refine rn_if (b := 1) (x := y) (y := x) (it := 38) (ie := 36) (ls' := [some (vR 0), some (vI x), some (vI (nI i))]) (st' := []) (fun Fu F => bq_43_35 _ Fu F _ _ _ _ _) (fun k3 => absurd (of_decide_eq_true (cmp_ne.symm.trans k3)) (show ¬ (¬ (y : Int32) = (x : Int32)) from fun z => z he)) (fun _ => ?_)
  refine rb (i' := 37) (ls' := [some (vR 0), some (vI x), some (vI (nI i))]) (st' := [vI (nI i)]) (L' := (gL bb K' f s l)) 1 (fun _ _ => rfl) ?_
  exact rn_fin (fun _ _ => rfl) (rfl)
theorem f_loop {D c : Nat} {f : FA} (hc : c < 19683) (hB : Bd f c) : ∀ (t i : Nat) (K : FA), i + t = 9 → KI K → ∃ K', KI K' ∧ Rn (D + 21) 43 19 [some (vR 0), some (vI (Vc c)), some (vI (nI i))] [] (gL bb K f (nI c) (nI (fl c))) (some (vI (fk c t)), gL bb K' f (nI c) (nI (fl c))) := by
  intro t
  induction t with
  | zero =>
    intro i K hi hK
    obtain rfl : i = 9 := by omega
    exact ⟨K, hK, f_l9 (D := D + 20)⟩
  | succ t ih =>
    intro i K hi hK
    have hi9 : i < 9 := by omega
    have e8 : 8 - t = i := by omega
    by_cases hd : dg c i = 0
    · obtain ⟨K1, hK1, hM⟩ := mov_at (bb := bb) (D := D) (s := nI c) (l := nI (fl c)) hc hB hK hi9 hd
      by_cases he : -(Vc (c + wn (fl c) * 3 ^ (8 - i))) = Vc c
      · refine ⟨K1, hK1, ?_⟩
        rw [fk, e8, if_pos ⟨hd, he⟩]
        exact f_ly (D := D + 20) hi9 hB hd hM he
      · obtain ⟨K', hK', hr⟩ := ih (i + 1) K1 (by omega) hK1
        refine ⟨K', hK', ?_⟩
        rw [fk, e8, if_neg (fun q => he q.2)]
        exact f_ln (D := D + 20) hi9 hB hd hM he hr
    · obtain ⟨K', hK', hr⟩ := ih (i + 1) K (by omega) hK
      refine ⟨K', hK', ?_⟩
      rw [fk, e8, if_neg (fun q => hd q.1)]
      exact f_lk (D := D + 20) hi9 hB hd hr
def fst9 (c : Nat) : Int32 := if three c 1 = true ∨ three c 2 = true then -1 else fk c 9
theorem first_at {D c : Nat} {K f : FA} (hc : c < 19683) (hB : Bd f c) (hK : KI K) : ∃ K', KI K' ∧ MC (D + 22) 43 [vR 0] (gL bb K f (nI c) (nI (fl c))) (some (vI (fst9 c)), gL bb K' f (nI c) (nI (fl c))) := by
  by_cases h1 : three c 1 = true
  · refine ⟨K, hK, ?_⟩
    rw [fst9, if_pos (Or.inl h1)]
    exact f_over1 (D := D + 20) hB h1
  · by_cases h2 : three c 2 = true
    · refine ⟨K, hK, ?_⟩
      rw [fst9, if_pos (Or.inr h2)]
      exact f_over2 (D := D + 20) hB (Bool.eq_false_iff.mpr h1) h2
    · obtain ⟨K1, hK1, hV⟩ := gval_at (bb := bb) (D := D + 1) (s := nI c) (l := nI (fl c)) hc hB hK
      obtain ⟨K', hK', hr⟩ := f_loop (bb := bb) (D := D) hc hB 9 0 K1 rfl hK1
      refine ⟨K', hK', ?_⟩
      rw [fst9, if_neg (fun q => q.elim h1 h2)]
      exact mc_of rfl (f_pre (D := D + 20) hB (Bool.eq_false_iff.mpr h1) (Bool.eq_false_iff.mpr h2) hV hr)
