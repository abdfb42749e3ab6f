/-! set: both sides -/
section TWs
variable {W : TXW}
set_option maxRecDepth 100000 in
theorem bs_181_1 (call : QC FA) (x0 : Int32) (x1 : Int32) (L : QH FA) (F : Nat) : xnG call 181 (F + 1) 0 [some (vI x0), some (vI x1)] [] L = xnG call 181 F 1 [some (vI x0), some (vI x1)] [vI x0] L := rfl
set_option maxRecDepth 100000 in
theorem bs_181_2 (call : QC FA) (x : Int32) (hx : x = 0) (ls : List (Option PV)) (L : QH FA) (F : Nat) : xnG call 181 (F + 1) 1 ls [vI x] L = xnG call 181 F 2 ls [] L := by
  subst hx
  exact pwa_ (ih := xnG call 181 F) (a := 0) (b := 3) (tg := [39, 2, 11, 21, 30]) (x := 0) (st := []) (by decide) rfl
set_option maxRecDepth 100000 in
theorem bs_181_3 (call : QC FA) (x0 : Int32) (x1 : Int32) (L : QH FA) (F : Nat) : xnG call 181 (F + 1) 2 [some (vI x0), some (vI x1)] [] L = xnG call 181 F 3 [some (vI x0), some (vI x1)] [vI x1] L := rfl
set_option maxRecDepth 100000 in
theorem bs_181_4 (call : QC FA) (x : Int32) (ls : List (Option PV)) (L : QH FA) (F : Nat) : xnG call 181 (F + 1) 3 ls [vI x] L = bif pcmp 2 x 0 then xnG call 181 F 9 ls [] L else xnG call 181 F 4 ls [] L := rfl
set_option maxRecDepth 100000 in
theorem bs_181_5 (call : QC FA) (x0 : Int32) (x1 : Int32) (L : QH FA) (F : Nat) : xnG call 181 (F + 1) 9 [some (vI x0), some (vI x1)] [] L = xnG call 181 F 10 [some (vI x0), some (vI x1)] [vI 0] L := rfl
set_option maxRecDepth 100000 in
theorem bs_181_6 (call : QC FA) (ls : List (Option PV)) (L : QH FA) (F : Nat) : xnG call 181 (F + 1) 10 ls [vI 0] L = some (some (vI 0), L) := rfl
set_option maxRecDepth 100000 in
theorem bs_181_7 (call : QC FA) (x0 : Int32) (x1 : Int32) (L : QH FA) (F : Nat) : xnG call 181 (F + 2) 4 [some (vI x0), some (vI x1)] [] L = xnG call 181 F 6 [some (vI x0), some (vI x1)] [vI 255, vI x1] L := rfl
set_option maxRecDepth 100000 in
theorem bs_181_8 (call : QC FA) (x y : Int32) (ls : List (Option PV)) (L : QH FA) (F : Nat) : xnG call 181 (F + 1) 6 ls [vI y, vI x] L = bif pcmp 4 x y then xnG call 181 F 9 ls [] L else xnG call 181 F 7 ls [] L := rfl
set_option maxRecDepth 100000 in
theorem bs_181_9 (call : QC FA) (x0 : Int32) (x1 : Int32) (L : QH FA) (F : Nat) : xnG call 181 (F + 2) 7 [some (vI x0), some (vI x1)] [] L = xnG call 181 F 10 [some (vI x0), some (vI x1)] [vI 1] L := rfl
set_option maxRecDepth 100000 in
theorem bs_181_10 (call : QC FA) (ls : List (Option PV)) (L : QH FA) (F : Nat) : xnG call 181 (F + 1) 10 ls [vI 1] L = some (some (vI 1), L) := rfl
set_option maxRecDepth 100000 in
theorem bs_181_11 (call : QC FA) (x : Int32) (hx : x = 1) (ls : List (Option PV)) (L : QH FA) (F : Nat) : xnG call 181 (F + 1) 1 ls [vI x] L = xnG call 181 F 11 ls [] L := by
  subst hx
  exact pwa_ (ih := xnG call 181 F) (a := 0) (b := 3) (tg := [39, 2, 11, 21, 30]) (x := 1) (st := []) (by decide) rfl
set_option maxRecDepth 100000 in
theorem bs_181_12 (call : QC FA) (x0 : Int32) (x1 : Int32) (L : QH FA) (F : Nat) : xnG call 181 (F + 2) 11 [some (vI x0), some (vI x1)] [] L = xnG call 181 F 13 [some (vI x0), some (vI x1)] [vI ((-1)), vI x1] L := rfl
set_option maxRecDepth 100000 in
theorem bs_181_13 (call : QC FA) (x y : Int32) (ls : List (Option PV)) (L : QH FA) (F : Nat) : xnG call 181 (F + 1) 13 ls [vI y, vI x] L = bif pcmp 2 x y then xnG call 181 F 19 ls [] L else xnG call 181 F 14 ls [] L := rfl
set_option maxRecDepth 100000 in
theorem bs_181_14 (call : QC FA) (x0 : Int32) (x1 : Int32) (L : QH FA) (F : Nat) : xnG call 181 (F + 1) 19 [some (vI x0), some (vI x1)] [] L = xnG call 181 F 20 [some (vI x0), some (vI x1)] [vI 0] L := rfl
set_option maxRecDepth 100000 in
theorem bs_181_15 (call : QC FA) (ls : List (Option PV)) (L : QH FA) (F : Nat) : xnG call 181 (F + 1) 20 ls [vI 0] L = some (some (vI 0), L) := rfl
set_option maxRecDepth 100000 in
theorem bs_181_16 (call : QC FA) (x0 : Int32) (x1 : Int32) (L : QH FA) (F : Nat) : xnG call 181 (F + 2) 14 [some (vI x0), some (vI x1)] [] L = xnG call 181 F 16 [some (vI x0), some (vI x1)] [vI 1, vI x1] L := rfl
set_option maxRecDepth 100000 in
theorem bs_181_17 (call : QC FA) (x y : Int32) (ls : List (Option PV)) (L : QH FA) (F : Nat) : xnG call 181 (F + 1) 16 ls [vI y, vI x] L = bif pcmp 4 x y then xnG call 181 F 19 ls [] L else xnG call 181 F 17 ls [] L := rfl
set_option maxRecDepth 100000 in
theorem bs_181_18 (call : QC FA) (x0 : Int32) (x1 : Int32) (L : QH FA) (F : Nat) : xnG call 181 (F + 2) 17 [some (vI x0), some (vI x1)] [] L = xnG call 181 F 20 [some (vI x0), some (vI x1)] [vI 1] L := rfl
set_option maxRecDepth 100000 in
theorem bs_181_19 (call : QC FA) (ls : List (Option PV)) (L : QH FA) (F : Nat) : xnG call 181 (F + 1) 20 ls [vI 1] L = some (some (vI 1), L) := rfl
set_option maxRecDepth 100000 in
theorem bs_181_20 (call : QC FA) (x : Int32) (hx : x = 2) (ls : List (Option PV)) (L : QH FA) (F : Nat) : xnG call 181 (F + 1) 1 ls [vI x] L = xnG call 181 F 21 ls [] L := by
  subst hx
  exact pwa_ (ih := xnG call 181 F) (a := 0) (b := 3) (tg := [39, 2, 11, 21, 30]) (x := 2) (st := []) (by decide) rfl
set_option maxRecDepth 100000 in
theorem bs_181_21 (call : QC FA) (x0 : Int32) (x1 : Int32) (L : QH FA) (F : Nat) : xnG call 181 (F + 1) 21 [some (vI x0), some (vI x1)] [] L = xnG call 181 F 22 [some (vI x0), some (vI x1)] [vI x1] L := rfl
set_option maxRecDepth 100000 in
theorem bs_181_22 (call : QC FA) (x : Int32) (ls : List (Option PV)) (L : QH FA) (F : Nat) : xnG call 181 (F + 1) 22 ls [vI x] L = bif pcmp 2 x 0 then xnG call 181 F 28 ls [] L else xnG call 181 F 23 ls [] L := rfl
set_option maxRecDepth 100000 in
theorem bs_181_23 (call : QC FA) (x0 : Int32) (x1 : Int32) (L : QH FA) (F : Nat) : xnG call 181 (F + 1) 28 [some (vI x0), some (vI x1)] [] L = xnG call 181 F 29 [some (vI x0), some (vI x1)] [vI 0] L := rfl
set_option maxRecDepth 100000 in
theorem bs_181_24 (call : QC FA) (ls : List (Option PV)) (L : QH FA) (F : Nat) : xnG call 181 (F + 1) 29 ls [vI 0] L = some (some (vI 0), L) := rfl
set_option maxRecDepth 100000 in
theorem bs_181_25 (call : QC FA) (x0 : Int32) (x1 : Int32) (L : QH FA) (F : Nat) : xnG call 181 (F + 2) 23 [some (vI x0), some (vI x1)] [] L = xnG call 181 F 25 [some (vI x0), some (vI x1)] [vI 12, vI x1] L := rfl
set_option maxRecDepth 100000 in
theorem bs_181_26 (call : QC FA) (x y : Int32) (ls : List (Option PV)) (L : QH FA) (F : Nat) : xnG call 181 (F + 1) 25 ls [vI y, vI x] L = bif pcmp 3 x y then xnG call 181 F 28 ls [] L else xnG call 181 F 26 ls [] L := rfl
set_option maxRecDepth 100000 in
theorem bs_181_27 (call : QC FA) (x0 : Int32) (x1 : Int32) (L : QH FA) (F : Nat) : xnG call 181 (F + 2) 26 [some (vI x0), some (vI x1)] [] L = xnG call 181 F 29 [some (vI x0), some (vI x1)] [vI 1] L := rfl
set_option maxRecDepth 100000 in
theorem bs_181_28 (call : QC FA) (ls : List (Option PV)) (L : QH FA) (F : Nat) : xnG call 181 (F + 1) 29 ls [vI 1] L = some (some (vI 1), L) := rfl
set_option maxRecDepth 100000 in
theorem bs_181_29 (call : QC FA) (x : Int32) (hx : x = 3) (ls : List (Option PV)) (L : QH FA) (F : Nat) : xnG call 181 (F + 1) 1 ls [vI x] L = xnG call 181 F 30 ls [] L := by
  subst hx
  exact pwa_ (ih := xnG call 181 F) (a := 0) (b := 3) (tg := [39, 2, 11, 21, 30]) (x := 3) (st := []) (by decide) rfl
set_option maxRecDepth 100000 in
theorem bs_181_30 (call : QC FA) (x0 : Int32) (x1 : Int32) (L : QH FA) (F : Nat) : xnG call 181 (F + 1) 30 [some (vI x0), some (vI x1)] [] L = xnG call 181 F 31 [some (vI x0), some (vI x1)] [vI x1] L := rfl
set_option maxRecDepth 100000 in
theorem bs_181_31 (call : QC FA) (x : Int32) (ls : List (Option PV)) (L : QH FA) (F : Nat) : xnG call 181 (F + 1) 31 ls [vI x] L = bif pcmp 2 x 0 then xnG call 181 F 37 ls [] L else xnG call 181 F 32 ls [] L := rfl
set_option maxRecDepth 100000 in
theorem bs_181_32 (call : QC FA) (x0 : Int32) (x1 : Int32) (L : QH FA) (F : Nat) : xnG call 181 (F + 1) 37 [some (vI x0), some (vI x1)] [] L = xnG call 181 F 38 [some (vI x0), some (vI x1)] [vI 0] L := rfl
set_option maxRecDepth 100000 in
theorem bs_181_33 (call : QC FA) (ls : List (Option PV)) (L : QH FA) (F : Nat) : xnG call 181 (F + 1) 38 ls [vI 0] L = some (some (vI 0), L) := rfl
set_option maxRecDepth 100000 in
theorem bs_181_34 (call : QC FA) (x0 : Int32) (x1 : Int32) (L : QH FA) (F : Nat) : xnG call 181 (F + 2) 32 [some (vI x0), some (vI x1)] [] L = xnG call 181 F 34 [some (vI x0), some (vI x1)] [vI 9, vI x1] L := rfl
set_option maxRecDepth 100000 in
theorem bs_181_35 (call : QC FA) (x y : Int32) (ls : List (Option PV)) (L : QH FA) (F : Nat) : xnG call 181 (F + 1) 34 ls [vI y, vI x] L = bif pcmp 4 x y then xnG call 181 F 37 ls [] L else xnG call 181 F 35 ls [] L := rfl
set_option maxRecDepth 100000 in
theorem bs_181_36 (call : QC FA) (x0 : Int32) (x1 : Int32) (L : QH FA) (F : Nat) : xnG call 181 (F + 2) 35 [some (vI x0), some (vI x1)] [] L = xnG call 181 F 38 [some (vI x0), some (vI x1)] [vI 1] L := rfl
set_option maxRecDepth 100000 in
theorem bs_181_37 (call : QC FA) (ls : List (Option PV)) (L : QH FA) (F : Nat) : xnG call 181 (F + 1) 38 ls [vI 1] L = some (some (vI 1), L) := rfl
set_option maxRecDepth 100000 in
theorem bs_181_38 (call : QC FA) (x : Int32) (hx : I x < 0 ∨ 3 < I x) (ls : List (Option PV)) (L : QH FA) (F : Nat) : xnG call 181 (F + 1) 1 ls [vI x] L = xnG call 181 F 39 ls [] L := pwd_ (ih := xnG call 181 F) (a := 0) (b := 3) (tg := [39, 2, 11, 21, 30]) (st := []) hx rfl
set_option maxRecDepth 100000 in
theorem bs_181_39 (call : QC FA) (x0 : Int32) (x1 : Int32) (L : QH FA) (F : Nat) : xnG call 181 (F + 1) 39 [some (vI x0), some (vI x1)] [] L = xnG call 181 F 40 [some (vI x0), some (vI x1)] [vI 0] L := rfl
set_option maxRecDepth 100000 in
theorem bs_181_40 (call : QC FA) (ls : List (Option PV)) (L : QH FA) (F : Nat) : xnG call 181 (F + 1) 40 ls [vI 0] L = some (some (vI 0), L) := rfl
theorem vcs_181_0 (call : QC FA) (x0 : Int32) (x1 : Int32) (z : Nat → Int32) (f : Nat → FA) (res : Option PV × QH FA) (H : ((x0 = 0 → ((I x1 < 0 → res = (some (vI 0), LW W z f)) ∧ (0 ≤ I x1 → ((255 < I x1 → res = (some (vI 0), LW W z f)) ∧ (I x1 ≤ 255 → res = (some (vI 1), LW W z f)))))) ∧ (¬ x0 = 0 → ((x0 = 1 → ((I x1 < -1 → res = (some (vI 0), LW W z f)) ∧ (-1 ≤ I x1 → ((1 < I x1 → res = (some (vI 0), LW W z f)) ∧ (I x1 ≤ 1 → res = (some (vI 1), LW W z f)))))) ∧ (¬ x0 = 1 → ((x0 = 2 → ((I x1 < 0 → res = (some (vI 0), LW W z f)) ∧ (0 ≤ I x1 → ((12 ≤ I x1 → res = (some (vI 0), LW W z f)) ∧ (I x1 < 12 → res = (some (vI 1), LW W z f)))))) ∧ (¬ x0 = 2 → ((x0 = 3 → ((I x1 < 0 → res = (some (vI 0), LW W z f)) ∧ (0 ≤ I x1 → ((9 < I x1 → res = (some (vI 0), LW W z f)) ∧ (I x1 ≤ 9 → res = (some (vI 1), LW W z f)))))) ∧ (¬ x0 = 3 → res = (some (vI 0), LW W z f)))))))))) : XC call (mP 181) 0 [some (vI x0), some (vI x1)] [] (LW W z f) res := by
  refine xc_b (i' := 1) (ls' := [some (vI x0), some (vI x1)]) (st' := [vI x0]) (L' := LW W z f) 1 (bs_181_1 call x0 x1 _) ?_
  by_cases q1 : x0 = 0
  · have H := H.1 q1
    refine xc_b (i' := 2) (ls' := [some (vI x0), some (vI x1)]) (st' := []) (L' := LW W z f) 1 (bs_181_2 call x0 q1 _ _) ?_
    refine xc_b (i' := 3) (ls' := [some (vI x0), some (vI x1)]) (st' := [vI x1]) (L' := LW W z f) 1 (bs_181_3 call x0 x1 _) ?_
    refine xc_if (it := 9) (ie := 4) (ls' := [some (vI x0), some (vI x1)]) (st' := []) (bs_181_4 call x1 _ _) (fun q2 => ?_) (fun q2 => ?_)
    · have H := H.1 (cI2t q2 rfl rfl)
      refine xc_b (i' := 10) (ls' := [some (vI x0), some (vI x1)]) (st' := [vI 0]) (L' := LW W z f) 1 (bs_181_5 call x0 x1 _) ?_
      subst H
      exact xc_ret (bs_181_6 call _ _)
    · have H := H.2 (cI2f q2 rfl rfl)
      refine xc_b (i' := 6) (ls' := [some (vI x0), some (vI x1)]) (st' := [vI 255, vI x1]) (L' := LW W z f) 2 (bs_181_7 call x0 x1 _) ?_
      refine xc_if (it := 9) (ie := 7) (ls' := [some (vI x0), some (vI x1)]) (st' := []) (bs_181_8 call x1 255 _ _) (fun q3 => ?_) (fun q3 => ?_)
      · have H := H.1 (cI4t q3 rfl rfl)
        refine xc_b (i' := 10) (ls' := [some (vI x0), some (vI x1)]) (st' := [vI 0]) (L' := LW W z f) 1 (bs_181_5 call x0 x1 _) ?_
        subst H
        exact xc_ret (bs_181_6 call _ _)
      · have H := H.2 (cI4f q3 rfl rfl)
        refine xc_b (i' := 10) (ls' := [some (vI x0), some (vI x1)]) (st' := [vI 1]) (L' := LW W z f) 2 (bs_181_9 call x0 x1 _) ?_
        subst H
        exact xc_ret (bs_181_10 call _ _)
  · have H := H.2 q1
    by_cases q4 : x0 = 1
    · have H := H.1 q4
      refine xc_b (i' := 11) (ls' := [some (vI x0), some (vI x1)]) (st' := []) (L' := LW W z f) 1 (bs_181_11 call x0 q4 _ _) ?_
      refine xc_b (i' := 13) (ls' := [some (vI x0), some (vI x1)]) (st' := [vI ((-1)), vI x1]) (L' := LW W z f) 2 (bs_181_12 call x0 x1 _) ?_
      refine xc_if (it := 19) (ie := 14) (ls' := [some (vI x0), some (vI x1)]) (st' := []) (bs_181_13 call x1 ((-1)) _ _) (fun q5 => ?_) (fun q5 => ?_)
      · have H := H.1 (cI2t q5 rfl rfl)
        refine xc_b (i' := 20) (ls' := [some (vI x0), some (vI x1)]) (st' := [vI 0]) (L' := LW W z f) 1 (bs_181_14 call x0 x1 _) ?_
        subst H
        exact xc_ret (bs_181_15 call _ _)
      · have H := H.2 (cI2f q5 rfl rfl)
        refine xc_b (i' := 16) (ls' := [some (vI x0), some (vI x1)]) (st' := [vI 1, vI x1]) (L' := LW W z f) 2 (bs_181_16 call x0 x1 _) ?_
        refine xc_if (it := 19) (ie := 17) (ls' := [some (vI x0), some (vI x1)]) (st' := []) (bs_181_17 call x1 1 _ _) (fun q6 => ?_) (fun q6 => ?_)
        · have H := H.1 (cI4t q6 rfl rfl)
          refine xc_b (i' := 20) (ls' := [some (vI x0), some (vI x1)]) (st' := [vI 0]) (L' := LW W z f) 1 (bs_181_14 call x0 x1 _) ?_
          subst H
          exact xc_ret (bs_181_15 call _ _)
        · have H := H.2 (cI4f q6 rfl rfl)
          refine xc_b (i' := 20) (ls' := [some (vI x0), some (vI x1)]) (st' := [vI 1]) (L' := LW W z f) 2 (bs_181_18 call x0 x1 _) ?_
          subst H
          exact xc_ret (bs_181_19 call _ _)
    · have H := H.2 q4
      by_cases q7 : x0 = 2
      · have H := H.1 q7
        refine xc_b (i' := 21) (ls' := [some (vI x0), some (vI x1)]) (st' := []) (L' := LW W z f) 1 (bs_181_20 call x0 q7 _ _) ?_
        refine xc_b (i' := 22) (ls' := [some (vI x0), some (vI x1)]) (st' := [vI x1]) (L' := LW W z f) 1 (bs_181_21 call x0 x1 _) ?_
        refine xc_if (it := 28) (ie := 23) (ls' := [some (vI x0), some (vI x1)]) (st' := []) (bs_181_22 call x1 _ _) (fun q8 => ?_) (fun q8 => ?_)
        · have H := H.1 (cI2t q8 rfl rfl)
          refine xc_b (i' := 29) (ls' := [some (vI x0), some (vI x1)]) (st' := [vI 0]) (L' := LW W z f) 1 (bs_181_23 call x0 x1 _) ?_
          subst H
          exact xc_ret (bs_181_24 call _ _)
        · have H := H.2 (cI2f q8 rfl rfl)
          refine xc_b (i' := 25) (ls' := [some (vI x0), some (vI x1)]) (st' := [vI 12, vI x1]) (L' := LW W z f) 2 (bs_181_25 call x0 x1 _) ?_
          refine xc_if (it := 28) (ie := 26) (ls' := [some (vI x0), some (vI x1)]) (st' := []) (bs_181_26 call x1 12 _ _) (fun q9 => ?_) (fun q9 => ?_)
          · have H := H.1 (cI3t q9 rfl rfl)
            refine xc_b (i' := 29) (ls' := [some (vI x0), some (vI x1)]) (st' := [vI 0]) (L' := LW W z f) 1 (bs_181_23 call x0 x1 _) ?_
            subst H
            exact xc_ret (bs_181_24 call _ _)
          · have H := H.2 (cI3f q9 rfl rfl)
            refine xc_b (i' := 29) (ls' := [some (vI x0), some (vI x1)]) (st' := [vI 1]) (L' := LW W z f) 2 (bs_181_27 call x0 x1 _) ?_
            subst H
            exact xc_ret (bs_181_28 call _ _)
      · have H := H.2 q7
        by_cases q10 : x0 = 3
        · have H := H.1 q10
          refine xc_b (i' := 30) (ls' := [some (vI x0), some (vI x1)]) (st' := []) (L' := LW W z f) 1 (bs_181_29 call x0 q10 _ _) ?_
          refine xc_b (i' := 31) (ls' := [some (vI x0), some (vI x1)]) (st' := [vI x1]) (L' := LW W z f) 1 (bs_181_30 call x0 x1 _) ?_
          refine xc_if (it := 37) (ie := 32) (ls' := [some (vI x0), some (vI x1)]) (st' := []) (bs_181_31 call x1 _ _) (fun q11 => ?_) (fun q11 => ?_)
          · have H := H.1 (cI2t q11 rfl rfl)
            refine xc_b (i' := 38) (ls' := [some (vI x0), some (vI x1)]) (st' := [vI 0]) (L' := LW W z f) 1 (bs_181_32 call x0 x1 _) ?_
            subst H
            exact xc_ret (bs_181_33 call _ _)
          · have H := H.2 (cI2f q11 rfl rfl)
            refine xc_b (i' := 34) (ls' := [some (vI x0), some (vI x1)]) (st' := [vI 9, vI x1]) (L' := LW W z f) 2 (bs_181_34 call x0 x1 _) ?_
            refine xc_if (it := 37) (ie := 35) (ls' := [some (vI x0), some (vI x1)]) (st' := []) (bs_181_35 call x1 9 _ _) (fun q12 => ?_) (fun q12 => ?_)
            · have H := H.1 (cI4t q12 rfl rfl)
              refine xc_b (i' := 38) (ls' := [some (vI x0), some (vI x1)]) (st' := [vI 0]) (L' := LW W z f) 1 (bs_181_32 call x0 x1 _) ?_
              subst H
              exact xc_ret (bs_181_33 call _ _)
            · have H := H.2 (cI4f q12 rfl rfl)
              refine xc_b (i' := 38) (ls' := [some (vI x0), some (vI x1)]) (st' := [vI 1]) (L' := LW W z f) 2 (bs_181_36 call x0 x1 _) ?_
              subst H
              exact xc_ret (bs_181_37 call _ _)
        · have H := H.2 q10
          refine xc_b (i' := 39) (ls' := [some (vI x0), some (vI x1)]) (st' := []) (L' := LW W z f) 1 (bs_181_38 call x0 (by have := (show I x0 ≠ 0 from ne_I q1); have := (show I x0 ≠ 1 from ne_I q4); have := (show I x0 ≠ 2 from ne_I q7); have := (show I x0 ≠ 3 from ne_I q10); omega) _ _) ?_
          refine xc_b (i' := 40) (ls' := [some (vI x0), some (vI x1)]) (st' := [vI 0]) (L' := LW W z f) 1 (bs_181_39 call x0 x1 _) ?_
          subst H
          exact xc_ret (bs_181_40 call _ _)
set_option maxRecDepth 100000 in
theorem bs_176_1 (call : QC FA) (x1 : Int32) (x2 : Int32) (x3 : Int32) (L : QH FA) (F : Nat) : xnG call 176 (F + 2) 0 [some (vR 0), some (vI x1), some (vI x2), some (vI x3)] [] L = xnG call 176 F 2 [some (vR 0), some (vI x1), some (vI x2), some (vI x3)] [vI 4, vI x1] L := rfl
set_option maxRecDepth 100000 in
theorem bs_176_2 (call : QC FA) (x y : Int32) (ls : List (Option PV)) (L : QH FA) (F : Nat) : xnG call 176 (F + 1) 2 ls [vI y, vI x] L = bif pcmp 1 x y then xnG call 176 F 16 ls [] L else xnG call 176 F 3 ls [] L := rfl
set_option maxRecDepth 100000 in
theorem bs_176_3 (call : QC FA) (x1 : Int32) (x2 : Int32) (x3 : Int32) (z : Nat → Int32) (f : Nat → FA) (F : Nat) : xnG call 176 (F + 4) 16 [some (vR 0), some (vI x1), some (vI x2), some (vI x3)] [] (LW W z f) = xnG call 176 F 20 [some (vR 0), some (vI x1), some (vI x2), some (vI x3)] [vI x2, vR 2] (LW W z f) := rfl
set_option maxRecDepth 100000 in
theorem bs_176_4 (call : QC FA) (a0 : Int32) (ls : List (Option PV)) (z : Nat → Int32) (f : Nat → FA) (F : Nat) : xnG call 176 (F + 1) 20 ls [vI a0, vR 2] (LW W z f) = cbd (call 14 [vR 2, vI a0] (LW W z f)) (fun r L' => xnG call 176 F 21 ls (r.toList ++ []) L') := pcY (ih := xnG call 176 F) (call := call) (a := 14) (b := 1) (v := 0) (t := 21) (x := 2) (ls := ls) (As := [vI a0]) (st' := []) (L := LW W z f) rfl rfl rfl
set_option maxRecDepth 100000 in
theorem bs_176_5 (call : QC FA) (x : Int32) (ls : List (Option PV)) (L : QH FA) (F : Nat) : xnG call 176 (F + 1) 21 ls [vI x] L = bif pcmp 0 x 0 then xnG call 176 F 26 ls [] L else xnG call 176 F 22 ls [] L := rfl
set_option maxRecDepth 100000 in
theorem bs_176_6 (call : QC FA) (x1 : Int32) (x2 : Int32) (x3 : Int32) (L : QH FA) (F : Nat) : xnG call 176 (F + 1) 26 [some (vR 0), some (vI x1), some (vI x2), some (vI x3)] [] L = xnG call 176 F 27 [some (vR 0), some (vI x1), some (vI x2), some (vI x3)] [vI 0] L := rfl
set_option maxRecDepth 100000 in
theorem bs_176_7 (call : QC FA) (ls : List (Option PV)) (L : QH FA) (F : Nat) : xnG call 176 (F + 1) 27 ls [vI 0] L = some (some (vI 0), L) := rfl
set_option maxRecDepth 100000 in
theorem bs_176_8 (call : QC FA) (x1 : Int32) (x2 : Int32) (x3 : Int32) (L : QH FA) (F : Nat) : xnG call 176 (F + 2) 22 [some (vR 0), some (vI x1), some (vI x2), some (vI x3)] [] L = xnG call 176 F 24 [some (vR 0), some (vI x1), some (vI x2), some (vI x3)] [vI x3, vI x1] L := rfl
set_option maxRecDepth 100000 in
theorem bs_176_9 (call : QC FA) (a0 : Int32) (a1 : Int32) (ls : List (Option PV)) (z : Nat → Int32) (f : Nat → FA) (F : Nat) : xnG call 176 (F + 1) 24 ls [vI a1, vI a0] (LW W z f) = cbd (call 181 [vI a0, vI a1] (LW W z f)) (fun r L' => xnG call 176 F 25 ls (r.toList ++ []) L') := pcZ (ih := xnG call 176 F) (call := call) (a := 181) (b := 2) (t := 25) (ls := ls) (As := [vI a0, vI a1]) (st' := []) (L := LW W z f) rfl rfl
set_option maxRecDepth 100000 in
theorem bs_176_10 (call : QC FA) (x : Int32) (ls : List (Option PV)) (L : QH FA) (F : Nat) : xnG call 176 (F + 1) 25 ls [vI x] L = bif pcmp 1 x 0 then xnG call 176 F 28 ls [] L else xnG call 176 F 26 ls [] L := rfl
set_option maxRecDepth 100000 in
theorem bs_176_11 (call : QC FA) (x1 : Int32) (x2 : Int32) (x3 : Int32) (z : Nat → Int32) (f : Nat → FA) (F : Nat) : xnG call 176 (F + 6) 28 [some (vR 0), some (vI x1), some (vI x2), some (vI x3)] [] (LW W z f) = xnG call 176 F 34 [some (vR 0), some (vI x1), some (vI x2), some (vI x3)] [vI x3, vI x1, vI x2, vR 2] (LW W z f) := rfl
set_option maxRecDepth 100000 in
theorem bs_176_12 (call : QC FA) (a0 : Int32) (a1 : Int32) (a2 : Int32) (ls : List (Option PV)) (z : Nat → Int32) (f : Nat → FA) (F : Nat) : xnG call 176 (F + 1) 34 ls [vI a2, vI a1, vI a0, vR 2] (LW W z f) = cbd (call 87 [vR 2, vI a0, vI a1, vI a2] (LW W z f)) (fun r L' => xnG call 176 F 35 ls (r.toList ++ []) L') := pcY (ih := xnG call 176 F) (call := call) (a := 87) (b := 3) (v := 0) (t := 35) (x := 2) (ls := ls) (As := [vI a0, vI a1, vI a2]) (st' := []) (L := LW W z f) rfl rfl rfl
set_option maxRecDepth 100000 in
theorem bs_176_13 (call : QC FA) (x1 : Int32) (x2 : Int32) (x3 : Int32) (z : Nat → Int32) (f : Nat → FA) (F : Nat) : xnG call 176 (F + 2) 35 [some (vR 0), some (vI x1), some (vI x2), some (vI x3)] [] (LW W z f) = xnG call 176 F 37 [some (vR 0), some (vI x1), some (vI x2), some (vI x3)] [vR 12] (LW W z f) := rfl
set_option maxRecDepth 100000 in
theorem bs_176_14 (call : QC FA) (ls : List (Option PV)) (z : Nat → Int32) (f : Nat → FA) (F : Nat) : xnG call 176 (F + 1) 37 ls [vR 12] (LW W z f) = cbd (call 139 [vR 12] (LW W z f)) (fun r L' => xnG call 176 F 38 ls (r.toList ++ []) L') := pcY (ih := xnG call 176 F) (call := call) (a := 139) (b := 0) (v := 7) (t := 38) (x := 12) (ls := ls) (As := []) (st' := []) (L := LW W z f) rfl rfl rfl
set_option maxRecDepth 100000 in
theorem bs_176_15 (call : QC FA) (x1 : Int32) (x2 : Int32) (x3 : Int32) (L : QH FA) (F : Nat) : xnG call 176 (F + 1) 38 [some (vR 0), some (vI x1), some (vI x2), some (vI x3)] [] L = xnG call 176 F 39 [some (vR 0), some (vI x1), some (vI x2), some (vI x3)] [vI 1] L := rfl
set_option maxRecDepth 100000 in
theorem bs_176_16 (call : QC FA) (ls : List (Option PV)) (L : QH FA) (F : Nat) : xnG call 176 (F + 1) 39 ls [vI 1] L = some (some (vI 1), L) := rfl
set_option maxRecDepth 100000 in
theorem bs_176_17 (call : QC FA) (x1 : Int32) (x2 : Int32) (x3 : Int32) (L : QH FA) (F : Nat) : xnG call 176 (F + 1) 3 [some (vR 0), some (vI x1), some (vI x2), some (vI x3)] [] L = xnG call 176 F 4 [some (vR 0), some (vI x1), some (vI x2), some (vI x3)] [vI x3] L := rfl
set_option maxRecDepth 100000 in
theorem bs_176_18 (call : QC FA) (x : Int32) (ls : List (Option PV)) (L : QH FA) (F : Nat) : xnG call 176 (F + 1) 4 ls [vI x] L = bif pcmp 2 x 0 then xnG call 176 F 8 ls [] L else xnG call 176 F 5 ls [] L := rfl
set_option maxRecDepth 100000 in
theorem bs_176_19 (call : QC FA) (x1 : Int32) (x2 : Int32) (x3 : Int32) (L : QH FA) (F : Nat) : xnG call 176 (F + 1) 8 [some (vR 0), some (vI x1), some (vI x2), some (vI x3)] [] L = xnG call 176 F 9 [some (vR 0), some (vI x1), some (vI x2), some (vI x3)] [vI 0] L := rfl
set_option maxRecDepth 100000 in
theorem bs_176_20 (call : QC FA) (ls : List (Option PV)) (L : QH FA) (F : Nat) : xnG call 176 (F + 1) 9 ls [vI 0] L = some (some (vI 0), L) := rfl
set_option maxRecDepth 100000 in
theorem bs_176_21 (call : QC FA) (x1 : Int32) (x2 : Int32) (x3 : Int32) (L : QH FA) (F : Nat) : xnG call 176 (F + 2) 5 [some (vR 0), some (vI x1), some (vI x2), some (vI x3)] [] L = xnG call 176 F 7 [some (vR 0), some (vI x1), some (vI x2), some (vI x3)] [vI 9, vI x3] L := rfl
set_option maxRecDepth 100000 in
theorem bs_176_22 (call : QC FA) (x y : Int32) (ls : List (Option PV)) (L : QH FA) (F : Nat) : xnG call 176 (F + 1) 7 ls [vI y, vI x] L = bif pcmp 5 x y then xnG call 176 F 10 ls [] L else xnG call 176 F 8 ls [] L := rfl
set_option maxRecDepth 100000 in
theorem bs_176_23 (call : QC FA) (x1 : Int32) (x2 : Int32) (x3 : Int32) (z : Nat → Int32) (f : Nat → FA) (F : Nat) : xnG call 176 (F + 4) 10 [some (vR 0), some (vI x1), some (vI x2), some (vI x3)] [] (LW W z f) = xnG call 176 F 14 [some (vR 0), some (vI x1), some (vI x2), some (vI x3)] [vI x3, vR 2] (LW W z f) := rfl
set_option maxRecDepth 100000 in
theorem bs_176_24 (call : QC FA) (y : Int32) (ls : List (Option PV)) (z : Nat → Int32) (f : Nat → FA) (F : Nat) : xnG call 176 (F + 1) 14 ls [vI y, vR 2] (LW W z f) = xnG call 176 F 15 ls [] (LW W (uZ z 23 y) f) := rfl
set_option maxRecDepth 100000 in
theorem bs_176_25 (call : QC FA) (x1 : Int32) (x2 : Int32) (x3 : Int32) (z : Nat → Int32) (f : Nat → FA) (F : Nat) : xnG call 176 (F + 3) 15 [some (vR 0), some (vI x1), some (vI x2), some (vI x3)] [] (LW W z f) = xnG call 176 F 37 [some (vR 0), some (vI x1), some (vI x2), some (vI x3)] [vR 12] (LW W z f) := rfl
theorem vcs_176_0 (call : QC FA) (x1 : Int32) (x2 : Int32) (x3 : Int32) (z : Nat → Int32) (f : Nat → FA) (res : Option PV × QH FA) (H : ((¬ x1 = 4 → (∃ (r1 : Int32) (z1 : Nat → Int32) (f1 : Nat → FA), call 14 [vR 2, vI x2] (LW W z f) = some (some (vI r1), LW W z1 f1) ∧ ((r1 = 0 → res = (some (vI 0), LW W z1 f1)) ∧ (¬ r1 = 0 → (∃ (r2 : Int32) (z2 : Nat → Int32) (f2 : Nat → FA), call 181 [vI x1, vI x3] (LW W z1 f1) = some (some (vI r2), LW W z2 f2) ∧ ((¬ r2 = 0 → (∃ (z3 : Nat → Int32) (f3 : Nat → FA), call 87 [vR 2, vI x2, vI x1, vI x3] (LW W z2 f2) = some (none, LW W z3 f3) ∧ (∃ (z4 : Nat → Int32) (f4 : Nat → FA), call 139 [vR 12] (LW W z3 f3) = some (none, LW W z4 f4) ∧ res = (some (vI 1), LW W z4 f4)))) ∧ (r2 = 0 → res = (some (vI 0), LW W z2 f2)))))))) ∧ (x1 = 4 → ((I x3 < 0 → res = (some (vI 0), LW W z f)) ∧ (0 ≤ I x3 → ((I x3 ≤ 9 → (∃ (z5 : Nat → Int32) (f5 : Nat → FA), call 139 [vR 12] (LW W (uZ z 23 x3) f) = some (none, LW W z5 f5) ∧ res = (some (vI 1), LW W z5 f5))) ∧ (9 < I x3 → res = (some (vI 0), LW W z f)))))))) : XC call (mP 176) 0 [some (vR 0), some (vI x1), some (vI x2), some (vI x3)] [] (LW W z f) res := by
  refine xc_b (i' := 2) (ls' := [some (vR 0), some (vI x1), some (vI x2), some (vI x3)]) (st' := [vI 4, vI x1]) (L' := LW W z f) 2 (bs_176_1 call x1 x2 x3 _) ?_
  refine xc_if (it := 16) (ie := 3) (ls' := [some (vR 0), some (vI x1), some (vI x2), some (vI x3)]) (st' := []) (bs_176_2 call x1 4 _ _) (fun q1 => ?_) (fun q1 => ?_)
  · have H := H.1 (cI1t q1)
    refine xc_b (i' := 20) (ls' := [some (vR 0), some (vI x1), some (vI x2), some (vI x3)]) (st' := [vI x2, vR 2]) (L' := LW W z f) 4 (bs_176_3 call x1 x2 x3 z f) ?_
    obtain ⟨r1, z1, f1, hc, H⟩ := H
    refine xc_call (t := 21) (ls' := [some (vR 0), some (vI x1), some (vI x2), some (vI x3)]) (st' := []) (bs_176_4 call x2 _ z f) hc ?_
    show XC call (mP 176) 21 [some (vR 0), some (vI x1), some (vI x2), some (vI x3)] [vI r1] (LW W z1 f1) res
    refine xc_if (it := 26) (ie := 22) (ls' := [some (vR 0), some (vI x1), some (vI x2), some (vI x3)]) (st' := []) (bs_176_5 call r1 _ _) (fun q2 => ?_) (fun q2 => ?_)
    · have H := H.1 (cI0t q2)
      refine xc_b (i' := 27) (ls' := [some (vR 0), some (vI x1), some (vI x2), some (vI x3)]) (st' := [vI 0]) (L' := LW W z1 f1) 1 (bs_176_6 call x1 x2 x3 _) ?_
      subst H
      exact xc_ret (bs_176_7 call _ _)
    · have H := H.2 (cI0f q2)
      refine xc_b (i' := 24) (ls' := [some (vR 0), some (vI x1), some (vI x2), some (vI x3)]) (st' := [vI x3, vI x1]) (L' := LW W z1 f1) 2 (bs_176_8 call x1 x2 x3 _) ?_
      obtain ⟨r2, z2, f2, hc, H⟩ := H
      refine xc_call (t := 25) (ls' := [some (vR 0), some (vI x1), some (vI x2), some (vI x3)]) (st' := []) (bs_176_9 call x1 x3 _ z1 f1) hc ?_
      show XC call (mP 176) 25 [some (vR 0), some (vI x1), some (vI x2), some (vI x3)] [vI r2] (LW W z2 f2) res
      refine xc_if (it := 28) (ie := 26) (ls' := [some (vR 0), some (vI x1), some (vI x2), some (vI x3)]) (st' := []) (bs_176_10 call r2 _ _) (fun q3 => ?_) (fun q3 => ?_)
      · have H := H.1 (cI1t q3)
        refine xc_b (i' := 34) (ls' := [some (vR 0), some (vI x1), some (vI x2), some (vI x3)]) (st' := [vI x3, vI x1, vI x2, vR 2]) (L' := LW W z2 f2) 6 (bs_176_11 call x1 x2 x3 z2 f2) ?_
        obtain ⟨z3, f3, hc, H⟩ := H
        refine xc_call (t := 35) (ls' := [some (vR 0), some (vI x1), some (vI x2), some (vI x3)]) (st' := []) (bs_176_12 call x2 x1 x3 _ z2 f2) hc ?_
        show XC call (mP 176) 35 [some (vR 0), some (vI x1), some (vI x2), some (vI x3)] [] (LW W z3 f3) res
        refine xc_b (i' := 37) (ls' := [some (vR 0), some (vI x1), some (vI x2), some (vI x3)]) (st' := [vR 12]) (L' := LW W z3 f3) 2 (bs_176_13 call x1 x2 x3 z3 f3) ?_
        obtain ⟨z4, f4, hc, H⟩ := H
        refine xc_call (t := 38) (ls' := [some (vR 0), some (vI x1), some (vI x2), some (vI x3)]) (st' := []) (bs_176_14 call _ z3 f3) hc ?_
        show XC call (mP 176) 38 [some (vR 0), some (vI x1), some (vI x2), some (vI x3)] [] (LW W z4 f4) res
        refine xc_b (i' := 39) (ls' := [some (vR 0), some (vI x1), some (vI x2), some (vI x3)]) (st' := [vI 1]) (L' := LW W z4 f4) 1 (bs_176_15 call x1 x2 x3 _) ?_
        subst H
        exact xc_ret (bs_176_16 call _ _)
      · have H := H.2 (cI1f q3)
        refine xc_b (i' := 27) (ls' := [some (vR 0), some (vI x1), some (vI x2), some (vI x3)]) (st' := [vI 0]) (L' := LW W z2 f2) 1 (bs_176_6 call x1 x2 x3 _) ?_
        subst H
        exact xc_ret (bs_176_7 call _ _)
  · have H := H.2 (cI1f q1)
    refine xc_b (i' := 4) (ls' := [some (vR 0), some (vI x1), some (vI x2), some (vI x3)]) (st' := [vI x3]) (L' := LW W z f) 1 (bs_176_17 call x1 x2 x3 _) ?_
    refine xc_if (it := 8) (ie := 5) (ls' := [some (vR 0), some (vI x1), some (vI x2), some (vI x3)]) (st' := []) (bs_176_18 call x3 _ _) (fun q4 => ?_) (fun q4 => ?_)
    · have H := H.1 (cI2t q4 rfl rfl)
      refine xc_b (i' := 9) (ls' := [some (vR 0), some (vI x1), some (vI x2), some (vI x3)]) (st' := [vI 0]) (L' := LW W z f) 1 (bs_176_19 call x1 x2 x3 _) ?_
      subst H
      exact xc_ret (bs_176_20 call _ _)
    · have H := H.2 (cI2f q4 rfl rfl)
      refine xc_b (i' := 7) (ls' := [some (vR 0), some (vI x1), some (vI x2), some (vI x3)]) (st' := [vI 9, vI x3]) (L' := LW W z f) 2 (bs_176_21 call x1 x2 x3 _) ?_
      refine xc_if (it := 10) (ie := 8) (ls' := [some (vR 0), some (vI x1), some (vI x2), some (vI x3)]) (st' := []) (bs_176_22 call x3 9 _ _) (fun q5 => ?_) (fun q5 => ?_)
      · have H := H.1 (cI5t q5 rfl rfl)
        refine xc_b (i' := 14) (ls' := [some (vR 0), some (vI x1), some (vI x2), some (vI x3)]) (st' := [vI x3, vR 2]) (L' := LW W z f) 4 (bs_176_23 call x1 x2 x3 z f) ?_
        refine xc_b (i' := 15) (ls' := [some (vR 0), some (vI x1), some (vI x2), some (vI x3)]) (st' := []) (L' := LW W (uZ z 23 x3) f) 1 (bs_176_24 call x3 _ z f) ?_
        refine xc_b (i' := 37) (ls' := [some (vR 0), some (vI x1), some (vI x2), some (vI x3)]) (st' := [vR 12]) (L' := LW W (uZ z 23 x3) f) 3 (bs_176_25 call x1 x2 x3 (uZ z 23 x3) f) ?_
        obtain ⟨z5, f5, hc, H⟩ := H
        refine xc_call (t := 38) (ls' := [some (vR 0), some (vI x1), some (vI x2), some (vI x3)]) (st' := []) (bs_176_14 call _ (uZ z 23 x3) f) hc ?_
        show XC call (mP 176) 38 [some (vR 0), some (vI x1), some (vI x2), some (vI x3)] [] (LW W z5 f5) res
        refine xc_b (i' := 39) (ls' := [some (vR 0), some (vI x1), some (vI x2), some (vI x3)]) (st' := [vI 1]) (L' := LW W z5 f5) 1 (bs_176_15 call x1 x2 x3 _) ?_
        subst H
        exact xc_ret (bs_176_16 call _ _)
      · have H := H.2 (cI5f q5 rfl rfl)
        refine xc_b (i' := 9) (ls' := [some (vR 0), some (vI x1), some (vI x2), some (vI x3)]) (st' := [vI 0]) (L' := LW W z f) 1 (bs_176_19 call x1 x2 x3 _) ?_
        subst H
        exact xc_ret (bs_176_20 call _ _)
theorem wCan0 (d : Nat) (x : Int32) {z : Nat → Int32} {f : Nat → FA} : xcall (d + 1) 181 [vI (nI 0), vI x] (LW W z f) = some (some (vI (mk1 (0 ≤ I x ∧ I x ≤ 255))), LW W z f) := by
  have go : ∀ res, _ → xcall (d + 1) 181 [vI (nI 0), vI x] (LW W z f) = some res := fun res H => xcall_i (mq181 (cu := [])).2.2 rfl (vcs_181_0 (xcall d) (nI 0) x z f res H)
  exact go _ ⟨fun _ => ⟨fun _ => by rw [mk1_f (by omega)], fun q => ⟨fun _ => by rw [mk1_f (by omega)], fun q2 => by rw [mk1_t (by omega)]⟩⟩, fun q => absurd rfl q⟩
theorem wCan1 (d : Nat) (x : Int32) {z : Nat → Int32} {f : Nat → FA} : xcall (d + 1) 181 [vI (nI 1), vI x] (LW W z f) = some (some (vI (mk1 (-1 ≤ I x ∧ I x ≤ 1))), LW W z f) := by
  have go : ∀ res, _ → xcall (d + 1) 181 [vI (nI 1), vI x] (LW W z f) = some res := fun res H => xcall_i (mq181 (cu := [])).2.2 rfl (vcs_181_0 (xcall d) (nI 1) x z f res H)
  exact go _ ⟨fun q => absurd q (by decide), fun _ => ⟨fun _ => ⟨fun _ => by rw [mk1_f (by omega)], fun q => ⟨fun _ => by rw [mk1_f (by omega)], fun q2 => by rw [mk1_t (by omega)]⟩⟩, fun q => absurd rfl q⟩⟩
theorem wCan2 (d : Nat) (x : Int32) {z : Nat → Int32} {f : Nat → FA} : xcall (d + 1) 181 [vI (nI 2), vI x] (LW W z f) = some (some (vI (mk1 (0 ≤ I x ∧ I x ≤ 11))), LW W z f) := by
  have go : ∀ res, _ → xcall (d + 1) 181 [vI (nI 2), vI x] (LW W z f) = some res := fun res H => xcall_i (mq181 (cu := [])).2.2 rfl (vcs_181_0 (xcall d) (nI 2) x z f res H)
  exact go _ ⟨fun q => absurd q (by decide), fun _ => ⟨fun q => absurd q (by decide), fun _ => ⟨fun _ => ⟨fun _ => by rw [mk1_f (by omega)], fun q => ⟨fun _ => by rw [mk1_f (by omega)], fun q2 => by rw [mk1_t (by omega)]⟩⟩, fun q => absurd rfl q⟩⟩⟩
theorem wCan3 (d : Nat) (x : Int32) {z : Nat → Int32} {f : Nat → FA} : xcall (d + 1) 181 [vI (nI 3), vI x] (LW W z f) = some (some (vI (mk1 (0 ≤ I x ∧ I x ≤ 9))), LW W z f) := by
  have go : ∀ res, _ → xcall (d + 1) 181 [vI (nI 3), vI x] (LW W z f) = some res := fun res H => xcall_i (mq181 (cu := [])).2.2 rfl (vcs_181_0 (xcall d) (nI 3) x z f res H)
  exact go _ ⟨fun q => absurd q (by decide), fun _ => ⟨fun q => absurd q (by decide), fun _ => ⟨fun q => absurd q (by decide), fun _ => ⟨fun _ => ⟨fun _ => by rw [mk1_f (by omega)], fun q => ⟨fun _ => by rw [mk1_f (by omega)], fun q2 => by rw [mk1_t (by omega)]⟩⟩, fun q => absurd rfl q⟩⟩⟩⟩
section SETS
variable {L : LAW} {n nv nw ns : Nat}
/-- set -/
theorem simSetU (d d' : Nat) {c : Nat} {z zr : Nat → Int32} {f r : Nat → FA} (a b x : Int32) (hR : WR W L n nv nw ns z f zr r) (hG : RGA c c c nv z f zr r) : ∃ s z' f' zr' r' c', xcall (d + 4) 176 [vR 0, vI a, vI b, vI x] (LW W z f) = some (some (vI s), LW W z' f') ∧ mcall (d' + 3) 272 [vR 0, vI a, vI b, vI x] (LR zr r) = some (some (vI s), LR zr' r') ∧ WR W L n nv nw ns z' f' zr' r' ∧ RGA c' c' c' nv z' f' zr' r' ∧ HF z f zr r z' f' zr' r' := by
  have hn := hR.1.1.1
  have zv : z 22 = nI nv := hR.1.1.2.1.1
  have R0 := hR.z0
  have G0 := hG.z0
  by_cases a4 : a = 4
  · subst a4
    have x4 : ix 4 = 4 := by decide
    by_cases ok : 0 ≤ I x ∧ I x ≤ 9
    · have cs : mcall (d' + 2) 194 [vR 0, vI 4, vI b, vI x] (LR (uZ zr 0 0) r) = some (some (vI 1), LR (uZ zr 0 0) r) := mcall_i (mq194 (cu := [])).2.2 rfl (vc194_0 d' _ _ x _ r _ ⟨fun q => absurd rfl q, fun _ => by rw [bI_t ok]⟩)
      have hc : CRL 2 nv (uZ (uZ z 23 x) 123 0) f (uA r 1 (upd (r 1) 4 x)) := CRo.st (c := 2) (cr_heatn x hR.1.1) (fun i h1 h2 => uZ_n (by omega)) rfl rfl
      have H1 : HF z f zr r (uZ (uZ z 23 x) 123 0) f (uZ (uZ zr 0 0) 3 0) (uA r 1 (upd (r 1) 4 x)) := ⟨fun j hj => by rw [uZ_n (by omega), uZ_n (by omega)], fun _ _ _ => rfl, fun j h1 h2 => by rw [uZ_n h2, uZ_n h1], fun k hk => uA_ne (fun q => hk (by rw [q]; decide))⟩
      have hr : RLn nv (uZ (uZ z 23 x) 123 0) f (uZ (uZ zr 0 0) 3 0) (uA r 1 (upd (r 1) 4 x)) := ⟨hc, fun j hj => by rw [uA_ne (show (7 : Nat) ≠ 1 by decide)]; exact hR.1.2.1 j hj, by rw [uZ_n (by decide), uZ_n (by decide)]; exact hR.1.2.2⟩
      exact ⟨1, _, f, _, _, 0, xcall_i (mq176 (cu := [])).2.2 rfl (vcs_176_0 (xcall (d + 3)) _ b x z f _ ⟨fun q => absurd rfl q, fun _ => ⟨fun q => by omega, fun _ => ⟨fun _ => ⟨_, _, wForget (d + 2), rfl⟩, fun q => by omega⟩⟩⟩), mcall_i (mq272 (cu := [])).2.2 rfl (vc272_0 (d' + 1) _ b x zr r _ ⟨_, _, _, cs, fun _ => ⟨fun _ => ⟨fun _ => ⟨fun _ => ⟨fun _ => ⟨fun q => absurd rfl q, fun _ => ⟨by decide, by rw [x4]⟩⟩, fun q => absurd q (by decide)⟩, fun q => absurd q (by decide)⟩, fun q => absurd q (by decide)⟩, fun q => absurd q (by decide)⟩, fun q => absurd q (by decide)⟩), hR.hf hr H1, hG.forget (by rw [uZ_n (by decide), uZ_n (by decide)]) uZ_s uZ_s, H1⟩
    · have cs : mcall (d' + 2) 194 [vR 0, vI 4, vI b, vI x] (LR (uZ zr 0 0) r) = some (some (vI 0), LR (uZ zr 0 0) r) := mcall_i (mq194 (cu := [])).2.2 rfl (vc194_0 d' _ _ x _ r _ ⟨fun q => absurd rfl q, fun _ => by rw [bI_f ok]⟩)
      exact ⟨0, z, f, uZ zr 0 0, r, c, xcall_i (mq176 (cu := [])).2.2 rfl (vcs_176_0 (xcall (d + 3)) _ b x z f _ ⟨fun q => absurd rfl q, fun _ => ⟨fun _ => rfl, fun q => ⟨fun q2 => absurd ⟨q, q2⟩ ok, fun _ => rfl⟩⟩⟩), mcall_i (mq272 (cu := [])).2.2 rfl (vc272_0 (d' + 1) _ b x zr r _ ⟨_, _, _, cs, fun q => absurd rfl q, fun _ => rfl⟩), R0, G0, HF.z0 z f zr r⟩
  · have hs := wHasn (W := W) (d + 2) b (f := f) zv hn
    have mv := mVoter (d' + 0) b hn (r := r) R0.2.2.2.2
    by_cases cv : 0 ≤ I b ∧ I b < nv
    · rw [mk1_t cv] at hs mv
      obtain ⟨v, rfl, v1, v2⟩ := nI_ofI cv.1
      have hv : v < nv := by omega
      have pv : pin (nI v) 20 = true := pin_nI (by omega) (by omega)
      have xv : ix (nI v) = v := ix_nI (by omega)
      have e7 : (7 : Int32) + nI v = nI (7 + v) := nI_add 7 v
      have p7 : pin (7 + nI v) 499 = true := by rw [e7]; exact pin_nI (by omega) (by omega)
      have x7 : ix (7 + nI v) = 7 + v := by rw [e7]; exact ix_nI (by omega)
      by_cases ca : 0 ≤ I a ∧ I a ≤ 3
      · obtain ⟨w, rfl, w1, w2⟩ := nI_ofI ca.1
        rcases (show w = 0 ∨ w = 1 ∨ w = 2 ∨ w = 3 by omega) with rfl | rfl | rfl | rfl
        · by_cases ok : (0 ≤ I x ∧ I x ≤ 255)
          · have cs := mCanSet0 (d' + 0) x hn hv (r := r) R0.2.2.2.2
            rw [bI_t ok] at cs
            have cn := wCan0 (W := W) (d + 2) x (z := z) (f := f)
            rw [mk1_t ok] at cn
            have st := wSetTn (W := W) (d + 1) x (f := f) (w := 0) zv hn hv (by omega)
            rw [show 20 * 0 + v = 0 + v from rfl] at st
            have hc : CRL 2 nv (uZ z 123 0) (uA f 3 (upd (f 3) (0 + v) x)) (uA r 4 (upd (r 4) v x)) := CRo.st (c := 2) (cr_whorl hv x hR.1.1) (fun i h1 h2 => uZ_n (by omega)) rfl rfl
            have H1 : HF z f zr r (uZ z 123 0) (uA f 3 (upd (f 3) (0 + v) x)) (uZ (uZ zr 0 0) 3 0) (uA r 4 (upd (r 4) v x)) := ⟨fun j hj => uZ_n (by omega), fun k _ hk => uA_ne (fun q => hk (by rw [q]; decide)), fun j h1 h2 => by rw [uZ_n h2, uZ_n h1], fun k hk => uA_ne (fun q => hk (by rw [q]; decide))⟩
            have hr : RLn nv (uZ z 123 0) (uA f 3 (upd (f 3) (0 + v) x)) (uZ (uZ zr 0 0) 3 0) (uA r 4 (upd (r 4) v x)) := ⟨hc, fun j hj => by rw [uA_ne (show (6 : Nat) ≠ 3 by decide), uA_ne (show (7 : Nat) ≠ 4 by decide)]; exact hR.1.2.1 j hj, by rw [uZ_n (by decide), uZ_n (by decide)]; exact hR.1.2.2⟩
            exact ⟨1, _, _, _, _, 0, xcall_i (mq176 (cu := [])).2.2 rfl (vcs_176_0 (xcall (d + 3)) _ _ x z f _ ⟨fun _ => ⟨_, _, _, hs, fun q => absurd q (by decide), fun _ => ⟨_, _, _, cn, fun _ => ⟨_, _, st, _, _, wForget (d + 2), rfl⟩, fun q => absurd q (by decide)⟩⟩, fun q => absurd q (by decide)⟩), mcall_i (mq272 (cu := [])).2.2 rfl (vc272_0 (d' + 1) _ _ x zr r _ ⟨_, _, _, cs, fun _ => ⟨fun q => absurd rfl q, fun _ => ⟨pv, ⟨fun _ => ⟨fun _ => ⟨fun _ => ⟨fun _ => by rw [xv], fun q => absurd q (by decide)⟩, fun q => absurd q (by decide)⟩, fun q => absurd q (by decide)⟩, fun q => absurd q (by decide)⟩⟩⟩, fun q => absurd q (by decide)⟩), hR.hf hr H1, hG.forget (uZ_n (by decide)) uZ_s uZ_s, H1⟩
          · have cs := mCanSet0 (d' + 0) x hn hv (r := r) R0.2.2.2.2
            rw [bI_f ok] at cs
            have cn := wCan0 (W := W) (d + 2) x (z := z) (f := f)
            rw [mk1_f ok] at cn
            exact ⟨0, z, f, uZ zr 0 0, r, c, xcall_i (mq176 (cu := [])).2.2 rfl (vcs_176_0 (xcall (d + 3)) _ _ x z f _ ⟨fun _ => ⟨_, _, _, hs, fun q => absurd q (by decide), fun _ => ⟨_, _, _, cn, fun q => absurd rfl q, fun _ => rfl⟩⟩, fun q => absurd q (by decide)⟩), mcall_i (mq272 (cu := [])).2.2 rfl (vc272_0 (d' + 1) _ _ x zr r _ ⟨_, _, _, cs, fun q => absurd rfl q, fun _ => rfl⟩), R0, G0, HF.z0 z f zr r⟩
        · by_cases ok : (-1 ≤ I x ∧ I x ≤ 1)
          · have cs := mCanSet1 (d' + 0) x hn hv (r := r) R0.2.2.2.2
            rw [bI_t ok] at cs
            have cn := wCan1 (W := W) (d + 2) x (z := z) (f := f)
            rw [mk1_t ok] at cn
            have st := wSetTn (W := W) (d + 1) x (f := f) (w := 1) zv hn hv (by omega)
            rw [show 20 * 1 + v = 20 + v from rfl] at st
            have hc : CRL 2 nv (uZ z 123 0) (uA f 3 (upd (f 3) (20 + v) x)) (uA r 1 (upd (r 1) (7 + v) x)) := CRo.st (c := 2) (cr_mindn hv x (mind3 ok) hR.1.1) (fun i h1 h2 => uZ_n (by omega)) rfl rfl
            have H1 : HF z f zr r (uZ z 123 0) (uA f 3 (upd (f 3) (20 + v) x)) (uZ (uZ zr 0 0) 3 0) (uA r 1 (upd (r 1) (7 + v) x)) := ⟨fun j hj => uZ_n (by omega), fun k _ hk => uA_ne (fun q => hk (by rw [q]; decide)), fun j h1 h2 => by rw [uZ_n h2, uZ_n h1], fun k hk => uA_ne (fun q => hk (by rw [q]; decide))⟩
            have hr : RLn nv (uZ z 123 0) (uA f 3 (upd (f 3) (20 + v) x)) (uZ (uZ zr 0 0) 3 0) (uA r 1 (upd (r 1) (7 + v) x)) := ⟨hc, fun j hj => by rw [uA_ne (show (6 : Nat) ≠ 3 by decide), uA_ne (show (7 : Nat) ≠ 1 by decide)]; exact hR.1.2.1 j hj, by rw [uZ_n (by decide), uZ_n (by decide)]; exact hR.1.2.2⟩
            exact ⟨1, _, _, _, _, 0, xcall_i (mq176 (cu := [])).2.2 rfl (vcs_176_0 (xcall (d + 3)) _ _ x z f _ ⟨fun _ => ⟨_, _, _, hs, fun q => absurd q (by decide), fun _ => ⟨_, _, _, cn, fun _ => ⟨_, _, st, _, _, wForget (d + 2), rfl⟩, fun q => absurd q (by decide)⟩⟩, fun q => absurd q (by decide)⟩), mcall_i (mq272 (cu := [])).2.2 rfl (vc272_0 (d' + 1) _ _ x zr r _ ⟨_, _, _, cs, fun _ => ⟨fun _ => ⟨fun q => absurd rfl q, fun _ => ⟨p7, ⟨fun _ => ⟨fun _ => ⟨fun _ => by rw [x7], fun q => absurd q (by decide)⟩, fun q => absurd q (by decide)⟩, fun q => absurd q (by decide)⟩⟩⟩, fun q => absurd q (by decide)⟩, fun q => absurd q (by decide)⟩), hR.hf hr H1, hG.forget (uZ_n (by decide)) uZ_s uZ_s, H1⟩
          · have cs := mCanSet1 (d' + 0) x hn hv (r := r) R0.2.2.2.2
            rw [bI_f ok] at cs
            have cn := wCan1 (W := W) (d + 2) x (z := z) (f := f)
            rw [mk1_f ok] at cn
            exact ⟨0, z, f, uZ zr 0 0, r, c, xcall_i (mq176 (cu := [])).2.2 rfl (vcs_176_0 (xcall (d + 3)) _ _ x z f _ ⟨fun _ => ⟨_, _, _, hs, fun q => absurd q (by decide), fun _ => ⟨_, _, _, cn, fun q => absurd rfl q, fun _ => rfl⟩⟩, fun q => absurd q (by decide)⟩), mcall_i (mq272 (cu := [])).2.2 rfl (vc272_0 (d' + 1) _ _ x zr r _ ⟨_, _, _, cs, fun q => absurd rfl q, fun _ => rfl⟩), R0, G0, HF.z0 z f zr r⟩
        · by_cases ok : (0 ≤ I x ∧ I x ≤ 11)
          · have cs := mCanSet2 (d' + 0) x hn hv (r := r) R0.2.2.2.2
            rw [bI_t ok] at cs
            have cn := wCan2 (W := W) (d + 2) x (z := z) (f := f)
            rw [mk1_t ok] at cn
            have st := wSetTn (W := W) (d + 1) x (f := f) (w := 2) zv hn hv (by omega)
            rw [show 20 * 2 + v = 40 + v from rfl] at st
            have hc : CRL 2 nv (uZ z 123 0) (uA f 3 (upd (f 3) (40 + v) x)) (uA r 5 (upd (r 5) v x)) := CRo.st (c := 2) (cr_height hv x (by obtain ⟨u, e, e1, e2⟩ := nI_ofI ok.1; exact ⟨u, by omega, e⟩) hR.1.1) (fun i h1 h2 => uZ_n (by omega)) rfl rfl
            have H1 : HF z f zr r (uZ z 123 0) (uA f 3 (upd (f 3) (40 + v) x)) (uZ (uZ zr 0 0) 3 0) (uA r 5 (upd (r 5) v x)) := ⟨fun j hj => uZ_n (by omega), fun k _ hk => uA_ne (fun q => hk (by rw [q]; decide)), fun j h1 h2 => by rw [uZ_n h2, uZ_n h1], fun k hk => uA_ne (fun q => hk (by rw [q]; decide))⟩
            have hr : RLn nv (uZ z 123 0) (uA f 3 (upd (f 3) (40 + v) x)) (uZ (uZ zr 0 0) 3 0) (uA r 5 (upd (r 5) v x)) := ⟨hc, fun j hj => by rw [uA_ne (show (6 : Nat) ≠ 3 by decide), uA_ne (show (7 : Nat) ≠ 5 by decide)]; exact hR.1.2.1 j hj, by rw [uZ_n (by decide), uZ_n (by decide)]; exact hR.1.2.2⟩
            exact ⟨1, _, _, _, _, 0, xcall_i (mq176 (cu := [])).2.2 rfl (vcs_176_0 (xcall (d + 3)) _ _ x z f _ ⟨fun _ => ⟨_, _, _, hs, fun q => absurd q (by decide), fun _ => ⟨_, _, _, cn, fun _ => ⟨_, _, st, _, _, wForget (d + 2), rfl⟩, fun q => absurd q (by decide)⟩⟩, fun q => absurd q (by decide)⟩), mcall_i (mq272 (cu := [])).2.2 rfl (vc272_0 (d' + 1) _ _ x zr r _ ⟨_, _, _, cs, fun _ => ⟨fun _ => ⟨fun _ => ⟨fun q => absurd rfl q, fun _ => ⟨pv, ⟨fun _ => ⟨fun _ => by rw [xv], fun q => absurd q (by decide)⟩, fun q => absurd q (by decide)⟩⟩⟩, fun q => absurd q (by decide)⟩, fun q => absurd q (by decide)⟩, fun q => absurd q (by decide)⟩), hR.hf hr H1, hG.forget (uZ_n (by decide)) uZ_s uZ_s, H1⟩
          · have cs := mCanSet2 (d' + 0) x hn hv (r := r) R0.2.2.2.2
            rw [bI_f ok] at cs
            have cn := wCan2 (W := W) (d + 2) x (z := z) (f := f)
            rw [mk1_f ok] at cn
            exact ⟨0, z, f, uZ zr 0 0, r, c, xcall_i (mq176 (cu := [])).2.2 rfl (vcs_176_0 (xcall (d + 3)) _ _ x z f _ ⟨fun _ => ⟨_, _, _, hs, fun q => absurd q (by decide), fun _ => ⟨_, _, _, cn, fun q => absurd rfl q, fun _ => rfl⟩⟩, fun q => absurd q (by decide)⟩), mcall_i (mq272 (cu := [])).2.2 rfl (vc272_0 (d' + 1) _ _ x zr r _ ⟨_, _, _, cs, fun q => absurd rfl q, fun _ => rfl⟩), R0, G0, HF.z0 z f zr r⟩
        · by_cases ok : (0 ≤ I x ∧ I x ≤ 9)
          · have cs := mCanSet3 (d' + 0) x hn hv (r := r) R0.2.2.2.2
            rw [bI_t ok] at cs
            have cn := wCan3 (W := W) (d + 2) x (z := z) (f := f)
            rw [mk1_t ok] at cn
            have st := wSetTn (W := W) (d + 1) x (f := f) (w := 3) zv hn hv (by omega)
            rw [show 20 * 3 + v = 60 + v from rfl] at st
            have hc : CRL 2 nv (uZ z 123 0) (uA f 3 (upd (f 3) (60 + v) x)) (uA r 6 (upd (r 6) v x)) := CRo.st (c := 2) (cr_press hv x (by obtain ⟨u, e, e1, e2⟩ := nI_ofI ok.1; exact ⟨u, by omega, e⟩) hR.1.1) (fun i h1 h2 => uZ_n (by omega)) rfl rfl
            have H1 : HF z f zr r (uZ z 123 0) (uA f 3 (upd (f 3) (60 + v) x)) (uZ (uZ zr 0 0) 3 0) (uA r 6 (upd (r 6) v x)) := ⟨fun j hj => uZ_n (by omega), fun k _ hk => uA_ne (fun q => hk (by rw [q]; decide)), fun j h1 h2 => by rw [uZ_n h2, uZ_n h1], fun k hk => uA_ne (fun q => hk (by rw [q]; decide))⟩
            have hr : RLn nv (uZ z 123 0) (uA f 3 (upd (f 3) (60 + v) x)) (uZ (uZ zr 0 0) 3 0) (uA r 6 (upd (r 6) v x)) := ⟨hc, fun j hj => by rw [uA_ne (show (6 : Nat) ≠ 3 by decide), uA_ne (show (7 : Nat) ≠ 6 by decide)]; exact hR.1.2.1 j hj, by rw [uZ_n (by decide), uZ_n (by decide)]; exact hR.1.2.2⟩
            exact ⟨1, _, _, _, _, 0, xcall_i (mq176 (cu := [])).2.2 rfl (vcs_176_0 (xcall (d + 3)) _ _ x z f _ ⟨fun _ => ⟨_, _, _, hs, fun q => absurd q (by decide), fun _ => ⟨_, _, _, cn, fun _ => ⟨_, _, st, _, _, wForget (d + 2), rfl⟩, fun q => absurd q (by decide)⟩⟩, fun q => absurd q (by decide)⟩), mcall_i (mq272 (cu := [])).2.2 rfl (vc272_0 (d' + 1) _ _ x zr r _ ⟨_, _, _, cs, fun _ => ⟨fun _ => ⟨fun _ => ⟨fun _ => ⟨fun q => absurd rfl q, fun _ => ⟨pv, ⟨fun _ => by rw [xv], fun q => absurd q (by decide)⟩⟩⟩, fun q => absurd q (by decide)⟩, fun q => absurd q (by decide)⟩, fun q => absurd q (by decide)⟩, fun q => absurd q (by decide)⟩), hR.hf hr H1, hG.forget (uZ_n (by decide)) uZ_s uZ_s, H1⟩
          · have cs := mCanSet3 (d' + 0) x hn hv (r := r) R0.2.2.2.2
            rw [bI_f ok] at cs
            have cn := wCan3 (W := W) (d + 2) x (z := z) (f := f)
            rw [mk1_f ok] at cn
            exact ⟨0, z, f, uZ zr 0 0, r, c, xcall_i (mq176 (cu := [])).2.2 rfl (vcs_176_0 (xcall (d + 3)) _ _ x z f _ ⟨fun _ => ⟨_, _, _, hs, fun q => absurd q (by decide), fun _ => ⟨_, _, _, cn, fun q => absurd rfl q, fun _ => rfl⟩⟩, fun q => absurd q (by decide)⟩), mcall_i (mq272 (cu := [])).2.2 rfl (vc272_0 (d' + 1) _ _ x zr r _ ⟨_, _, _, cs, fun q => absurd rfl q, fun _ => rfl⟩), R0, G0, HF.z0 z f zr r⟩
      · have cs : mcall (d' + 2) 194 [vR 0, vI a, vI (nI v), vI x] (LR (uZ zr 0 0) r) = some (some (vI 0), LR (uZ zr 0 0) r) := mcall_i (mq194 (cu := [])).2.2 rfl (vc194_0 d' _ _ x _ r _ ⟨fun _ => ⟨fun q => absurd q ca, fun _ => rfl⟩, fun q => absurd q a4⟩)
        have ne : ∀ k : Nat, k < 4 → ¬ a = nI k := fun k hk q => ca (by rw [q, I_nI (by omega)]; omega)
        have cn : xcall (d + 3) 181 [vI a, vI x] (LW W z f) = some (some (vI 0), LW W z f) := xcall_i (mq181 (cu := [])).2.2 rfl (vcs_181_0 (xcall (d + 2)) a x z f _ ⟨fun q => absurd q (ne 0 (by decide)), fun _ => ⟨fun q => absurd q (ne 1 (by decide)), fun _ => ⟨fun q => absurd q (ne 2 (by decide)), fun _ => ⟨fun q => absurd q (ne 3 (by decide)), fun _ => rfl⟩⟩⟩⟩)
        exact ⟨0, z, f, uZ zr 0 0, r, c, xcall_i (mq176 (cu := [])).2.2 rfl (vcs_176_0 (xcall (d + 3)) _ _ x z f _ ⟨fun _ => ⟨_, _, _, hs, fun q => absurd q (by decide), fun _ => ⟨_, _, _, cn, fun q => absurd rfl q, fun _ => rfl⟩⟩, fun q => absurd q a4⟩), mcall_i (mq272 (cu := [])).2.2 rfl (vc272_0 (d' + 1) _ _ x zr r _ ⟨_, _, _, cs, fun q => absurd rfl q, fun _ => rfl⟩), R0, G0, HF.z0 z f zr r⟩
    · rw [mk1_f cv] at hs mv
      have cs : mcall (d' + 2) 194 [vR 0, vI a, vI b, vI x] (LR (uZ zr 0 0) r) = some (some (vI 0), LR (uZ zr 0 0) r) := mcall_i (mq194 (cu := [])).2.2 rfl (vc194_0 d' _ _ x _ r _ ⟨fun _ => ⟨fun _ => ⟨_, _, _, mv, fun q => absurd rfl q, fun _ => rfl⟩, fun _ => rfl⟩, fun q => absurd q a4⟩)
      exact ⟨0, z, f, uZ zr 0 0, r, c, xcall_i (mq176 (cu := [])).2.2 rfl (vcs_176_0 (xcall (d + 3)) _ _ x z f _ ⟨fun _ => ⟨_, _, _, hs, fun _ => rfl, fun q => absurd rfl q⟩, fun q => absurd q a4⟩), mcall_i (mq272 (cu := [])).2.2 rfl (vc272_0 (d' + 1) _ _ x zr r _ ⟨_, _, _, cs, fun q => absurd rfl q, fun _ => rfl⟩), R0, G0, HF.z0 z f zr r⟩
end SETS
end TWs
