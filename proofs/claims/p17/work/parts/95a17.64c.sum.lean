/-! the class's reader over tokens: sums, conditions, lines of the law -/
set_option maxRecDepth 100000 in
theorem bp133_1 (call : QC FA) (x1 : Int32) (z : Nat → Int32) (f : Nat → FA) (F : Nat) : rnG call 133 (F + 3) 0 [some (vR 0), some (vI x1)] [] (LPr z f) = rnG call 133 F 3 [some (vR 0), some (vI x1)] [vI x1, vI (z 5)] (LPr z f) := rfl
set_option maxRecDepth 100000 in
theorem bp133_2 (call : QC FA) (x y : Int32) (ls : List (Option PV)) (L : QH FA) (F : Nat) : rnG call 133 (F + 1) 3 ls [vI y, vI x] L = bif pcmp 0 x y then rnG call 133 F 8 ls [] L else rnG call 133 F 4 ls [] L := rfl
set_option maxRecDepth 100000 in
theorem bp133_3 (call : QC FA) (x1 : Int32) (L : QH FA) (F : Nat) : rnG call 133 (F + 1) 8 [some (vR 0), some (vI x1)] [] L = rnG call 133 F 9 [some (vR 0), some (vI x1)] [vR 0] L := rfl
set_option maxRecDepth 100000 in
theorem bp133_4 (call : QC FA) (ls : List (Option PV)) (z : Nat → Int32) (f : Nat → FA) (F : Nat) : rnG call 133 (F + 1) 9 ls [vR 0] (LPr z f) = cbd (call 135 [vR 0] (LPr z f)) (fun r L' => rnG call 133 F 10 ls (r.toList ++ []) L') := pcY (ih := rnG call 133 F) (call := call) (a := 135) (b := 0) (v := 5) (t := 10) (x := 0) (ls := ls) (As := []) (st' := []) (L := LPr z f) rfl rfl rfl
set_option maxRecDepth 100000 in
theorem bp133_5 (call : QC FA) (x1 : Int32) (L : QH FA) (F : Nat) : rnG call 133 (F + 1) 10 [some (vR 0), some (vI x1)] [] L = rnG call 133 F 11 [some (vR 0), some (vI x1)] [vI 1] L := rfl
set_option maxRecDepth 100000 in
theorem bp133_6 (call : QC FA) (ls : List (Option PV)) (L : QH FA) (F : Nat) : rnG call 133 (F + 1) 11 ls [vI 1] L = some (some (vI 1), L) := rfl
set_option maxRecDepth 100000 in
theorem bp133_7 (call : QC FA) (x1 : Int32) (L : QH FA) (F : Nat) : rnG call 133 (F + 2) 4 [some (vR 0), some (vI x1)] [] L = rnG call 133 F 6 [some (vR 0), some (vI x1)] [vI 1, vR 0] L := rfl
set_option maxRecDepth 100000 in
theorem bp133_8 (call : QC FA) (a0 : Int32) (ls : List (Option PV)) (z : Nat → Int32) (f : Nat → FA) (F : Nat) : rnG call 133 (F + 1) 6 ls [vI a0, vR 0] (LPr z f) = cbd (call 138 [vR 0, vI a0] (LPr z f)) (fun r L' => rnG call 133 F 7 ls (r.toList ++ []) L') := pcY (ih := rnG call 133 F) (call := call) (a := 138) (b := 1) (v := 5) (t := 7) (x := 0) (ls := ls) (As := [vI a0]) (st' := []) (L := LPr z f) rfl rfl rfl
set_option maxRecDepth 100000 in
theorem bp133_9 (call : QC FA) (ls : List (Option PV)) (L : QH FA) (F : Nat) : rnG call 133 (F + 1) 7 ls [vI 0] L = some (some (vI 0), L) := rfl
theorem vcp133_0 (call : QC FA) (hw : ∀ (a : Int32) (z : Nat → Int32) (f : Nat → FA), call 138 [vR 0, vI a] (LPr z f) = some (some (vI 0), LPr (uZ (uZ z 7 a) 8 (z 3)) f)) (x1 : Int32) (z : Nat → Int32) (f : Nat → FA) (res : Option PV × QH FA) (H : ((z 5 = x1 → (∃ (z1 : Nat → Int32) (f1 : Nat → FA), call 135 [vR 0] (LPr z f) = some (none, LPr z1 f1) ∧ res = (some (vI 1), LPr z1 f1))) ∧ (¬ z 5 = x1 → res = (some (vI 0), LPr (uZ (uZ z 7 1) 8 (z 3)) f)))) : RC call (mP 133) 0 [some (vR 0), some (vI x1)] [] (LPr z f) res := by
  refine rc_b (i' := 3) (ls' := [some (vR 0), some (vI x1)]) (st' := [vI x1, vI (z 5)]) (L' := LPr z f) 3 (bp133_1 call x1 z f) ?_
  refine rc_if (it := 8) (ie := 4) (ls' := [some (vR 0), some (vI x1)]) (st' := []) (bp133_2 call (z 5) x1 _ _) (fun q1 => ?_) (fun q1 => ?_)
  · have H := H.1 (cI0t q1)
    refine rc_b (i' := 9) (ls' := [some (vR 0), some (vI x1)]) (st' := [vR 0]) (L' := LPr z f) 1 (bp133_3 call x1 _) ?_
    obtain ⟨z1, f1, hc, H⟩ := H
    refine rc_call (t := 10) (ls' := [some (vR 0), some (vI x1)]) (st' := []) (bp133_4 call _ z f) hc ?_
    show RC call (mP 133) 10 [some (vR 0), some (vI x1)] [] (LPr z1 f1) res
    refine rc_b (i' := 11) (ls' := [some (vR 0), some (vI x1)]) (st' := [vI 1]) (L' := LPr z1 f1) 1 (bp133_5 call x1 _) ?_
    subst H
    exact rc_ret (bp133_6 call _ _)
  · have H := H.2 (cI0f q1)
    refine rc_b (i' := 6) (ls' := [some (vR 0), some (vI x1)]) (st' := [vI 1, vR 0]) (L' := LPr z f) 2 (bp133_7 call x1 _) ?_
    refine rc_call (t := 7) (ls' := [some (vR 0), some (vI x1)]) (st' := []) (bp133_8 call 1 _ z f) (hw 1 z f) ?_
    show RC call (mP 133) 7 [some (vR 0), some (vI x1)] [vI 0] (LPr (uZ (uZ z 7 1) 8 (z 3)) f) res
    subst H
    exact rc_ret (bp133_9 call _ _)
set_option maxRecDepth 100000 in
theorem bp128_1 (call : QC FA) (x1 : Int32) (x2 : Int32) (z : Nat → Int32) (f : Nat → FA) (F : Nat) : rnG call 128 (F + 2) 0 [some (vR 0), some (vI x1), some (vI x2)] [] (LPr z f) = rnG call 128 F 2 [some (vR 0), some (vI x1), some (vI x2)] [vI (z 11)] (LPr z f) := rfl
set_option maxRecDepth 100000 in
theorem bp128_2 (call : QC FA) (x : Int32) (ls : List (Option PV)) (L : QH FA) (F : Nat) : rnG call 128 (F + 1) 2 ls [vI x] L = bif pcmp 2 x 0 then rnG call 128 F 22 ls [] L else rnG call 128 F 3 ls [] L := rfl
set_option maxRecDepth 100000 in
theorem bp128_3 (call : QC FA) (ls : List (Option PV)) (L : QH FA) (F : Nat) : rnG call 128 (F + 1) 22 ls [] L = some (none, L) := rfl
set_option maxRecDepth 100000 in
theorem bp128_4 (call : QC FA) (x1 : Int32) (x2 : Int32) (z : Nat → Int32) (f : Nat → FA) (F : Nat) : rnG call 128 (F + 3) 3 [some (vR 0), some (vI x1), some (vI x2)] [] (LPr z f) = rnG call 128 F 6 [some (vR 0), some (vI x1), some (vI x2)] [vI 16, vI (z 11)] (LPr z f) := rfl
set_option maxRecDepth 100000 in
theorem bp128_5 (call : QC FA) (x y : Int32) (ls : List (Option PV)) (L : QH FA) (F : Nat) : rnG call 128 (F + 1) 6 ls [vI y, vI x] L = bif pcmp 3 x y then rnG call 128 F 22 ls [] L else rnG call 128 F 7 ls [] L := rfl
set_option maxRecDepth 100000 in
theorem bp128_6 (call : QC FA) (x1 : Int32) (x2 : Int32) (L : QH FA) (F : Nat) : rnG call 128 (F + 1) 7 [some (vR 0), some (vI x1), some (vI x2)] [] L = rnG call 128 F 8 [some (vR 0), some (vI x1), some (vI x2)] [vI x1] L := rfl
set_option maxRecDepth 100000 in
theorem bp128_7 (call : QC FA) (x : Int32) (ls : List (Option PV)) (L : QH FA) (F : Nat) : rnG call 128 (F + 1) 8 ls [vI x] L = bif pcmp 2 x 0 then rnG call 128 F 22 ls [] L else rnG call 128 F 9 ls [] L := rfl
set_option maxRecDepth 100000 in
theorem bp128_8 (call : QC FA) (x1 : Int32) (x2 : Int32) (L : QH FA) (F : Nat) : rnG call 128 (F + 2) 9 [some (vR 0), some (vI x1), some (vI x2)] [] L = rnG call 128 F 11 [some (vR 0), some (vI x1), some (vI x2)] [vI 5, vI x1] L := rfl
set_option maxRecDepth 100000 in
theorem bp128_9 (call : QC FA) (x y : Int32) (ls : List (Option PV)) (L : QH FA) (F : Nat) : rnG call 128 (F + 1) 11 ls [vI y, vI x] L = bif pcmp 3 x y then rnG call 128 F 22 ls [] L else rnG call 128 F 12 ls [] L := rfl
set_option maxRecDepth 100000 in
theorem bp128_10 (call : QC FA) (x1 : Int32) (x2 : Int32) (z : Nat → Int32) (f : Nat → FA) (F : Nat) : rnG call 128 (F + 9) 12 [some (vR 0), some (vI x1), some (vI x2)] [] (LPr z f) = rnG call 128 F 21 [some (vR 0), some (vI x1), some (vI x2)] [vI x2, vI (((z 11) * 5) + x1), vR 2] (LPr z f) := rfl
set_option maxRecDepth 100000 in
theorem bp128_11 (call : QC FA) (x y : Int32) (ls : List (Option PV)) (z : Nat → Int32) (f : Nat → FA) (F : Nat) : rnG call 128 (F + 1) 21 ls [vI y, vI x, vR 2] (LPr z f) = bif (Nat.beq 0 0 && pin x 80) then rnG call 128 F 22 ls [] (LPr z (uA f 2 (upd (f 2) (ix x) y))) else none := rfl
theorem vcp128_0 (call : QC FA) (x1 : Int32) (x2 : Int32) (z : Nat → Int32) (f : Nat → FA) (res : Option PV × QH FA) (H : ((I (z 11) < 0 → res = (none, LPr z f)) ∧ (0 ≤ I (z 11) → ((16 ≤ I (z 11) → res = (none, LPr z f)) ∧ (I (z 11) < 16 → ((I x1 < 0 → res = (none, LPr z f)) ∧ (0 ≤ I x1 → ((5 ≤ I x1 → res = (none, LPr z f)) ∧ (I x1 < 5 → (pin (((z 11) * 5) + x1) 80 = true ∧ res = (none, LPr z (uA f 2 (upd (f 2) (ix (((z 11) * 5) + x1)) x2))))))))))))) : RC call (mP 128) 0 [some (vR 0), some (vI x1), some (vI x2)] [] (LPr z f) res := by
  refine rc_b (i' := 2) (ls' := [some (vR 0), some (vI x1), some (vI x2)]) (st' := [vI (z 11)]) (L' := LPr z f) 2 (bp128_1 call x1 x2 z f) ?_
  refine rc_if (it := 22) (ie := 3) (ls' := [some (vR 0), some (vI x1), some (vI x2)]) (st' := []) (bp128_2 call (z 11) _ _) (fun q1 => ?_) (fun q1 => ?_)
  · have H := H.1 (cI2t q1 rfl rfl)
    subst H
    exact rc_ret (bp128_3 call _ _)
  · have H := H.2 (cI2f q1 rfl rfl)
    refine rc_b (i' := 6) (ls' := [some (vR 0), some (vI x1), some (vI x2)]) (st' := [vI 16, vI (z 11)]) (L' := LPr z f) 3 (bp128_4 call x1 x2 z f) ?_
    refine rc_if (it := 22) (ie := 7) (ls' := [some (vR 0), some (vI x1), some (vI x2)]) (st' := []) (bp128_5 call (z 11) 16 _ _) (fun q2 => ?_) (fun q2 => ?_)
    · have H := H.1 (cI3t q2 rfl rfl)
      subst H
      exact rc_ret (bp128_3 call _ _)
    · have H := H.2 (cI3f q2 rfl rfl)
      refine rc_b (i' := 8) (ls' := [some (vR 0), some (vI x1), some (vI x2)]) (st' := [vI x1]) (L' := LPr z f) 1 (bp128_6 call x1 x2 _) ?_
      refine rc_if (it := 22) (ie := 9) (ls' := [some (vR 0), some (vI x1), some (vI x2)]) (st' := []) (bp128_7 call x1 _ _) (fun q3 => ?_) (fun q3 => ?_)
      · have H := H.1 (cI2t q3 rfl rfl)
        subst H
        exact rc_ret (bp128_3 call _ _)
      · have H := H.2 (cI2f q3 rfl rfl)
        refine rc_b (i' := 11) (ls' := [some (vR 0), some (vI x1), some (vI x2)]) (st' := [vI 5, vI x1]) (L' := LPr z f) 2 (bp128_8 call x1 x2 _) ?_
        refine rc_if (it := 22) (ie := 12) (ls' := [some (vR 0), some (vI x1), some (vI x2)]) (st' := []) (bp128_9 call x1 5 _ _) (fun q4 => ?_) (fun q4 => ?_)
        · have H := H.1 (cI3t q4 rfl rfl)
          subst H
          exact rc_ret (bp128_3 call _ _)
        · have H := H.2 (cI3f q4 rfl rfl)
          refine rc_b (i' := 21) (ls' := [some (vR 0), some (vI x1), some (vI x2)]) (st' := [vI x2, vI (((z 11) * 5) + x1), vR 2]) (L' := LPr z f) 9 (bp128_10 call x1 x2 z f) ?_
          obtain ⟨g1, H⟩ := H
          refine rc_g (i' := 22) (ls' := [some (vR 0), some (vI x1), some (vI x2)]) (st' := []) (L' := LPr z (uA f 2 (upd (f 2) (ix (((z 11) * 5) + x1)) x2))) (bp128_11 call (((z 11) * 5) + x1) x2 _ z f) (pinG g1) ?_
          subst H
          exact rc_ret (bp128_3 call _ _)
set_option maxRecDepth 100000 in
theorem bp121_1 (call : QC FA) (x1 : Int32) (x2 : Int32) (z : Nat → Int32) (f : Nat → FA) (F : Nat) : rnG call 121 (F + 3) 0 [some (vR 0), some (vI x1), some (vI x2)] [] (LPr z f) = rnG call 121 F 3 [some (vR 0), some (vI x1), some (vI x2)] [vI 400, vI (z 13)] (LPr z f) := rfl
set_option maxRecDepth 100000 in
theorem bp121_2 (call : QC FA) (x y : Int32) (ls : List (Option PV)) (L : QH FA) (F : Nat) : rnG call 121 (F + 1) 3 ls [vI y, vI x] L = bif pcmp 3 x y then rnG call 121 F 20 ls [] L else rnG call 121 F 4 ls [] L := rfl
set_option maxRecDepth 100000 in
theorem bp121_3 (call : QC FA) (ls : List (Option PV)) (L : QH FA) (F : Nat) : rnG call 121 (F + 1) 20 ls [] L = some (none, L) := rfl
set_option maxRecDepth 100000 in
theorem bp121_4 (call : QC FA) (x1 : Int32) (x2 : Int32) (z : Nat → Int32) (f : Nat → FA) (F : Nat) : rnG call 121 (F + 9) 4 [some (vR 0), some (vI x1), some (vI x2)] [] (LPr z f) = rnG call 121 F 13 [some (vR 0), some (vI x1), some (vI x2)] [vI ((x2 <<< (4 &&& 31)) ||| x1), vI (z 13), vR 3] (LPr z f) := rfl
set_option maxRecDepth 100000 in
theorem bp121_5 (call : QC FA) (x y : Int32) (ls : List (Option PV)) (z : Nat → Int32) (f : Nat → FA) (F : Nat) : rnG call 121 (F + 1) 13 ls [vI y, vI x, vR 3] (LPr z f) = bif (Nat.beq 0 0 && pin x 400) then rnG call 121 F 14 ls [] (LPr z (uA f 3 (upd (f 3) (ix x) y))) else none := rfl
set_option maxRecDepth 100000 in
theorem bp121_6 (call : QC FA) (x1 : Int32) (x2 : Int32) (z : Nat → Int32) (f : Nat → FA) (F : Nat) : rnG call 121 (F + 5) 14 [some (vR 0), some (vI x1), some (vI x2)] [] (LPr z f) = rnG call 121 F 19 [some (vR 0), some (vI x1), some (vI x2)] [vI ((z 13) + 1), vR 0] (LPr z f) := rfl
set_option maxRecDepth 100000 in
theorem bp121_7 (call : QC FA) (y : Int32) (ls : List (Option PV)) (z : Nat → Int32) (f : Nat → FA) (F : Nat) : rnG call 121 (F + 1) 19 ls [vI y, vR 0] (LPr z f) = rnG call 121 F 20 ls [] (LPr (uZ z 13 y) f) := rfl
theorem vcp121_0 (call : QC FA) (x1 : Int32) (x2 : Int32) (z : Nat → Int32) (f : Nat → FA) (res : Option PV × QH FA) (H : ((400 ≤ I (z 13) → res = (none, LPr z f)) ∧ (I (z 13) < 400 → (pin (z 13) 400 = true ∧ res = (none, LPr (uZ z 13 ((z 13) + 1)) (uA f 3 (upd (f 3) (ix (z 13)) ((x2 <<< (4 &&& 31)) ||| x1)))))))) : RC call (mP 121) 0 [some (vR 0), some (vI x1), some (vI x2)] [] (LPr z f) res := by
  refine rc_b (i' := 3) (ls' := [some (vR 0), some (vI x1), some (vI x2)]) (st' := [vI 400, vI (z 13)]) (L' := LPr z f) 3 (bp121_1 call x1 x2 z f) ?_
  refine rc_if (it := 20) (ie := 4) (ls' := [some (vR 0), some (vI x1), some (vI x2)]) (st' := []) (bp121_2 call (z 13) 400 _ _) (fun q1 => ?_) (fun q1 => ?_)
  · have H := H.1 (cI3t q1 rfl rfl)
    subst H
    exact rc_ret (bp121_3 call _ _)
  · have H := H.2 (cI3f q1 rfl rfl)
    refine rc_b (i' := 13) (ls' := [some (vR 0), some (vI x1), some (vI x2)]) (st' := [vI ((x2 <<< (4 &&& 31)) ||| x1), vI (z 13), vR 3]) (L' := LPr z f) 9 (bp121_4 call x1 x2 z f) ?_
    obtain ⟨g1, H⟩ := H
    refine rc_g (i' := 14) (ls' := [some (vR 0), some (vI x1), some (vI x2)]) (st' := []) (L' := LPr z (uA f 3 (upd (f 3) (ix (z 13)) ((x2 <<< (4 &&& 31)) ||| x1)))) (bp121_5 call (z 13) ((x2 <<< (4 &&& 31)) ||| x1) _ z f) (pinG g1) ?_
    refine rc_b (i' := 19) (ls' := [some (vR 0), some (vI x1), some (vI x2)]) (st' := [vI ((z 13) + 1), vR 0]) (L' := LPr z (uA f 3 (upd (f 3) (ix (z 13)) ((x2 <<< (4 &&& 31)) ||| x1)))) 5 (bp121_6 call x1 x2 z (uA f 3 (upd (f 3) (ix (z 13)) ((x2 <<< (4 &&& 31)) ||| x1)))) ?_
    refine rc_b (i' := 20) (ls' := [some (vR 0), some (vI x1), some (vI x2)]) (st' := []) (L' := LPr (uZ z 13 ((z 13) + 1)) (uA f 3 (upd (f 3) (ix (z 13)) ((x2 <<< (4 &&& 31)) ||| x1)))) 1 (bp121_7 call ((z 13) + 1) _ z (uA f 3 (upd (f 3) (ix (z 13)) ((x2 <<< (4 &&& 31)) ||| x1)))) ?_
    subst H
    exact rc_ret (bp121_3 call _ _)
set_option maxRecDepth 100000 in
theorem bp122_1 (call : QC FA) (x1 : Int32) (o2 : Option PV) (L : QH FA) (F : Nat) : rnG call 122 (F + 2) 0 [some (vR 0), some (vI x1), o2] [] L = rnG call 122 F 2 [some (vR 0), some (vI x1), o2] [vI 47, vI x1] L := rfl
set_option maxRecDepth 100000 in
theorem bp122_2 (call : QC FA) (x y : Int32) (ls : List (Option PV)) (L : QH FA) (F : Nat) : rnG call 122 (F + 1) 2 ls [vI y, vI x] L = bif pcmp 1 x y then rnG call 122 F 5 ls [] L else rnG call 122 F 3 ls [] L := rfl
set_option maxRecDepth 100000 in
theorem bp122_3 (call : QC FA) (x1 : Int32) (o2 : Option PV) (z : Nat → Int32) (f : Nat → FA) (F : Nat) : rnG call 122 (F + 5) 5 [some (vR 0), some (vI x1), o2] [] (LPr z f) = rnG call 122 F 10 [some (vR 0), some (vI x1), some (vI 0)] [vI 1, vI (z 5)] (LPr z f) := rfl
set_option maxRecDepth 100000 in
theorem bp122_4 (call : QC FA) (x y : Int32) (ls : List (Option PV)) (L : QH FA) (F : Nat) : rnG call 122 (F + 1) 10 ls [vI y, vI x] L = bif pcmp 1 x y then rnG call 122 F 30 ls [] L else rnG call 122 F 11 ls [] L := rfl
set_option maxRecDepth 100000 in
theorem bp122_5 (call : QC FA) (x1 : Int32) (x2 : Int32) (L : QH FA) (F : Nat) : rnG call 122 (F + 1) 30 [some (vR 0), some (vI x1), some (vI x2)] [] L = rnG call 122 F 31 [some (vR 0), some (vI x1), some (vI x2)] [vI x2] L := rfl
set_option maxRecDepth 100000 in
theorem bp122_6 (call : QC FA) (x : Int32) (ls : List (Option PV)) (L : QH FA) (F : Nat) : rnG call 122 (F + 1) 31 ls [vI x] L = bif pcmp 1 x 0 then rnG call 122 F 48 ls [] L else rnG call 122 F 32 ls [] L := rfl
set_option maxRecDepth 100000 in
theorem bp122_7 (call : QC FA) (x1 : Int32) (x2 : Int32) (z : Nat → Int32) (f : Nat → FA) (F : Nat) : rnG call 122 (F + 3) 32 [some (vR 0), some (vI x1), some (vI x2)] [] (LPr z f) = rnG call 122 F 35 [some (vR 0), some (vI x1), some (vI x2)] [vI 303, vI (z 5)] (LPr z f) := rfl
set_option maxRecDepth 100000 in
theorem bp122_8 (call : QC FA) (x y : Int32) (ls : List (Option PV)) (L : QH FA) (F : Nat) : rnG call 122 (F + 1) 35 ls [vI y, vI x] L = bif pcmp 2 x y then rnG call 122 F 48 ls [] L else rnG call 122 F 36 ls [] L := rfl
set_option maxRecDepth 100000 in
theorem bp122_9 (call : QC FA) (x1 : Int32) (x2 : Int32) (L : QH FA) (F : Nat) : rnG call 122 (F + 2) 48 [some (vR 0), some (vI x1), some (vI x2)] [] L = rnG call 122 F 50 [some (vR 0), some (vI x1), some (vI x2)] [vI 1, vR 0] L := rfl
set_option maxRecDepth 100000 in
theorem bp122_10 (call : QC FA) (a0 : Int32) (ls : List (Option PV)) (z : Nat → Int32) (f : Nat → FA) (F : Nat) : rnG call 122 (F + 1) 50 ls [vI a0, vR 0] (LPr z f) = cbd (call 138 [vR 0, vI a0] (LPr z f)) (fun r L' => rnG call 122 F 51 ls (r.toList ++ []) L') := pcY (ih := rnG call 122 F) (call := call) (a := 138) (b := 1) (v := 5) (t := 51) (x := 0) (ls := ls) (As := [vI a0]) (st' := []) (L := LPr z f) rfl rfl rfl
set_option maxRecDepth 100000 in
theorem bp122_11 (call : QC FA) (ls : List (Option PV)) (L : QH FA) (F : Nat) : rnG call 122 (F + 1) 51 ls [vI 0] L = some (some (vI 0), L) := rfl
set_option maxRecDepth 100000 in
theorem bp122_12 (call : QC FA) (x1 : Int32) (x2 : Int32) (z : Nat → Int32) (f : Nat → FA) (F : Nat) : rnG call 122 (F + 3) 36 [some (vR 0), some (vI x1), some (vI x2)] [] (LPr z f) = rnG call 122 F 39 [some (vR 0), some (vI x1), some (vI x2)] [vI 312, vI (z 5)] (LPr z f) := rfl
set_option maxRecDepth 100000 in
theorem bp122_13 (call : QC FA) (x y : Int32) (ls : List (Option PV)) (L : QH FA) (F : Nat) : rnG call 122 (F + 1) 39 ls [vI y, vI x] L = bif pcmp 4 x y then rnG call 122 F 48 ls [] L else rnG call 122 F 40 ls [] L := rfl
set_option maxRecDepth 100000 in
theorem bp122_14 (call : QC FA) (x1 : Int32) (x2 : Int32) (z : Nat → Int32) (f : Nat → FA) (F : Nat) : rnG call 122 (F + 6) 40 [some (vR 0), some (vI x1), some (vI x2)] [] (LPr z f) = rnG call 122 F 46 [some (vR 0), some (vI x1), some (vI x2)] [vI ((z 5) - 303), vI 1, vR 0] (LPr z f) := rfl
set_option maxRecDepth 100000 in
theorem bp122_15 (call : QC FA) (a0 : Int32) (a1 : Int32) (ls : List (Option PV)) (z : Nat → Int32) (f : Nat → FA) (F : Nat) : rnG call 122 (F + 1) 46 ls [vI a1, vI a0, vR 0] (LPr z f) = cbd (call 121 [vR 0, vI a0, vI a1] (LPr z f)) (fun r L' => rnG call 122 F 47 ls (r.toList ++ []) L') := pcY (ih := rnG call 122 F) (call := call) (a := 121) (b := 2) (v := 5) (t := 47) (x := 0) (ls := ls) (As := [vI a0, vI a1]) (st' := []) (L := LPr z f) rfl rfl rfl
set_option maxRecDepth 100000 in
theorem bp122_16 (call : QC FA) (x1 : Int32) (x2 : Int32) (L : QH FA) (F : Nat) : rnG call 122 (F + 3) 47 [some (vR 0), some (vI x1), some (vI x2)] [] L = rnG call 122 F 54 [some (vR 0), some (vI x1), some (vI x2)] [vI 42, vI x1] L := rfl
set_option maxRecDepth 100000 in
theorem bp122_17 (call : QC FA) (x y : Int32) (ls : List (Option PV)) (L : QH FA) (F : Nat) : rnG call 122 (F + 1) 54 ls [vI y, vI x] L = bif pcmp 1 x y then rnG call 122 F 59 ls [] L else rnG call 122 F 55 ls [] L := rfl
set_option maxRecDepth 100000 in
theorem bp122_18 (call : QC FA) (x1 : Int32) (x2 : Int32) (L : QH FA) (F : Nat) : rnG call 122 (F + 1) 59 [some (vR 0), some (vI x1), some (vI x2)] [] L = rnG call 122 F 60 [some (vR 0), some (vI x1), some (vI x2)] [vI 1] L := rfl
set_option maxRecDepth 100000 in
theorem bp122_19 (call : QC FA) (ls : List (Option PV)) (L : QH FA) (F : Nat) : rnG call 122 (F + 1) 60 ls [vI 1] L = some (some (vI 1), L) := rfl
set_option maxRecDepth 100000 in
theorem bp122_20 (call : QC FA) (x1 : Int32) (x2 : Int32) (L : QH FA) (F : Nat) : rnG call 122 (F + 3) 55 [some (vR 0), some (vI x1), some (vI x2)] [] L = rnG call 122 F 58 [some (vR 0), some (vI x1), some (vI x2)] [vI 0, vI 6, vR 0] L := rfl
set_option maxRecDepth 100000 in
theorem bp122_21 (call : QC FA) (a0 : Int32) (a1 : Int32) (ls : List (Option PV)) (z : Nat → Int32) (f : Nat → FA) (F : Nat) : rnG call 122 (F + 1) 58 ls [vI a1, vI a0, vR 0] (LPr z f) = cbd (call 121 [vR 0, vI a0, vI a1] (LPr z f)) (fun r L' => rnG call 122 F 59 ls (r.toList ++ []) L') := pcY (ih := rnG call 122 F) (call := call) (a := 121) (b := 2) (v := 5) (t := 59) (x := 0) (ls := ls) (As := [vI a0, vI a1]) (st' := []) (L := LPr z f) rfl rfl rfl
set_option maxRecDepth 100000 in
theorem bp122_22 (call : QC FA) (x1 : Int32) (x2 : Int32) (L : QH FA) (F : Nat) : rnG call 122 (F + 1) 11 [some (vR 0), some (vI x1), some (vI x2)] [] L = rnG call 122 F 12 [some (vR 0), some (vI x1), some (vI x2)] [vI x2] L := rfl
set_option maxRecDepth 100000 in
theorem bp122_23 (call : QC FA) (x : Int32) (ls : List (Option PV)) (L : QH FA) (F : Nat) : rnG call 122 (F + 1) 12 ls [vI x] L = bif pcmp 0 x 0 then rnG call 122 F 20 ls [] L else rnG call 122 F 13 ls [] L := rfl
set_option maxRecDepth 100000 in
theorem bp122_24 (call : QC FA) (x1 : Int32) (x2 : Int32) (L : QH FA) (F : Nat) : rnG call 122 (F + 2) 20 [some (vR 0), some (vI x1), some (vI x2)] [] L = rnG call 122 F 22 [some (vR 0), some (vI x1), some (vI x2)] [vI x2, vR 0] L := rfl
set_option maxRecDepth 100000 in
theorem bp122_25 (call : QC FA) (x : Int32) (ls : List (Option PV)) (L : QH FA) (F : Nat) : rnG call 122 (F + 1) 22 ls [vI x, vR 0] L = bif pcmp 0 x 0 then rnG call 122 F 25 ls [vR 0] L else rnG call 122 F 23 ls [vR 0] L := rfl
set_option maxRecDepth 100000 in
theorem bp122_26 (call : QC FA) (x1 : Int32) (x2 : Int32) (z : Nat → Int32) (f : Nat → FA) (F : Nat) : rnG call 122 (F + 3) 25 [some (vR 0), some (vI x1), some (vI x2)] [vR 0] (LPr z f) = rnG call 122 F 28 [some (vR 0), some (vI x1), some (vI x2)] [vI (z 6), vI 0, vR 0] (LPr z f) := rfl
set_option maxRecDepth 100000 in
theorem bp122_27 (call : QC FA) (a0 : Int32) (a1 : Int32) (ls : List (Option PV)) (z : Nat → Int32) (f : Nat → FA) (F : Nat) : rnG call 122 (F + 1) 28 ls [vI a1, vI a0, vR 0] (LPr z f) = cbd (call 121 [vR 0, vI a0, vI a1] (LPr z f)) (fun r L' => rnG call 122 F 29 ls (r.toList ++ []) L') := pcY (ih := rnG call 122 F) (call := call) (a := 121) (b := 2) (v := 5) (t := 29) (x := 0) (ls := ls) (As := [vI a0, vI a1]) (st' := []) (L := LPr z f) rfl rfl rfl
set_option maxRecDepth 100000 in
theorem bp122_28 (call : QC FA) (x1 : Int32) (x2 : Int32) (L : QH FA) (F : Nat) : rnG call 122 (F + 3) 29 [some (vR 0), some (vI x1), some (vI x2)] [] L = rnG call 122 F 54 [some (vR 0), some (vI x1), some (vI x2)] [vI 42, vI x1] L := rfl
set_option maxRecDepth 100000 in
theorem bp122_29 (call : QC FA) (x1 : Int32) (o2 : Option PV) (z : Nat → Int32) (f : Nat → FA) (F : Nat) : rnG call 122 (F + 6) 3 [some (vR 0), some (vI x1), o2] [] (LPr z f) = rnG call 122 F 10 [some (vR 0), some (vI x1), some (vI 1)] [vI 1, vI (z 5)] (LPr z f) := rfl
set_option maxRecDepth 100000 in
theorem bp122_30 (call : QC FA) (x1 : Int32) (x2 : Int32) (z : Nat → Int32) (f : Nat → FA) (F : Nat) : rnG call 122 (F + 2) 13 [some (vR 0), some (vI x1), some (vI x2)] [] (LPr z f) = rnG call 122 F 15 [some (vR 0), some (vI x1), some (vI x2)] [vI (z 6)] (LPr z f) := rfl
set_option maxRecDepth 100000 in
theorem bp122_31 (call : QC FA) (x : Int32) (ls : List (Option PV)) (L : QH FA) (F : Nat) : rnG call 122 (F + 1) 15 ls [vI x] L = bif pcmp 1 x 0 then rnG call 122 F 20 ls [] L else rnG call 122 F 16 ls [] L := rfl
set_option maxRecDepth 100000 in
theorem bp122_32 (call : QC FA) (x1 : Int32) (x2 : Int32) (z : Nat → Int32) (f : Nat → FA) (F : Nat) : rnG call 122 (F + 4) 23 [some (vR 0), some (vI x1), some (vI x2)] [vR 0] (LPr z f) = rnG call 122 F 28 [some (vR 0), some (vI x1), some (vI x2)] [vI (z 6), vI 2, vR 0] (LPr z f) := rfl
set_option maxRecDepth 100000 in
theorem bp122_33 (call : QC FA) (x1 : Int32) (x2 : Int32) (L : QH FA) (F : Nat) : rnG call 122 (F + 2) 16 [some (vR 0), some (vI x1), some (vI x2)] [] L = rnG call 122 F 18 [some (vR 0), some (vI x1), some (vI x2)] [vI 2, vR 0] L := rfl
set_option maxRecDepth 100000 in
theorem bp122_34 (call : QC FA) (a0 : Int32) (ls : List (Option PV)) (z : Nat → Int32) (f : Nat → FA) (F : Nat) : rnG call 122 (F + 1) 18 ls [vI a0, vR 0] (LPr z f) = cbd (call 138 [vR 0, vI a0] (LPr z f)) (fun r L' => rnG call 122 F 19 ls (r.toList ++ []) L') := pcY (ih := rnG call 122 F) (call := call) (a := 138) (b := 1) (v := 5) (t := 19) (x := 0) (ls := ls) (As := [vI a0]) (st' := []) (L := LPr z f) rfl rfl rfl
set_option maxRecDepth 100000 in
theorem bp122_35 (call : QC FA) (ls : List (Option PV)) (L : QH FA) (F : Nat) : rnG call 122 (F + 1) 19 ls [vI 0] L = some (some (vI 0), L) := rfl
theorem vcp122_0 (call : QC FA) (hw : ∀ (a : Int32) (z : Nat → Int32) (f : Nat → FA), call 138 [vR 0, vI a] (LPr z f) = some (some (vI 0), LPr (uZ (uZ z 7 a) 8 (z 3)) f)) (x1 : Int32) (o2 : Option PV) (z : Nat → Int32) (f : Nat → FA) (res : Option PV × QH FA) (H : ((¬ x1 = 47 → ((¬ z 5 = 1 → ((I (z 5) < 303 → res = (some (vI 0), LPr (uZ (uZ z 7 1) 8 (z 3)) f)) ∧ (303 ≤ I (z 5) → ((312 < I (z 5) → res = (some (vI 0), LPr (uZ (uZ z 7 1) 8 (z 3)) f)) ∧ (I (z 5) ≤ 312 → (∃ (z1 : Nat → Int32) (f1 : Nat → FA), call 121 [vR 0, vI 1, vI ((z 5) - 303)] (LPr z f) = some (none, LPr z1 f1) ∧ ((¬ x1 = 42 → res = (some (vI 1), LPr z1 f1)) ∧ (x1 = 42 → (∃ (z2 : Nat → Int32) (f2 : Nat → FA), call 121 [vR 0, vI 6, vI 0] (LPr z1 f1) = some (none, LPr z2 f2) ∧ res = (some (vI 1), LPr z2 f2)))))))))) ∧ (z 5 = 1 → (∃ (z3 : Nat → Int32) (f3 : Nat → FA), call 121 [vR 0, vI 0, vI (z 6)] (LPr z f) = some (none, LPr z3 f3) ∧ ((¬ x1 = 42 → res = (some (vI 1), LPr z3 f3)) ∧ (x1 = 42 → (∃ (z4 : Nat → Int32) (f4 : Nat → FA), call 121 [vR 0, vI 6, vI 0] (LPr z3 f3) = some (none, LPr z4 f4) ∧ res = (some (vI 1), LPr z4 f4)))))))) ∧ (x1 = 47 → ((¬ z 5 = 1 → res = (some (vI 0), LPr (uZ (uZ z 7 1) 8 (z 3)) f)) ∧ (z 5 = 1 → ((¬ z 6 = 0 → (∃ (z5 : Nat → Int32) (f5 : Nat → FA), call 121 [vR 0, vI 2, vI (z 6)] (LPr z f) = some (none, LPr z5 f5) ∧ ((¬ x1 = 42 → res = (some (vI 1), LPr z5 f5)) ∧ (x1 = 42 → (∃ (z6 : Nat → Int32) (f6 : Nat → FA), call 121 [vR 0, vI 6, vI 0] (LPr z5 f5) = some (none, LPr z6 f6) ∧ res = (some (vI 1), LPr z6 f6)))))) ∧ (z 6 = 0 → res = (some (vI 0), LPr (uZ (uZ z 7 2) 8 (z 3)) f)))))))) : RC call (mP 122) 0 [some (vR 0), some (vI x1), o2] [] (LPr z f) res := by
  refine rc_b (i' := 2) (ls' := [some (vR 0), some (vI x1), o2]) (st' := [vI 47, vI x1]) (L' := LPr z f) 2 (bp122_1 call x1 o2 _) ?_
  refine rc_if (it := 5) (ie := 3) (ls' := [some (vR 0), some (vI x1), o2]) (st' := []) (bp122_2 call x1 47 _ _) (fun q1 => ?_) (fun q1 => ?_)
  · have H := H.1 (cI1t q1)
    refine rc_b (i' := 10) (ls' := [some (vR 0), some (vI x1), some (vI 0)]) (st' := [vI 1, vI (z 5)]) (L' := LPr z f) 5 (bp122_3 call x1 o2 z f) ?_
    refine rc_if (it := 30) (ie := 11) (ls' := [some (vR 0), some (vI x1), some (vI 0)]) (st' := []) (bp122_4 call (z 5) 1 _ _) (fun q2 => ?_) (fun q2 => ?_)
    · have H := H.1 (cI1t q2)
      refine rc_b (i' := 31) (ls' := [some (vR 0), some (vI x1), some (vI 0)]) (st' := [vI 0]) (L' := LPr z f) 1 (bp122_5 call x1 0 _) ?_
      refine rc_f (it := 48) (ie := 32) (ls' := [some (vR 0), some (vI x1), some (vI 0)]) (st' := []) (bp122_6 call 0 _ _) (by decide) ?_
      refine rc_b (i' := 35) (ls' := [some (vR 0), some (vI x1), some (vI 0)]) (st' := [vI 303, vI (z 5)]) (L' := LPr z f) 3 (bp122_7 call x1 0 z f) ?_
      refine rc_if (it := 48) (ie := 36) (ls' := [some (vR 0), some (vI x1), some (vI 0)]) (st' := []) (bp122_8 call (z 5) 303 _ _) (fun q3 => ?_) (fun q3 => ?_)
      · have H := H.1 (cI2t q3 rfl rfl)
        refine rc_b (i' := 50) (ls' := [some (vR 0), some (vI x1), some (vI 0)]) (st' := [vI 1, vR 0]) (L' := LPr z f) 2 (bp122_9 call x1 0 _) ?_
        refine rc_call (t := 51) (ls' := [some (vR 0), some (vI x1), some (vI 0)]) (st' := []) (bp122_10 call 1 _ z f) (hw 1 z f) ?_
        show RC call (mP 122) 51 [some (vR 0), some (vI x1), some (vI 0)] [vI 0] (LPr (uZ (uZ z 7 1) 8 (z 3)) f) res
        subst H
        exact rc_ret (bp122_11 call _ _)
      · have H := H.2 (cI2f q3 rfl rfl)
        refine rc_b (i' := 39) (ls' := [some (vR 0), some (vI x1), some (vI 0)]) (st' := [vI 312, vI (z 5)]) (L' := LPr z f) 3 (bp122_12 call x1 0 z f) ?_
        refine rc_if (it := 48) (ie := 40) (ls' := [some (vR 0), some (vI x1), some (vI 0)]) (st' := []) (bp122_13 call (z 5) 312 _ _) (fun q4 => ?_) (fun q4 => ?_)
        · have H := H.1 (cI4t q4 rfl rfl)
          refine rc_b (i' := 50) (ls' := [some (vR 0), some (vI x1), some (vI 0)]) (st' := [vI 1, vR 0]) (L' := LPr z f) 2 (bp122_9 call x1 0 _) ?_
          refine rc_call (t := 51) (ls' := [some (vR 0), some (vI x1), some (vI 0)]) (st' := []) (bp122_10 call 1 _ z f) (hw 1 z f) ?_
          show RC call (mP 122) 51 [some (vR 0), some (vI x1), some (vI 0)] [vI 0] (LPr (uZ (uZ z 7 1) 8 (z 3)) f) res
          subst H
          exact rc_ret (bp122_11 call _ _)
        · have H := H.2 (cI4f q4 rfl rfl)
          refine rc_b (i' := 46) (ls' := [some (vR 0), some (vI x1), some (vI 0)]) (st' := [vI ((z 5) - 303), vI 1, vR 0]) (L' := LPr z f) 6 (bp122_14 call x1 0 z f) ?_
          obtain ⟨z1, f1, hc, H⟩ := H
          refine rc_call (t := 47) (ls' := [some (vR 0), some (vI x1), some (vI 0)]) (st' := []) (bp122_15 call 1 ((z 5) - 303) _ z f) hc ?_
          show RC call (mP 122) 47 [some (vR 0), some (vI x1), some (vI 0)] [] (LPr z1 f1) res
          refine rc_b (i' := 54) (ls' := [some (vR 0), some (vI x1), some (vI 0)]) (st' := [vI 42, vI x1]) (L' := LPr z1 f1) 3 (bp122_16 call x1 0 _) ?_
          refine rc_if (it := 59) (ie := 55) (ls' := [some (vR 0), some (vI x1), some (vI 0)]) (st' := []) (bp122_17 call x1 42 _ _) (fun q5 => ?_) (fun q5 => ?_)
          · have H := H.1 (cI1t q5)
            refine rc_b (i' := 60) (ls' := [some (vR 0), some (vI x1), some (vI 0)]) (st' := [vI 1]) (L' := LPr z1 f1) 1 (bp122_18 call x1 0 _) ?_
            subst H
            exact rc_ret (bp122_19 call _ _)
          · have H := H.2 (cI1f q5)
            refine rc_b (i' := 58) (ls' := [some (vR 0), some (vI x1), some (vI 0)]) (st' := [vI 0, vI 6, vR 0]) (L' := LPr z1 f1) 3 (bp122_20 call x1 0 _) ?_
            obtain ⟨z2, f2, hc, H⟩ := H
            refine rc_call (t := 59) (ls' := [some (vR 0), some (vI x1), some (vI 0)]) (st' := []) (bp122_21 call 6 0 _ z1 f1) hc ?_
            show RC call (mP 122) 59 [some (vR 0), some (vI x1), some (vI 0)] [] (LPr z2 f2) res
            refine rc_b (i' := 60) (ls' := [some (vR 0), some (vI x1), some (vI 0)]) (st' := [vI 1]) (L' := LPr z2 f2) 1 (bp122_18 call x1 0 _) ?_
            subst H
            exact rc_ret (bp122_19 call _ _)
    · have H := H.2 (cI1f q2)
      refine rc_b (i' := 12) (ls' := [some (vR 0), some (vI x1), some (vI 0)]) (st' := [vI 0]) (L' := LPr z f) 1 (bp122_22 call x1 0 _) ?_
      refine rc_t (it := 20) (ie := 13) (ls' := [some (vR 0), some (vI x1), some (vI 0)]) (st' := []) (bp122_23 call 0 _ _) (by decide) ?_
      refine rc_b (i' := 22) (ls' := [some (vR 0), some (vI x1), some (vI 0)]) (st' := [vI 0, vR 0]) (L' := LPr z f) 2 (bp122_24 call x1 0 _) ?_
      refine rc_t (it := 25) (ie := 23) (ls' := [some (vR 0), some (vI x1), some (vI 0)]) (st' := [vR 0]) (bp122_25 call 0 _ _) (by decide) ?_
      refine rc_b (i' := 28) (ls' := [some (vR 0), some (vI x1), some (vI 0)]) (st' := [vI (z 6), vI 0, vR 0]) (L' := LPr z f) 3 (bp122_26 call x1 0 z f) ?_
      obtain ⟨z3, f3, hc, H⟩ := H
      refine rc_call (t := 29) (ls' := [some (vR 0), some (vI x1), some (vI 0)]) (st' := []) (bp122_27 call 0 (z 6) _ z f) hc ?_
      show RC call (mP 122) 29 [some (vR 0), some (vI x1), some (vI 0)] [] (LPr z3 f3) res
      refine rc_b (i' := 54) (ls' := [some (vR 0), some (vI x1), some (vI 0)]) (st' := [vI 42, vI x1]) (L' := LPr z3 f3) 3 (bp122_28 call x1 0 _) ?_
      refine rc_if (it := 59) (ie := 55) (ls' := [some (vR 0), some (vI x1), some (vI 0)]) (st' := []) (bp122_17 call x1 42 _ _) (fun q6 => ?_) (fun q6 => ?_)
      · have H := H.1 (cI1t q6)
        refine rc_b (i' := 60) (ls' := [some (vR 0), some (vI x1), some (vI 0)]) (st' := [vI 1]) (L' := LPr z3 f3) 1 (bp122_18 call x1 0 _) ?_
        subst H
        exact rc_ret (bp122_19 call _ _)
      · have H := H.2 (cI1f q6)
        refine rc_b (i' := 58) (ls' := [some (vR 0), some (vI x1), some (vI 0)]) (st' := [vI 0, vI 6, vR 0]) (L' := LPr z3 f3) 3 (bp122_20 call x1 0 _) ?_
        obtain ⟨z4, f4, hc, H⟩ := H
        refine rc_call (t := 59) (ls' := [some (vR 0), some (vI x1), some (vI 0)]) (st' := []) (bp122_21 call 6 0 _ z3 f3) hc ?_
        show RC call (mP 122) 59 [some (vR 0), some (vI x1), some (vI 0)] [] (LPr z4 f4) res
        refine rc_b (i' := 60) (ls' := [some (vR 0), some (vI x1), some (vI 0)]) (st' := [vI 1]) (L' := LPr z4 f4) 1 (bp122_18 call x1 0 _) ?_
        subst H
        exact rc_ret (bp122_19 call _ _)
  · have H := H.2 (cI1f q1)
    refine rc_b (i' := 10) (ls' := [some (vR 0), some (vI x1), some (vI 1)]) (st' := [vI 1, vI (z 5)]) (L' := LPr z f) 6 (bp122_29 call x1 o2 z f) ?_
    refine rc_if (it := 30) (ie := 11) (ls' := [some (vR 0), some (vI x1), some (vI 1)]) (st' := []) (bp122_4 call (z 5) 1 _ _) (fun q7 => ?_) (fun q7 => ?_)
    · have H := H.1 (cI1t q7)
      refine rc_b (i' := 31) (ls' := [some (vR 0), some (vI x1), some (vI 1)]) (st' := [vI 1]) (L' := LPr z f) 1 (bp122_5 call x1 1 _) ?_
      refine rc_t (it := 48) (ie := 32) (ls' := [some (vR 0), some (vI x1), some (vI 1)]) (st' := []) (bp122_6 call 1 _ _) (by decide) ?_
      refine rc_b (i' := 50) (ls' := [some (vR 0), some (vI x1), some (vI 1)]) (st' := [vI 1, vR 0]) (L' := LPr z f) 2 (bp122_9 call x1 1 _) ?_
      refine rc_call (t := 51) (ls' := [some (vR 0), some (vI x1), some (vI 1)]) (st' := []) (bp122_10 call 1 _ z f) (hw 1 z f) ?_
      show RC call (mP 122) 51 [some (vR 0), some (vI x1), some (vI 1)] [vI 0] (LPr (uZ (uZ z 7 1) 8 (z 3)) f) res
      subst H
      exact rc_ret (bp122_11 call _ _)
    · have H := H.2 (cI1f q7)
      refine rc_b (i' := 12) (ls' := [some (vR 0), some (vI x1), some (vI 1)]) (st' := [vI 1]) (L' := LPr z f) 1 (bp122_22 call x1 1 _) ?_
      refine rc_f (it := 20) (ie := 13) (ls' := [some (vR 0), some (vI x1), some (vI 1)]) (st' := []) (bp122_23 call 1 _ _) (by decide) ?_
      refine rc_b (i' := 15) (ls' := [some (vR 0), some (vI x1), some (vI 1)]) (st' := [vI (z 6)]) (L' := LPr z f) 2 (bp122_30 call x1 1 z f) ?_
      refine rc_if (it := 20) (ie := 16) (ls' := [some (vR 0), some (vI x1), some (vI 1)]) (st' := []) (bp122_31 call (z 6) _ _) (fun q8 => ?_) (fun q8 => ?_)
      · have H := H.1 (cI1t q8)
        refine rc_b (i' := 22) (ls' := [some (vR 0), some (vI x1), some (vI 1)]) (st' := [vI 1, vR 0]) (L' := LPr z f) 2 (bp122_24 call x1 1 _) ?_
        refine rc_f (it := 25) (ie := 23) (ls' := [some (vR 0), some (vI x1), some (vI 1)]) (st' := [vR 0]) (bp122_25 call 1 _ _) (by decide) ?_
        refine rc_b (i' := 28) (ls' := [some (vR 0), some (vI x1), some (vI 1)]) (st' := [vI (z 6), vI 2, vR 0]) (L' := LPr z f) 4 (bp122_32 call x1 1 z f) ?_
        obtain ⟨z5, f5, hc, H⟩ := H
        refine rc_call (t := 29) (ls' := [some (vR 0), some (vI x1), some (vI 1)]) (st' := []) (bp122_27 call 2 (z 6) _ z f) hc ?_
        show RC call (mP 122) 29 [some (vR 0), some (vI x1), some (vI 1)] [] (LPr z5 f5) res
        refine rc_b (i' := 54) (ls' := [some (vR 0), some (vI x1), some (vI 1)]) (st' := [vI 42, vI x1]) (L' := LPr z5 f5) 3 (bp122_28 call x1 1 _) ?_
        refine rc_if (it := 59) (ie := 55) (ls' := [some (vR 0), some (vI x1), some (vI 1)]) (st' := []) (bp122_17 call x1 42 _ _) (fun q9 => ?_) (fun q9 => ?_)
        · have H := H.1 (cI1t q9)
          refine rc_b (i' := 60) (ls' := [some (vR 0), some (vI x1), some (vI 1)]) (st' := [vI 1]) (L' := LPr z5 f5) 1 (bp122_18 call x1 1 _) ?_
          subst H
          exact rc_ret (bp122_19 call _ _)
        · have H := H.2 (cI1f q9)
          refine rc_b (i' := 58) (ls' := [some (vR 0), some (vI x1), some (vI 1)]) (st' := [vI 0, vI 6, vR 0]) (L' := LPr z5 f5) 3 (bp122_20 call x1 1 _) ?_
          obtain ⟨z6, f6, hc, H⟩ := H
          refine rc_call (t := 59) (ls' := [some (vR 0), some (vI x1), some (vI 1)]) (st' := []) (bp122_21 call 6 0 _ z5 f5) hc ?_
          show RC call (mP 122) 59 [some (vR 0), some (vI x1), some (vI 1)] [] (LPr z6 f6) res
          refine rc_b (i' := 60) (ls' := [some (vR 0), some (vI x1), some (vI 1)]) (st' := [vI 1]) (L' := LPr z6 f6) 1 (bp122_18 call x1 1 _) ?_
          subst H
          exact rc_ret (bp122_19 call _ _)
      · have H := H.2 (cI1f q8)
        refine rc_b (i' := 18) (ls' := [some (vR 0), some (vI x1), some (vI 1)]) (st' := [vI 2, vR 0]) (L' := LPr z f) 2 (bp122_33 call x1 1 _) ?_
        refine rc_call (t := 19) (ls' := [some (vR 0), some (vI x1), some (vI 1)]) (st' := []) (bp122_34 call 2 _ z f) (hw 2 z f) ?_
        show RC call (mP 122) 19 [some (vR 0), some (vI x1), some (vI 1)] [vI 0] (LPr (uZ (uZ z 7 2) 8 (z 3)) f) res
        subst H
        exact rc_ret (bp122_35 call _ _)
set_option maxRecDepth 100000 in
theorem bp130_1 (call : QC FA) (o1 : Option PV) (o2 : Option PV) (o3 : Option PV) (L : QH FA) (F : Nat) : rnG call 130 (F + 6) 0 [some (vR 0), o1, o2, o3] [] L = rnG call 130 F 6 [some (vR 0), some (vI 0), some (vI 0), some (vI 0)] [] L := rfl
theorem vcp130_0 (call : QC FA) (o1 : Option PV) (o2 : Option PV) (o3 : Option PV) (z : Nat → Int32) (f : Nat → FA) (res : Option PV × QH FA) (H : RC call (mP 130) 6 [some (vR 0), some (vI 0), some (vI 0), some (vI 0)] [] (LPr z f) res) : RC call (mP 130) 0 [some (vR 0), o1, o2, o3] [] (LPr z f) res := by
  refine rc_b (i' := 6) (ls' := [some (vR 0), some (vI 0), some (vI 0), some (vI 0)]) (st' := []) (L' := LPr z f) 6 (bp130_1 call o1 o2 o3 _) ?_
  exact H
set_option maxRecDepth 100000 in
theorem bpc6_130_1 (call : QC FA) (x1 : Int32) (x2 : Int32) (x3 : Int32) (L : QH FA) (F : Nat) : rnG call 130 (F + 2) 6 [some (vR 0), some (vI x1), some (vI x2), some (vI x3)] [] L = rnG call 130 F 8 [some (vR 0), some (vI x1), some (vI x2), some (vI x3)] [vI 400, vI x3] L := rfl
set_option maxRecDepth 100000 in
theorem bpc6_130_2 (call : QC FA) (x y : Int32) (ls : List (Option PV)) (L : QH FA) (F : Nat) : rnG call 130 (F + 1) 8 ls [vI y, vI x] L = bif pcmp 3 x y then rnG call 130 F 54 ls [] L else rnG call 130 F 9 ls [] L := rfl
set_option maxRecDepth 100000 in
theorem bpc6_130_3 (call : QC FA) (x1 : Int32) (x2 : Int32) (x3 : Int32) (L : QH FA) (F : Nat) : rnG call 130 (F + 2) 54 [some (vR 0), some (vI x1), some (vI x2), some (vI x3)] [] L = rnG call 130 F 56 [some (vR 0), some (vI x1), some (vI x2), some (vI x3)] [vI 1, vR 0] L := rfl
set_option maxRecDepth 100000 in
theorem bpc6_130_4 (call : QC FA) (a0 : Int32) (ls : List (Option PV)) (z : Nat → Int32) (f : Nat → FA) (F : Nat) : rnG call 130 (F + 1) 56 ls [vI a0, vR 0] (LPr z f) = cbd (call 138 [vR 0, vI a0] (LPr z f)) (fun r L' => rnG call 130 F 57 ls (r.toList ++ []) L') := pcY (ih := rnG call 130 F) (call := call) (a := 138) (b := 1) (v := 5) (t := 57) (x := 0) (ls := ls) (As := [vI a0]) (st' := []) (L := LPr z f) rfl rfl rfl
set_option maxRecDepth 100000 in
theorem bpc6_130_5 (call : QC FA) (ls : List (Option PV)) (L : QH FA) (F : Nat) : rnG call 130 (F + 1) 57 ls [vI 0] L = some (some (vI 0), L) := rfl
set_option maxRecDepth 100000 in
theorem bpc6_130_6 (call : QC FA) (x1 : Int32) (x2 : Int32) (x3 : Int32) (L : QH FA) (F : Nat) : rnG call 130 (F + 2) 9 [some (vR 0), some (vI x1), some (vI x2), some (vI x3)] [] L = rnG call 130 F 11 [some (vR 0), some (vI x1), some (vI x2), some (vI x3)] [vI x2, vR 0] L := rfl
set_option maxRecDepth 100000 in
theorem bpc6_130_7 (call : QC FA) (a0 : Int32) (ls : List (Option PV)) (z : Nat → Int32) (f : Nat → FA) (F : Nat) : rnG call 130 (F + 1) 11 ls [vI a0, vR 0] (LPr z f) = cbd (call 122 [vR 0, vI a0] (LPr z f)) (fun r L' => rnG call 130 F 12 ls (r.toList ++ []) L') := pcY (ih := rnG call 130 F) (call := call) (a := 122) (b := 1) (v := 5) (t := 12) (x := 0) (ls := ls) (As := [vI a0]) (st' := []) (L := LPr z f) rfl rfl rfl
set_option maxRecDepth 100000 in
theorem bpc6_130_8 (call : QC FA) (x : Int32) (ls : List (Option PV)) (L : QH FA) (F : Nat) : rnG call 130 (F + 1) 12 ls [vI x] L = bif pcmp 1 x 0 then rnG call 130 F 15 ls [] L else rnG call 130 F 13 ls [] L := rfl
set_option maxRecDepth 100000 in
theorem bpc6_130_9 (call : QC FA) (x1 : Int32) (x2 : Int32) (x3 : Int32) (L : QH FA) (F : Nat) : rnG call 130 (F + 1) 15 [some (vR 0), some (vI x1), some (vI x2), some (vI x3)] [] L = rnG call 130 F 16 [some (vR 0), some (vI x1), some (vI x2), some (vI x3)] [vR 0] L := rfl
set_option maxRecDepth 100000 in
theorem bpc6_130_10 (call : QC FA) (ls : List (Option PV)) (z : Nat → Int32) (f : Nat → FA) (F : Nat) : rnG call 130 (F + 1) 16 ls [vR 0] (LPr z f) = cbd (call 135 [vR 0] (LPr z f)) (fun r L' => rnG call 130 F 17 ls (r.toList ++ []) L') := pcY (ih := rnG call 130 F) (call := call) (a := 135) (b := 0) (v := 5) (t := 17) (x := 0) (ls := ls) (As := []) (st' := []) (L := LPr z f) rfl rfl rfl
set_option maxRecDepth 100000 in
theorem bpc6_130_11 (call : QC FA) (x1 : Int32) (x2 : Int32) (x3 : Int32) (z : Nat → Int32) (f : Nat → FA) (F : Nat) : rnG call 130 (F + 5) 17 [some (vR 0), some (vI x1), some (vI x2), some (vI x3)] [] (LPr z f) = rnG call 130 F 22 [some (vR 0), some (vI x1), some (vI (z 5)), some (vI x3)] [vI 42, vI (z 5)] (LPr z f) := rfl
set_option maxRecDepth 100000 in
theorem bpc6_130_12 (call : QC FA) (x y : Int32) (ls : List (Option PV)) (L : QH FA) (F : Nat) : rnG call 130 (F + 1) 22 ls [vI y, vI x] L = bif pcmp 0 x y then rnG call 130 F 50 ls [] L else rnG call 130 F 23 ls [] L := rfl
set_option maxRecDepth 100000 in
theorem bpc6_130_13 (call : QC FA) (x1 : Int32) (x2 : Int32) (x3 : Int32) (L : QH FA) (F : Nat) : rnG call 130 (F + 1) 50 [some (vR 0), some (vI x1), some (vI x2), some (vI x3)] [] L = rnG call 130 F 51 [some (vR 0), some (vI x1), some (vI x2), some (vI x3)] [vR 0] L := rfl
set_option maxRecDepth 100000 in
theorem bpc6_130_14 (call : QC FA) (ls : List (Option PV)) (z : Nat → Int32) (f : Nat → FA) (F : Nat) : rnG call 130 (F + 1) 51 ls [vR 0] (LPr z f) = cbd (call 135 [vR 0] (LPr z f)) (fun r L' => rnG call 130 F 52 ls (r.toList ++ []) L') := pcY (ih := rnG call 130 F) (call := call) (a := 135) (b := 0) (v := 5) (t := 52) (x := 0) (ls := ls) (As := []) (st' := []) (L := LPr z f) rfl rfl rfl
set_option maxRecDepth 100000 in
theorem bpc6_130_15 (call : QC FA) (x1 : Int32) (x2 : Int32) (x3 : Int32) (L : QH FA) (F : Nat) : rnG call 130 (F + 1) 52 [some (vR 0), some (vI x1), some (vI x2), some (vI x3)] [] L = rnG call 130 F 53 [some (vR 0), some (vI x1), some (vI x2), some (vI (x3 + 1))] [] L := rfl
set_option maxRecDepth 100000 in
theorem bpc6_130_16 (call : QC FA) (x1 : Int32) (x2 : Int32) (x3 : Int32) (L : QH FA) (F : Nat) : rnG call 130 (F + 1) 53 [some (vR 0), some (vI x1), some (vI x2), some (vI x3)] [] L = rnG call 130 F 6 [some (vR 0), some (vI x1), some (vI x2), some (vI x3)] [] L := rfl
set_option maxRecDepth 100000 in
theorem bpc6_130_17 (call : QC FA) (x1 : Int32) (x2 : Int32) (x3 : Int32) (L : QH FA) (F : Nat) : rnG call 130 (F + 2) 23 [some (vR 0), some (vI x1), some (vI x2), some (vI x3)] [] L = rnG call 130 F 25 [some (vR 0), some (vI x1), some (vI x2), some (vI x3)] [vI 47, vI x2] L := rfl
set_option maxRecDepth 100000 in
theorem bpc6_130_18 (call : QC FA) (x y : Int32) (ls : List (Option PV)) (L : QH FA) (F : Nat) : rnG call 130 (F + 1) 25 ls [vI y, vI x] L = bif pcmp 0 x y then rnG call 130 F 50 ls [] L else rnG call 130 F 26 ls [] L := rfl
set_option maxRecDepth 100000 in
theorem bpc6_130_19 (call : QC FA) (x1 : Int32) (x2 : Int32) (x3 : Int32) (L : QH FA) (F : Nat) : rnG call 130 (F + 1) 26 [some (vR 0), some (vI x1), some (vI x2), some (vI x3)] [] L = rnG call 130 F 27 [some (vR 0), some (vI x1), some (vI x2), some (vI x3)] [vI x1] L := rfl
set_option maxRecDepth 100000 in
theorem bpc6_130_20 (call : QC FA) (x : Int32) (ls : List (Option PV)) (L : QH FA) (F : Nat) : rnG call 130 (F + 1) 27 ls [vI x] L = bif pcmp 0 x 0 then rnG call 130 F 32 ls [] L else rnG call 130 F 28 ls [] L := rfl
set_option maxRecDepth 100000 in
theorem bpc6_130_21 (call : QC FA) (x1 : Int32) (x2 : Int32) (x3 : Int32) (z : Nat → Int32) (f : Nat → FA) (F : Nat) : rnG call 130 (F + 3) 32 [some (vR 0), some (vI x1), some (vI x2), some (vI x3)] [] (LPr z f) = rnG call 130 F 35 [some (vR 0), some (vI x1), some (vI x2), some (vI x3)] [vI 43, vI (z 5)] (LPr z f) := rfl
set_option maxRecDepth 100000 in
theorem bpc6_130_22 (call : QC FA) (x y : Int32) (ls : List (Option PV)) (L : QH FA) (F : Nat) : rnG call 130 (F + 1) 35 ls [vI y, vI x] L = bif pcmp 0 x y then rnG call 130 F 42 ls [] L else rnG call 130 F 36 ls [] L := rfl
set_option maxRecDepth 100000 in
theorem bpc6_130_23 (call : QC FA) (x1 : Int32) (x2 : Int32) (x3 : Int32) (z : Nat → Int32) (f : Nat → FA) (F : Nat) : rnG call 130 (F + 3) 42 [some (vR 0), some (vI x1), some (vI x2), some (vI x3)] [] (LPr z f) = rnG call 130 F 45 [some (vR 0), some (vI x1), some (vI x2), some (vI x3)] [vI 43, vI (z 5)] (LPr z f) := rfl
set_option maxRecDepth 100000 in
theorem bpc6_130_24 (call : QC FA) (x y : Int32) (ls : List (Option PV)) (L : QH FA) (F : Nat) : rnG call 130 (F + 1) 45 ls [vI y, vI x] L = bif pcmp 1 x y then rnG call 130 F 48 ls [] L else rnG call 130 F 46 ls [] L := rfl
set_option maxRecDepth 100000 in
theorem bpc6_130_25 (call : QC FA) (x1 : Int32) (x2 : Int32) (x3 : Int32) (L : QH FA) (F : Nat) : rnG call 130 (F + 4) 46 [some (vR 0), some (vI x1), some (vI x2), some (vI x3)] [] L = rnG call 130 F 51 [some (vR 0), some (vI 4), some (vI x2), some (vI x3)] [vR 0] L := rfl
set_option maxRecDepth 100000 in
theorem bpc6_130_26 (call : QC FA) (x1 : Int32) (x2 : Int32) (x3 : Int32) (z : Nat → Int32) (f : Nat → FA) (F : Nat) : rnG call 130 (F + 3) 36 [some (vR 0), some (vI x1), some (vI x2), some (vI x3)] [] (LPr z f) = rnG call 130 F 39 [some (vR 0), some (vI x1), some (vI x2), some (vI x3)] [vI 45, vI (z 5)] (LPr z f) := rfl
set_option maxRecDepth 100000 in
theorem bpc6_130_27 (call : QC FA) (x y : Int32) (ls : List (Option PV)) (L : QH FA) (F : Nat) : rnG call 130 (F + 1) 39 ls [vI y, vI x] L = bif pcmp 0 x y then rnG call 130 F 42 ls [] L else rnG call 130 F 40 ls [] L := rfl
set_option maxRecDepth 100000 in
theorem bpc6_130_28 (call : QC FA) (x1 : Int32) (x2 : Int32) (x3 : Int32) (L : QH FA) (F : Nat) : rnG call 130 (F + 3) 48 [some (vR 0), some (vI x1), some (vI x2), some (vI x3)] [] L = rnG call 130 F 51 [some (vR 0), some (vI 5), some (vI x2), some (vI x3)] [vR 0] L := rfl
set_option maxRecDepth 100000 in
theorem bpc6_130_29 (call : QC FA) (x1 : Int32) (x2 : Int32) (x3 : Int32) (L : QH FA) (F : Nat) : rnG call 130 (F + 1) 40 [some (vR 0), some (vI x1), some (vI x2), some (vI x3)] [] L = rnG call 130 F 41 [some (vR 0), some (vI x1), some (vI x2), some (vI x3)] [vI 1] L := rfl
set_option maxRecDepth 100000 in
theorem bpc6_130_30 (call : QC FA) (ls : List (Option PV)) (L : QH FA) (F : Nat) : rnG call 130 (F + 1) 41 ls [vI 1] L = some (some (vI 1), L) := rfl
set_option maxRecDepth 100000 in
theorem bpc6_130_31 (call : QC FA) (x1 : Int32) (x2 : Int32) (x3 : Int32) (L : QH FA) (F : Nat) : rnG call 130 (F + 3) 28 [some (vR 0), some (vI x1), some (vI x2), some (vI x3)] [] L = rnG call 130 F 31 [some (vR 0), some (vI x1), some (vI x2), some (vI x3)] [vI 0, vI x1, vR 0] L := rfl
set_option maxRecDepth 100000 in
theorem bpc6_130_32 (call : QC FA) (a0 : Int32) (a1 : Int32) (ls : List (Option PV)) (z : Nat → Int32) (f : Nat → FA) (F : Nat) : rnG call 130 (F + 1) 31 ls [vI a1, vI a0, vR 0] (LPr z f) = cbd (call 121 [vR 0, vI a0, vI a1] (LPr z f)) (fun r L' => rnG call 130 F 32 ls (r.toList ++ []) L') := pcY (ih := rnG call 130 F) (call := call) (a := 121) (b := 2) (v := 5) (t := 32) (x := 0) (ls := ls) (As := [vI a0, vI a1]) (st' := []) (L := LPr z f) rfl rfl rfl
set_option maxRecDepth 100000 in
theorem bpc6_130_33 (call : QC FA) (x1 : Int32) (x2 : Int32) (x3 : Int32) (L : QH FA) (F : Nat) : rnG call 130 (F + 1) 13 [some (vR 0), some (vI x1), some (vI x2), some (vI x3)] [] L = rnG call 130 F 14 [some (vR 0), some (vI x1), some (vI x2), some (vI x3)] [vI 0] L := rfl
set_option maxRecDepth 100000 in
theorem bpc6_130_34 (call : QC FA) (ls : List (Option PV)) (L : QH FA) (F : Nat) : rnG call 130 (F + 1) 14 ls [vI 0] L = some (some (vI 0), L) := rfl
theorem vcpc6_130_6 (call : QC FA) (hw : ∀ (a : Int32) (z : Nat → Int32) (f : Nat → FA), call 138 [vR 0, vI a] (LPr z f) = some (some (vI 0), LPr (uZ (uZ z 7 a) 8 (z 3)) f)) (x1 : Int32) (x2 : Int32) (x3 : Int32) (z : Nat → Int32) (f : Nat → FA) (res : Option PV × QH FA) (H : ((400 ≤ I x3 → res = (some (vI 0), LPr (uZ (uZ z 7 1) 8 (z 3)) f)) ∧ (I x3 < 400 → (∃ (r1 : Int32) (z1 : Nat → Int32) (f1 : Nat → FA), call 122 [vR 0, vI x2] (LPr z f) = some (some (vI r1), LPr z1 f1) ∧ ((¬ r1 = 0 → (∃ (z2 : Nat → Int32) (f2 : Nat → FA), call 135 [vR 0] (LPr z1 f1) = some (none, LPr z2 f2) ∧ ((z2 5 = 42 → (∃ (z3 : Nat → Int32) (f3 : Nat → FA), call 135 [vR 0] (LPr z2 f2) = some (none, LPr z3 f3) ∧ RC call (mP 130) 6 [some (vR 0), some (vI x1), some (vI (z2 5)), some (vI (x3 + 1))] [] (LPr z3 f3) res)) ∧ (¬ z2 5 = 42 → ((z2 5 = 47 → (∃ (z4 : Nat → Int32) (f4 : Nat → FA), call 135 [vR 0] (LPr z2 f2) = some (none, LPr z4 f4) ∧ RC call (mP 130) 6 [some (vR 0), some (vI x1), some (vI (z2 5)), some (vI (x3 + 1))] [] (LPr z4 f4) res)) ∧ (¬ z2 5 = 47 → ((x1 = 0 → ((z2 5 = 43 → (∃ (z5 : Nat → Int32) (f5 : Nat → FA), call 135 [vR 0] (LPr z2 f2) = some (none, LPr z5 f5) ∧ RC call (mP 130) 6 [some (vR 0), some (vI 4), some (vI (z2 5)), some (vI (x3 + 1))] [] (LPr z5 f5) res)) ∧ (¬ z2 5 = 43 → ((z2 5 = 45 → (∃ (z6 : Nat → Int32) (f6 : Nat → FA), call 135 [vR 0] (LPr z2 f2) = some (none, LPr z6 f6) ∧ RC call (mP 130) 6 [some (vR 0), some (vI 5), some (vI (z2 5)), some (vI (x3 + 1))] [] (LPr z6 f6) res)) ∧ (¬ z2 5 = 45 → res = (some (vI 1), LPr z2 f2)))))) ∧ (¬ x1 = 0 → (∃ (z7 : Nat → Int32) (f7 : Nat → FA), call 121 [vR 0, vI x1, vI 0] (LPr z2 f2) = some (none, LPr z7 f7) ∧ ((z7 5 = 43 → (∃ (z8 : Nat → Int32) (f8 : Nat → FA), call 135 [vR 0] (LPr z7 f7) = some (none, LPr z8 f8) ∧ RC call (mP 130) 6 [some (vR 0), some (vI 4), some (vI (z2 5)), some (vI (x3 + 1))] [] (LPr z8 f8) res)) ∧ (¬ z7 5 = 43 → ((z7 5 = 45 → (∃ (z9 : Nat → Int32) (f9 : Nat → FA), call 135 [vR 0] (LPr z7 f7) = some (none, LPr z9 f9) ∧ RC call (mP 130) 6 [some (vR 0), some (vI 5), some (vI (z2 5)), some (vI (x3 + 1))] [] (LPr z9 f9) res)) ∧ (¬ z7 5 = 45 → res = (some (vI 1), LPr z7 f7)))))))))))))) ∧ (r1 = 0 → res = (some (vI 0), LPr z1 f1))))))) : RC call (mP 130) 6 [some (vR 0), some (vI x1), some (vI x2), some (vI x3)] [] (LPr z f) res := by
  refine rc_b (i' := 8) (ls' := [some (vR 0), some (vI x1), some (vI x2), some (vI x3)]) (st' := [vI 400, vI x3]) (L' := LPr z f) 2 (bpc6_130_1 call x1 x2 x3 _) ?_
  refine rc_if (it := 54) (ie := 9) (ls' := [some (vR 0), some (vI x1), some (vI x2), some (vI x3)]) (st' := []) (bpc6_130_2 call x3 400 _ _) (fun q1 => ?_) (fun q1 => ?_)
  · have H := H.1 (cI3t q1 rfl rfl)
    refine rc_b (i' := 56) (ls' := [some (vR 0), some (vI x1), some (vI x2), some (vI x3)]) (st' := [vI 1, vR 0]) (L' := LPr z f) 2 (bpc6_130_3 call x1 x2 x3 _) ?_
    refine rc_call (t := 57) (ls' := [some (vR 0), some (vI x1), some (vI x2), some (vI x3)]) (st' := []) (bpc6_130_4 call 1 _ z f) (hw 1 z f) ?_
    show RC call (mP 130) 57 [some (vR 0), some (vI x1), some (vI x2), some (vI x3)] [vI 0] (LPr (uZ (uZ z 7 1) 8 (z 3)) f) res
    subst H
    exact rc_ret (bpc6_130_5 call _ _)
  · have H := H.2 (cI3f q1 rfl rfl)
    refine rc_b (i' := 11) (ls' := [some (vR 0), some (vI x1), some (vI x2), some (vI x3)]) (st' := [vI x2, vR 0]) (L' := LPr z f) 2 (bpc6_130_6 call x1 x2 x3 _) ?_
    obtain ⟨r1, z1, f1, hc, H⟩ := H
    refine rc_call (t := 12) (ls' := [some (vR 0), some (vI x1), some (vI x2), some (vI x3)]) (st' := []) (bpc6_130_7 call x2 _ z f) hc ?_
    show RC call (mP 130) 12 [some (vR 0), some (vI x1), some (vI x2), some (vI x3)] [vI r1] (LPr z1 f1) res
    refine rc_if (it := 15) (ie := 13) (ls' := [some (vR 0), some (vI x1), some (vI x2), some (vI x3)]) (st' := []) (bpc6_130_8 call r1 _ _) (fun q2 => ?_) (fun q2 => ?_)
    · have H := H.1 (cI1t q2)
      refine rc_b (i' := 16) (ls' := [some (vR 0), some (vI x1), some (vI x2), some (vI x3)]) (st' := [vR 0]) (L' := LPr z1 f1) 1 (bpc6_130_9 call x1 x2 x3 _) ?_
      obtain ⟨z2, f2, hc, H⟩ := H
      refine rc_call (t := 17) (ls' := [some (vR 0), some (vI x1), some (vI x2), some (vI x3)]) (st' := []) (bpc6_130_10 call _ z1 f1) hc ?_
      show RC call (mP 130) 17 [some (vR 0), some (vI x1), some (vI x2), some (vI x3)] [] (LPr z2 f2) res
      refine rc_b (i' := 22) (ls' := [some (vR 0), some (vI x1), some (vI (z2 5)), some (vI x3)]) (st' := [vI 42, vI (z2 5)]) (L' := LPr z2 f2) 5 (bpc6_130_11 call x1 x2 x3 z2 f2) ?_
      refine rc_if (it := 50) (ie := 23) (ls' := [some (vR 0), some (vI x1), some (vI (z2 5)), some (vI x3)]) (st' := []) (bpc6_130_12 call (z2 5) 42 _ _) (fun q3 => ?_) (fun q3 => ?_)
      · have H := H.1 (cI0t q3)
        refine rc_b (i' := 51) (ls' := [some (vR 0), some (vI x1), some (vI (z2 5)), some (vI x3)]) (st' := [vR 0]) (L' := LPr z2 f2) 1 (bpc6_130_13 call x1 (z2 5) x3 _) ?_
        obtain ⟨z3, f3, hc, H⟩ := H
        refine rc_call (t := 52) (ls' := [some (vR 0), some (vI x1), some (vI (z2 5)), some (vI x3)]) (st' := []) (bpc6_130_14 call _ z2 f2) hc ?_
        show RC call (mP 130) 52 [some (vR 0), some (vI x1), some (vI (z2 5)), some (vI x3)] [] (LPr z3 f3) res
        refine rc_b (i' := 53) (ls' := [some (vR 0), some (vI x1), some (vI (z2 5)), some (vI (x3 + 1))]) (st' := []) (L' := LPr z3 f3) 1 (bpc6_130_15 call x1 (z2 5) x3 _) ?_
        refine rc_b (i' := 6) (ls' := [some (vR 0), some (vI x1), some (vI (z2 5)), some (vI (x3 + 1))]) (st' := []) (L' := LPr z3 f3) 1 (bpc6_130_16 call x1 (z2 5) (x3 + 1) _) ?_
        exact H
      · have H := H.2 (cI0f q3)
        refine rc_b (i' := 25) (ls' := [some (vR 0), some (vI x1), some (vI (z2 5)), some (vI x3)]) (st' := [vI 47, vI (z2 5)]) (L' := LPr z2 f2) 2 (bpc6_130_17 call x1 (z2 5) x3 _) ?_
        refine rc_if (it := 50) (ie := 26) (ls' := [some (vR 0), some (vI x1), some (vI (z2 5)), some (vI x3)]) (st' := []) (bpc6_130_18 call (z2 5) 47 _ _) (fun q4 => ?_) (fun q4 => ?_)
        · have H := H.1 (cI0t q4)
          refine rc_b (i' := 51) (ls' := [some (vR 0), some (vI x1), some (vI (z2 5)), some (vI x3)]) (st' := [vR 0]) (L' := LPr z2 f2) 1 (bpc6_130_13 call x1 (z2 5) x3 _) ?_
          obtain ⟨z4, f4, hc, H⟩ := H
          refine rc_call (t := 52) (ls' := [some (vR 0), some (vI x1), some (vI (z2 5)), some (vI x3)]) (st' := []) (bpc6_130_14 call _ z2 f2) hc ?_
          show RC call (mP 130) 52 [some (vR 0), some (vI x1), some (vI (z2 5)), some (vI x3)] [] (LPr z4 f4) res
          refine rc_b (i' := 53) (ls' := [some (vR 0), some (vI x1), some (vI (z2 5)), some (vI (x3 + 1))]) (st' := []) (L' := LPr z4 f4) 1 (bpc6_130_15 call x1 (z2 5) x3 _) ?_
          refine rc_b (i' := 6) (ls' := [some (vR 0), some (vI x1), some (vI (z2 5)), some (vI (x3 + 1))]) (st' := []) (L' := LPr z4 f4) 1 (bpc6_130_16 call x1 (z2 5) (x3 + 1) _) ?_
          exact H
        · have H := H.2 (cI0f q4)
          refine rc_b (i' := 27) (ls' := [some (vR 0), some (vI x1), some (vI (z2 5)), some (vI x3)]) (st' := [vI x1]) (L' := LPr z2 f2) 1 (bpc6_130_19 call x1 (z2 5) x3 _) ?_
          refine rc_if (it := 32) (ie := 28) (ls' := [some (vR 0), some (vI x1), some (vI (z2 5)), some (vI x3)]) (st' := []) (bpc6_130_20 call x1 _ _) (fun q5 => ?_) (fun q5 => ?_)
          · have H := H.1 (cI0t q5)
            refine rc_b (i' := 35) (ls' := [some (vR 0), some (vI x1), some (vI (z2 5)), some (vI x3)]) (st' := [vI 43, vI (z2 5)]) (L' := LPr z2 f2) 3 (bpc6_130_21 call x1 (z2 5) x3 z2 f2) ?_
            refine rc_if (it := 42) (ie := 36) (ls' := [some (vR 0), some (vI x1), some (vI (z2 5)), some (vI x3)]) (st' := []) (bpc6_130_22 call (z2 5) 43 _ _) (fun q6 => ?_) (fun q6 => ?_)
            · have H := H.1 (cI0t q6)
              refine rc_b (i' := 45) (ls' := [some (vR 0), some (vI x1), some (vI (z2 5)), some (vI x3)]) (st' := [vI 43, vI (z2 5)]) (L' := LPr z2 f2) 3 (bpc6_130_23 call x1 (z2 5) x3 z2 f2) ?_
              refine rc_f (it := 48) (ie := 46) (ls' := [some (vR 0), some (vI x1), some (vI (z2 5)), some (vI x3)]) (st' := []) (bpc6_130_24 call (z2 5) 43 _ _) (pNf (cI0t q6)) ?_
              refine rc_b (i' := 51) (ls' := [some (vR 0), some (vI 4), some (vI (z2 5)), some (vI x3)]) (st' := [vR 0]) (L' := LPr z2 f2) 4 (bpc6_130_25 call x1 (z2 5) x3 _) ?_
              obtain ⟨z5, f5, hc, H⟩ := H
              refine rc_call (t := 52) (ls' := [some (vR 0), some (vI 4), some (vI (z2 5)), some (vI x3)]) (st' := []) (bpc6_130_14 call _ z2 f2) hc ?_
              show RC call (mP 130) 52 [some (vR 0), some (vI 4), some (vI (z2 5)), some (vI x3)] [] (LPr z5 f5) res
              refine rc_b (i' := 53) (ls' := [some (vR 0), some (vI 4), some (vI (z2 5)), some (vI (x3 + 1))]) (st' := []) (L' := LPr z5 f5) 1 (bpc6_130_15 call 4 (z2 5) x3 _) ?_
              refine rc_b (i' := 6) (ls' := [some (vR 0), some (vI 4), some (vI (z2 5)), some (vI (x3 + 1))]) (st' := []) (L' := LPr z5 f5) 1 (bpc6_130_16 call 4 (z2 5) (x3 + 1) _) ?_
              exact H
            · have H := H.2 (cI0f q6)
              refine rc_b (i' := 39) (ls' := [some (vR 0), some (vI x1), some (vI (z2 5)), some (vI x3)]) (st' := [vI 45, vI (z2 5)]) (L' := LPr z2 f2) 3 (bpc6_130_26 call x1 (z2 5) x3 z2 f2) ?_
              refine rc_if (it := 42) (ie := 40) (ls' := [some (vR 0), some (vI x1), some (vI (z2 5)), some (vI x3)]) (st' := []) (bpc6_130_27 call (z2 5) 45 _ _) (fun q7 => ?_) (fun q7 => ?_)
              · have H := H.1 (cI0t q7)
                refine rc_b (i' := 45) (ls' := [some (vR 0), some (vI x1), some (vI (z2 5)), some (vI x3)]) (st' := [vI 43, vI (z2 5)]) (L' := LPr z2 f2) 3 (bpc6_130_23 call x1 (z2 5) x3 z2 f2) ?_
                refine rc_t (it := 48) (ie := 46) (ls' := [some (vR 0), some (vI x1), some (vI (z2 5)), some (vI x3)]) (st' := []) (bpc6_130_24 call (z2 5) 43 _ _) (pNt (cI0f q6)) ?_
                refine rc_b (i' := 51) (ls' := [some (vR 0), some (vI 5), some (vI (z2 5)), some (vI x3)]) (st' := [vR 0]) (L' := LPr z2 f2) 3 (bpc6_130_28 call x1 (z2 5) x3 _) ?_
                obtain ⟨z6, f6, hc, H⟩ := H
                refine rc_call (t := 52) (ls' := [some (vR 0), some (vI 5), some (vI (z2 5)), some (vI x3)]) (st' := []) (bpc6_130_14 call _ z2 f2) hc ?_
                show RC call (mP 130) 52 [some (vR 0), some (vI 5), some (vI (z2 5)), some (vI x3)] [] (LPr z6 f6) res
                refine rc_b (i' := 53) (ls' := [some (vR 0), some (vI 5), some (vI (z2 5)), some (vI (x3 + 1))]) (st' := []) (L' := LPr z6 f6) 1 (bpc6_130_15 call 5 (z2 5) x3 _) ?_
                refine rc_b (i' := 6) (ls' := [some (vR 0), some (vI 5), some (vI (z2 5)), some (vI (x3 + 1))]) (st' := []) (L' := LPr z6 f6) 1 (bpc6_130_16 call 5 (z2 5) (x3 + 1) _) ?_
                exact H
              · have H := H.2 (cI0f q7)
                refine rc_b (i' := 41) (ls' := [some (vR 0), some (vI x1), some (vI (z2 5)), some (vI x3)]) (st' := [vI 1]) (L' := LPr z2 f2) 1 (bpc6_130_29 call x1 (z2 5) x3 _) ?_
                subst H
                exact rc_ret (bpc6_130_30 call _ _)
          · have H := H.2 (cI0f q5)
            refine rc_b (i' := 31) (ls' := [some (vR 0), some (vI x1), some (vI (z2 5)), some (vI x3)]) (st' := [vI 0, vI x1, vR 0]) (L' := LPr z2 f2) 3 (bpc6_130_31 call x1 (z2 5) x3 _) ?_
            obtain ⟨z7, f7, hc, H⟩ := H
            refine rc_call (t := 32) (ls' := [some (vR 0), some (vI x1), some (vI (z2 5)), some (vI x3)]) (st' := []) (bpc6_130_32 call x1 0 _ z2 f2) hc ?_
            show RC call (mP 130) 32 [some (vR 0), some (vI x1), some (vI (z2 5)), some (vI x3)] [] (LPr z7 f7) res
            refine rc_b (i' := 35) (ls' := [some (vR 0), some (vI x1), some (vI (z2 5)), some (vI x3)]) (st' := [vI 43, vI (z7 5)]) (L' := LPr z7 f7) 3 (bpc6_130_21 call x1 (z2 5) x3 z7 f7) ?_
            refine rc_if (it := 42) (ie := 36) (ls' := [some (vR 0), some (vI x1), some (vI (z2 5)), some (vI x3)]) (st' := []) (bpc6_130_22 call (z7 5) 43 _ _) (fun q8 => ?_) (fun q8 => ?_)
            · have H := H.1 (cI0t q8)
              refine rc_b (i' := 45) (ls' := [some (vR 0), some (vI x1), some (vI (z2 5)), some (vI x3)]) (st' := [vI 43, vI (z7 5)]) (L' := LPr z7 f7) 3 (bpc6_130_23 call x1 (z2 5) x3 z7 f7) ?_
              refine rc_f (it := 48) (ie := 46) (ls' := [some (vR 0), some (vI x1), some (vI (z2 5)), some (vI x3)]) (st' := []) (bpc6_130_24 call (z7 5) 43 _ _) (pNf (cI0t q8)) ?_
              refine rc_b (i' := 51) (ls' := [some (vR 0), some (vI 4), some (vI (z2 5)), some (vI x3)]) (st' := [vR 0]) (L' := LPr z7 f7) 4 (bpc6_130_25 call x1 (z2 5) x3 _) ?_
              obtain ⟨z8, f8, hc, H⟩ := H
              refine rc_call (t := 52) (ls' := [some (vR 0), some (vI 4), some (vI (z2 5)), some (vI x3)]) (st' := []) (bpc6_130_14 call _ z7 f7) hc ?_
              show RC call (mP 130) 52 [some (vR 0), some (vI 4), some (vI (z2 5)), some (vI x3)] [] (LPr z8 f8) res
              refine rc_b (i' := 53) (ls' := [some (vR 0), some (vI 4), some (vI (z2 5)), some (vI (x3 + 1))]) (st' := []) (L' := LPr z8 f8) 1 (bpc6_130_15 call 4 (z2 5) x3 _) ?_
              refine rc_b (i' := 6) (ls' := [some (vR 0), some (vI 4), some (vI (z2 5)), some (vI (x3 + 1))]) (st' := []) (L' := LPr z8 f8) 1 (bpc6_130_16 call 4 (z2 5) (x3 + 1) _) ?_
              exact H
            · have H := H.2 (cI0f q8)
              refine rc_b (i' := 39) (ls' := [some (vR 0), some (vI x1), some (vI (z2 5)), some (vI x3)]) (st' := [vI 45, vI (z7 5)]) (L' := LPr z7 f7) 3 (bpc6_130_26 call x1 (z2 5) x3 z7 f7) ?_
              refine rc_if (it := 42) (ie := 40) (ls' := [some (vR 0), some (vI x1), some (vI (z2 5)), some (vI x3)]) (st' := []) (bpc6_130_27 call (z7 5) 45 _ _) (fun q9 => ?_) (fun q9 => ?_)
              · have H := H.1 (cI0t q9)
                refine rc_b (i' := 45) (ls' := [some (vR 0), some (vI x1), some (vI (z2 5)), some (vI x3)]) (st' := [vI 43, vI (z7 5)]) (L' := LPr z7 f7) 3 (bpc6_130_23 call x1 (z2 5) x3 z7 f7) ?_
                refine rc_t (it := 48) (ie := 46) (ls' := [some (vR 0), some (vI x1), some (vI (z2 5)), some (vI x3)]) (st' := []) (bpc6_130_24 call (z7 5) 43 _ _) (pNt (cI0f q8)) ?_
                refine rc_b (i' := 51) (ls' := [some (vR 0), some (vI 5), some (vI (z2 5)), some (vI x3)]) (st' := [vR 0]) (L' := LPr z7 f7) 3 (bpc6_130_28 call x1 (z2 5) x3 _) ?_
                obtain ⟨z9, f9, hc, H⟩ := H
                refine rc_call (t := 52) (ls' := [some (vR 0), some (vI 5), some (vI (z2 5)), some (vI x3)]) (st' := []) (bpc6_130_14 call _ z7 f7) hc ?_
                show RC call (mP 130) 52 [some (vR 0), some (vI 5), some (vI (z2 5)), some (vI x3)] [] (LPr z9 f9) res
                refine rc_b (i' := 53) (ls' := [some (vR 0), some (vI 5), some (vI (z2 5)), some (vI (x3 + 1))]) (st' := []) (L' := LPr z9 f9) 1 (bpc6_130_15 call 5 (z2 5) x3 _) ?_
                refine rc_b (i' := 6) (ls' := [some (vR 0), some (vI 5), some (vI (z2 5)), some (vI (x3 + 1))]) (st' := []) (L' := LPr z9 f9) 1 (bpc6_130_16 call 5 (z2 5) (x3 + 1) _) ?_
                exact H
              · have H := H.2 (cI0f q9)
                refine rc_b (i' := 41) (ls' := [some (vR 0), some (vI x1), some (vI (z2 5)), some (vI x3)]) (st' := [vI 1]) (L' := LPr z7 f7) 1 (bpc6_130_29 call x1 (z2 5) x3 _) ?_
                subst H
                exact rc_ret (bpc6_130_30 call _ _)
    · have H := H.2 (cI1f q2)
      refine rc_b (i' := 14) (ls' := [some (vR 0), some (vI x1), some (vI x2), some (vI x3)]) (st' := [vI 0]) (L' := LPr z1 f1) 1 (bpc6_130_33 call x1 x2 x3 _) ?_
      subst H
      exact rc_ret (bpc6_130_34 call _ _)
set_option maxRecDepth 100000 in
theorem bp132_1 (call : QC FA) (x1 : Int32) (o2 : Option PV) (o3 : Option PV) (z : Nat → Int32) (f : Nat → FA) (F : Nat) : rnG call 132 (F + 3) 0 [some (vR 0), some (vI x1), o2, o3] [] (LPr z f) = rnG call 132 F 3 [some (vR 0), some (vI x1), o2, o3] [vI 316, vI (z 5)] (LPr z f) := rfl
set_option maxRecDepth 100000 in
theorem bp132_2 (call : QC FA) (x y : Int32) (ls : List (Option PV)) (L : QH FA) (F : Nat) : rnG call 132 (F + 1) 3 ls [vI y, vI x] L = bif pcmp 1 x y then rnG call 132 F 6 ls [] L else rnG call 132 F 4 ls [] L := rfl
set_option maxRecDepth 100000 in
theorem bp132_3 (call : QC FA) (x1 : Int32) (o2 : Option PV) (o3 : Option PV) (L : QH FA) (F : Nat) : rnG call 132 (F + 3) 6 [some (vR 0), some (vI x1), o2, o3] [] L = rnG call 132 F 9 [some (vR 0), some (vI x1), some (vI 0), o3] [vI 0] L := rfl
set_option maxRecDepth 100000 in
theorem bp132_4 (call : QC FA) (x : Int32) (ls : List (Option PV)) (L : QH FA) (F : Nat) : rnG call 132 (F + 1) 9 ls [vI x] L = bif pcmp 1 x 0 then rnG call 132 F 14 ls [] L else rnG call 132 F 10 ls [] L := rfl
set_option maxRecDepth 100000 in
theorem bp132_5 (call : QC FA) (x1 : Int32) (x2 : Int32) (o3 : Option PV) (z : Nat → Int32) (f : Nat → FA) (F : Nat) : rnG call 132 (F + 3) 10 [some (vR 0), some (vI x1), some (vI x2), o3] [] (LPr z f) = rnG call 132 F 13 [some (vR 0), some (vI x1), some (vI x2), o3] [vI 40, vI (z 5)] (LPr z f) := rfl
set_option maxRecDepth 100000 in
theorem bp132_6 (call : QC FA) (x y : Int32) (ls : List (Option PV)) (L : QH FA) (F : Nat) : rnG call 132 (F + 1) 13 ls [vI y, vI x] L = bif pcmp 1 x y then rnG call 132 F 53 ls [] L else rnG call 132 F 14 ls [] L := rfl
set_option maxRecDepth 100000 in
theorem bp132_7 (call : QC FA) (x1 : Int32) (x2 : Int32) (o3 : Option PV) (L : QH FA) (F : Nat) : rnG call 132 (F + 1) 53 [some (vR 0), some (vI x1), some (vI x2), o3] [] L = rnG call 132 F 54 [some (vR 0), some (vI x1), some (vI x2), o3] [vR 0] L := rfl
set_option maxRecDepth 100000 in
theorem bp132_8 (call : QC FA) (ls : List (Option PV)) (z : Nat → Int32) (f : Nat → FA) (F : Nat) : rnG call 132 (F + 1) 54 ls [vR 0] (LPr z f) = cbd (call 130 [vR 0] (LPr z f)) (fun r L' => rnG call 132 F 55 ls (r.toList ++ []) L') := pcY (ih := rnG call 132 F) (call := call) (a := 130) (b := 0) (v := 5) (t := 55) (x := 0) (ls := ls) (As := []) (st' := []) (L := LPr z f) rfl rfl rfl
set_option maxRecDepth 100000 in
theorem bp132_9 (call : QC FA) (x : Int32) (ls : List (Option PV)) (L : QH FA) (F : Nat) : rnG call 132 (F + 1) 55 ls [vI x] L = bif pcmp 1 x 0 then rnG call 132 F 58 ls [] L else rnG call 132 F 56 ls [] L := rfl
set_option maxRecDepth 100000 in
theorem bp132_10 (call : QC FA) (x1 : Int32) (x2 : Int32) (o3 : Option PV) (z : Nat → Int32) (f : Nat → FA) (F : Nat) : rnG call 132 (F + 3) 58 [some (vR 0), some (vI x1), some (vI x2), o3] [] (LPr z f) = rnG call 132 F 61 [some (vR 0), some (vI x1), some (vI x2), o3] [vI 60, vI (z 5)] (LPr z f) := rfl
set_option maxRecDepth 100000 in
theorem bp132_11 (call : QC FA) (x y : Int32) (ls : List (Option PV)) (L : QH FA) (F : Nat) : rnG call 132 (F + 1) 61 ls [vI y, vI x] L = bif pcmp 0 x y then rnG call 132 F 74 ls [] L else rnG call 132 F 62 ls [] L := rfl
set_option maxRecDepth 100000 in
theorem bp132_12 (call : QC FA) (x1 : Int32) (x2 : Int32) (o3 : Option PV) (z : Nat → Int32) (f : Nat → FA) (F : Nat) : rnG call 132 (F + 8) 74 [some (vR 0), some (vI x1), some (vI x2), o3] [] (LPr z f) = rnG call 132 F 82 [some (vR 0), some (vI x1), some (vI x2), some (vI ((8 + (z 5)) - 61))] [vR 0] (LPr z f) := rfl
set_option maxRecDepth 100000 in
theorem bp132_13 (call : QC FA) (ls : List (Option PV)) (z : Nat → Int32) (f : Nat → FA) (F : Nat) : rnG call 132 (F + 1) 82 ls [vR 0] (LPr z f) = cbd (call 135 [vR 0] (LPr z f)) (fun r L' => rnG call 132 F 83 ls (r.toList ++ []) L') := pcY (ih := rnG call 132 F) (call := call) (a := 135) (b := 0) (v := 5) (t := 83) (x := 0) (ls := ls) (As := []) (st' := []) (L := LPr z f) rfl rfl rfl
set_option maxRecDepth 100000 in
theorem bp132_14 (call : QC FA) (x1 : Int32) (x2 : Int32) (x3 : Int32) (L : QH FA) (F : Nat) : rnG call 132 (F + 1) 83 [some (vR 0), some (vI x1), some (vI x2), some (vI x3)] [] L = rnG call 132 F 84 [some (vR 0), some (vI x1), some (vI x2), some (vI x3)] [vR 0] L := rfl
set_option maxRecDepth 100000 in
theorem bp132_15 (call : QC FA) (ls : List (Option PV)) (z : Nat → Int32) (f : Nat → FA) (F : Nat) : rnG call 132 (F + 1) 84 ls [vR 0] (LPr z f) = cbd (call 130 [vR 0] (LPr z f)) (fun r L' => rnG call 132 F 85 ls (r.toList ++ []) L') := pcY (ih := rnG call 132 F) (call := call) (a := 130) (b := 0) (v := 5) (t := 85) (x := 0) (ls := ls) (As := []) (st' := []) (L := LPr z f) rfl rfl rfl
set_option maxRecDepth 100000 in
theorem bp132_16 (call : QC FA) (x : Int32) (ls : List (Option PV)) (L : QH FA) (F : Nat) : rnG call 132 (F + 1) 85 ls [vI x] L = bif pcmp 1 x 0 then rnG call 132 F 88 ls [] L else rnG call 132 F 86 ls [] L := rfl
set_option maxRecDepth 100000 in
theorem bp132_17 (call : QC FA) (x1 : Int32) (x2 : Int32) (x3 : Int32) (L : QH FA) (F : Nat) : rnG call 132 (F + 3) 88 [some (vR 0), some (vI x1), some (vI x2), some (vI x3)] [] L = rnG call 132 F 91 [some (vR 0), some (vI x1), some (vI x2), some (vI x3)] [vI 0, vI x3, vR 0] L := rfl
set_option maxRecDepth 100000 in
theorem bp132_18 (call : QC FA) (a0 : Int32) (a1 : Int32) (ls : List (Option PV)) (z : Nat → Int32) (f : Nat → FA) (F : Nat) : rnG call 132 (F + 1) 91 ls [vI a1, vI a0, vR 0] (LPr z f) = cbd (call 121 [vR 0, vI a0, vI a1] (LPr z f)) (fun r L' => rnG call 132 F 92 ls (r.toList ++ []) L') := pcY (ih := rnG call 132 F) (call := call) (a := 121) (b := 2) (v := 5) (t := 92) (x := 0) (ls := ls) (As := [vI a0, vI a1]) (st' := []) (L := LPr z f) rfl rfl rfl
set_option maxRecDepth 100000 in
theorem bp132_19 (call : QC FA) (x1 : Int32) (x2 : Int32) (x3 : Int32) (L : QH FA) (F : Nat) : rnG call 132 (F + 1) 92 [some (vR 0), some (vI x1), some (vI x2), some (vI x3)] [] L = rnG call 132 F 93 [some (vR 0), some (vI x1), some (vI x2), some (vI x3)] [vI 1] L := rfl
set_option maxRecDepth 100000 in
theorem bp132_20 (call : QC FA) (ls : List (Option PV)) (L : QH FA) (F : Nat) : rnG call 132 (F + 1) 93 ls [vI 1] L = some (some (vI 1), L) := rfl
set_option maxRecDepth 100000 in
theorem bp132_21 (call : QC FA) (x1 : Int32) (x2 : Int32) (x3 : Int32) (L : QH FA) (F : Nat) : rnG call 132 (F + 1) 86 [some (vR 0), some (vI x1), some (vI x2), some (vI x3)] [] L = rnG call 132 F 87 [some (vR 0), some (vI x1), some (vI x2), some (vI x3)] [vI 0] L := rfl
set_option maxRecDepth 100000 in
theorem bp132_22 (call : QC FA) (ls : List (Option PV)) (L : QH FA) (F : Nat) : rnG call 132 (F + 1) 87 ls [vI 0] L = some (some (vI 0), L) := rfl
set_option maxRecDepth 100000 in
theorem bp132_23 (call : QC FA) (x1 : Int32) (x2 : Int32) (o3 : Option PV) (z : Nat → Int32) (f : Nat → FA) (F : Nat) : rnG call 132 (F + 3) 62 [some (vR 0), some (vI x1), some (vI x2), o3] [] (LPr z f) = rnG call 132 F 65 [some (vR 0), some (vI x1), some (vI x2), o3] [vI 61, vI (z 5)] (LPr z f) := rfl
set_option maxRecDepth 100000 in
theorem bp132_24 (call : QC FA) (x y : Int32) (ls : List (Option PV)) (L : QH FA) (F : Nat) : rnG call 132 (F + 1) 65 ls [vI y, vI x] L = bif pcmp 0 x y then rnG call 132 F 74 ls [] L else rnG call 132 F 66 ls [] L := rfl
set_option maxRecDepth 100000 in
theorem bp132_25 (call : QC FA) (x1 : Int32) (x2 : Int32) (o3 : Option PV) (z : Nat → Int32) (f : Nat → FA) (F : Nat) : rnG call 132 (F + 3) 66 [some (vR 0), some (vI x1), some (vI x2), o3] [] (LPr z f) = rnG call 132 F 69 [some (vR 0), some (vI x1), some (vI x2), o3] [vI 62, vI (z 5)] (LPr z f) := rfl
set_option maxRecDepth 100000 in
theorem bp132_26 (call : QC FA) (x y : Int32) (ls : List (Option PV)) (L : QH FA) (F : Nat) : rnG call 132 (F + 1) 69 ls [vI y, vI x] L = bif pcmp 0 x y then rnG call 132 F 74 ls [] L else rnG call 132 F 70 ls [] L := rfl
set_option maxRecDepth 100000 in
theorem bp132_27 (call : QC FA) (x1 : Int32) (x2 : Int32) (o3 : Option PV) (L : QH FA) (F : Nat) : rnG call 132 (F + 2) 70 [some (vR 0), some (vI x1), some (vI x2), o3] [] L = rnG call 132 F 72 [some (vR 0), some (vI x1), some (vI x2), o3] [vI 1, vR 0] L := rfl
set_option maxRecDepth 100000 in
theorem bp132_28 (call : QC FA) (a0 : Int32) (ls : List (Option PV)) (z : Nat → Int32) (f : Nat → FA) (F : Nat) : rnG call 132 (F + 1) 72 ls [vI a0, vR 0] (LPr z f) = cbd (call 138 [vR 0, vI a0] (LPr z f)) (fun r L' => rnG call 132 F 73 ls (r.toList ++ []) L') := pcY (ih := rnG call 132 F) (call := call) (a := 138) (b := 1) (v := 5) (t := 73) (x := 0) (ls := ls) (As := [vI a0]) (st' := []) (L := LPr z f) rfl rfl rfl
set_option maxRecDepth 100000 in
theorem bp132_29 (call : QC FA) (ls : List (Option PV)) (L : QH FA) (F : Nat) : rnG call 132 (F + 1) 73 ls [vI 0] L = some (some (vI 0), L) := rfl
set_option maxRecDepth 100000 in
theorem bp132_30 (call : QC FA) (x1 : Int32) (x2 : Int32) (o3 : Option PV) (L : QH FA) (F : Nat) : rnG call 132 (F + 1) 56 [some (vR 0), some (vI x1), some (vI x2), o3] [] L = rnG call 132 F 57 [some (vR 0), some (vI x1), some (vI x2), o3] [vI 0] L := rfl
set_option maxRecDepth 100000 in
theorem bp132_31 (call : QC FA) (ls : List (Option PV)) (L : QH FA) (F : Nat) : rnG call 132 (F + 1) 57 ls [vI 0] L = some (some (vI 0), L) := rfl
set_option maxRecDepth 100000 in
theorem bp132_32 (call : QC FA) (x1 : Int32) (x2 : Int32) (o3 : Option PV) (L : QH FA) (F : Nat) : rnG call 132 (F + 2) 14 [some (vR 0), some (vI x1), some (vI x2), o3] [] L = rnG call 132 F 16 [some (vR 0), some (vI x1), some (vI x2), o3] [vI 8, vI x1] L := rfl
set_option maxRecDepth 100000 in
theorem bp132_33 (call : QC FA) (x y : Int32) (ls : List (Option PV)) (L : QH FA) (F : Nat) : rnG call 132 (F + 1) 16 ls [vI y, vI x] L = bif pcmp 2 x y then rnG call 132 F 21 ls [] L else rnG call 132 F 17 ls [] L := rfl
set_option maxRecDepth 100000 in
theorem bp132_34 (call : QC FA) (x1 : Int32) (x2 : Int32) (o3 : Option PV) (L : QH FA) (F : Nat) : rnG call 132 (F + 1) 21 [some (vR 0), some (vI x1), some (vI x2), o3] [] L = rnG call 132 F 22 [some (vR 0), some (vI x1), some (vI x2), o3] [vR 0] L := rfl
set_option maxRecDepth 100000 in
theorem bp132_35 (call : QC FA) (ls : List (Option PV)) (z : Nat → Int32) (f : Nat → FA) (F : Nat) : rnG call 132 (F + 1) 22 ls [vR 0] (LPr z f) = cbd (call 135 [vR 0] (LPr z f)) (fun r L' => rnG call 132 F 23 ls (r.toList ++ []) L') := pcY (ih := rnG call 132 F) (call := call) (a := 135) (b := 0) (v := 5) (t := 23) (x := 0) (ls := ls) (As := []) (st' := []) (L := LPr z f) rfl rfl rfl
set_option maxRecDepth 100000 in
theorem bp132_36 (call : QC FA) (x1 : Int32) (x2 : Int32) (o3 : Option PV) (L : QH FA) (F : Nat) : rnG call 132 (F + 1) 23 [some (vR 0), some (vI x1), some (vI x2), o3] [] L = rnG call 132 F 24 [some (vR 0), some (vI x1), some (vI x2), o3] [vI x2] L := rfl
set_option maxRecDepth 100000 in
theorem bp132_37 (call : QC FA) (x : Int32) (ls : List (Option PV)) (L : QH FA) (F : Nat) : rnG call 132 (F + 1) 24 ls [vI x] L = bif pcmp 1 x 0 then rnG call 132 F 39 ls [] L else rnG call 132 F 25 ls [] L := rfl
set_option maxRecDepth 100000 in
theorem bp132_38 (call : QC FA) (x1 : Int32) (x2 : Int32) (o3 : Option PV) (L : QH FA) (F : Nat) : rnG call 132 (F + 4) 25 [some (vR 0), some (vI x1), some (vI x2), o3] [] L = rnG call 132 F 29 [some (vR 0), some (vI x1), some (vI x2), o3] [vI (x1 + 1), vR 0] L := rfl
set_option maxRecDepth 100000 in
theorem bp132_39 (call : QC FA) (a0 : Int32) (ls : List (Option PV)) (z : Nat → Int32) (f : Nat → FA) (F : Nat) : rnG call 132 (F + 1) 29 ls [vI a0, vR 0] (LPr z f) = cbd (call 129 [vR 0, vI a0] (LPr z f)) (fun r L' => rnG call 132 F 30 ls (r.toList ++ []) L') := pcY (ih := rnG call 132 F) (call := call) (a := 129) (b := 1) (v := 5) (t := 30) (x := 0) (ls := ls) (As := [vI a0]) (st' := []) (L := LPr z f) rfl rfl rfl
set_option maxRecDepth 100000 in
theorem bp132_40 (call : QC FA) (x : Int32) (ls : List (Option PV)) (L : QH FA) (F : Nat) : rnG call 132 (F + 1) 30 ls [vI x] L = bif pcmp 0 x 0 then rnG call 132 F 37 ls [] L else rnG call 132 F 31 ls [] L := rfl
set_option maxRecDepth 100000 in
theorem bp132_41 (call : QC FA) (x1 : Int32) (x2 : Int32) (o3 : Option PV) (L : QH FA) (F : Nat) : rnG call 132 (F + 1) 37 [some (vR 0), some (vI x1), some (vI x2), o3] [] L = rnG call 132 F 38 [some (vR 0), some (vI x1), some (vI x2), o3] [vI 0] L := rfl
set_option maxRecDepth 100000 in
theorem bp132_42 (call : QC FA) (ls : List (Option PV)) (L : QH FA) (F : Nat) : rnG call 132 (F + 1) 38 ls [vI 0] L = some (some (vI 0), L) := rfl
set_option maxRecDepth 100000 in
theorem bp132_43 (call : QC FA) (x1 : Int32) (x2 : Int32) (o3 : Option PV) (L : QH FA) (F : Nat) : rnG call 132 (F + 2) 31 [some (vR 0), some (vI x1), some (vI x2), o3] [] L = rnG call 132 F 33 [some (vR 0), some (vI x1), some (vI x2), o3] [vI 41, vR 0] L := rfl
set_option maxRecDepth 100000 in
theorem bp132_44 (call : QC FA) (a0 : Int32) (ls : List (Option PV)) (z : Nat → Int32) (f : Nat → FA) (F : Nat) : rnG call 132 (F + 1) 33 ls [vI a0, vR 0] (LPr z f) = cbd (call 133 [vR 0, vI a0] (LPr z f)) (fun r L' => rnG call 132 F 34 ls (r.toList ++ []) L') := pcY (ih := rnG call 132 F) (call := call) (a := 133) (b := 1) (v := 5) (t := 34) (x := 0) (ls := ls) (As := [vI a0]) (st' := []) (L := LPr z f) rfl rfl rfl
set_option maxRecDepth 100000 in
theorem bp132_45 (call : QC FA) (x : Int32) (ls : List (Option PV)) (L : QH FA) (F : Nat) : rnG call 132 (F + 1) 34 ls [vI x] L = bif pcmp 0 x 0 then rnG call 132 F 37 ls [] L else rnG call 132 F 35 ls [] L := rfl
set_option maxRecDepth 100000 in
theorem bp132_46 (call : QC FA) (x1 : Int32) (x2 : Int32) (o3 : Option PV) (L : QH FA) (F : Nat) : rnG call 132 (F + 2) 35 [some (vR 0), some (vI x1), some (vI x2), o3] [] L = rnG call 132 F 38 [some (vR 0), some (vI x1), some (vI x2), o3] [vI 1] L := rfl
set_option maxRecDepth 100000 in
theorem bp132_47 (call : QC FA) (ls : List (Option PV)) (L : QH FA) (F : Nat) : rnG call 132 (F + 1) 38 ls [vI 1] L = some (some (vI 1), L) := rfl
set_option maxRecDepth 100000 in
theorem bp132_48 (call : QC FA) (x1 : Int32) (x2 : Int32) (o3 : Option PV) (L : QH FA) (F : Nat) : rnG call 132 (F + 2) 17 [some (vR 0), some (vI x1), some (vI x2), o3] [] L = rnG call 132 F 19 [some (vR 0), some (vI x1), some (vI x2), o3] [vI 3, vR 0] L := rfl
set_option maxRecDepth 100000 in
theorem bp132_49 (call : QC FA) (a0 : Int32) (ls : List (Option PV)) (z : Nat → Int32) (f : Nat → FA) (F : Nat) : rnG call 132 (F + 1) 19 ls [vI a0, vR 0] (LPr z f) = cbd (call 138 [vR 0, vI a0] (LPr z f)) (fun r L' => rnG call 132 F 20 ls (r.toList ++ []) L') := pcY (ih := rnG call 132 F) (call := call) (a := 138) (b := 1) (v := 5) (t := 20) (x := 0) (ls := ls) (As := [vI a0]) (st' := []) (L := LPr z f) rfl rfl rfl
set_option maxRecDepth 100000 in
theorem bp132_50 (call : QC FA) (ls : List (Option PV)) (L : QH FA) (F : Nat) : rnG call 132 (F + 1) 20 ls [vI 0] L = some (some (vI 0), L) := rfl
set_option maxRecDepth 100000 in
theorem bp132_51 (call : QC FA) (x1 : Int32) (o2 : Option PV) (o3 : Option PV) (L : QH FA) (F : Nat) : rnG call 132 (F + 4) 4 [some (vR 0), some (vI x1), o2, o3] [] L = rnG call 132 F 9 [some (vR 0), some (vI x1), some (vI 1), o3] [vI 1] L := rfl
set_option maxRecDepth 100000 in
theorem bp132_52 (call : QC FA) (x1 : Int32) (x2 : Int32) (o3 : Option PV) (L : QH FA) (F : Nat) : rnG call 132 (F + 4) 39 [some (vR 0), some (vI x1), some (vI x2), o3] [] L = rnG call 132 F 43 [some (vR 0), some (vI x1), some (vI x2), o3] [vI (x1 + 1), vR 0] L := rfl
set_option maxRecDepth 100000 in
theorem bp132_53 (call : QC FA) (a0 : Int32) (ls : List (Option PV)) (z : Nat → Int32) (f : Nat → FA) (F : Nat) : rnG call 132 (F + 1) 43 ls [vI a0, vR 0] (LPr z f) = cbd (call 132 [vR 0, vI a0] (LPr z f)) (fun r L' => rnG call 132 F 44 ls (r.toList ++ []) L') := pcY (ih := rnG call 132 F) (call := call) (a := 132) (b := 1) (v := 5) (t := 44) (x := 0) (ls := ls) (As := [vI a0]) (st' := []) (L := LPr z f) rfl rfl rfl
set_option maxRecDepth 100000 in
theorem bp132_54 (call : QC FA) (x : Int32) (ls : List (Option PV)) (L : QH FA) (F : Nat) : rnG call 132 (F + 1) 44 ls [vI x] L = bif pcmp 1 x 0 then rnG call 132 F 47 ls [] L else rnG call 132 F 45 ls [] L := rfl
set_option maxRecDepth 100000 in
theorem bp132_55 (call : QC FA) (x1 : Int32) (x2 : Int32) (o3 : Option PV) (L : QH FA) (F : Nat) : rnG call 132 (F + 3) 47 [some (vR 0), some (vI x1), some (vI x2), o3] [] L = rnG call 132 F 50 [some (vR 0), some (vI x1), some (vI x2), o3] [vI 0, vI 3, vR 0] L := rfl
set_option maxRecDepth 100000 in
theorem bp132_56 (call : QC FA) (a0 : Int32) (a1 : Int32) (ls : List (Option PV)) (z : Nat → Int32) (f : Nat → FA) (F : Nat) : rnG call 132 (F + 1) 50 ls [vI a1, vI a0, vR 0] (LPr z f) = cbd (call 121 [vR 0, vI a0, vI a1] (LPr z f)) (fun r L' => rnG call 132 F 51 ls (r.toList ++ []) L') := pcY (ih := rnG call 132 F) (call := call) (a := 121) (b := 2) (v := 5) (t := 51) (x := 0) (ls := ls) (As := [vI a0, vI a1]) (st' := []) (L := LPr z f) rfl rfl rfl
set_option maxRecDepth 100000 in
theorem bp132_57 (call : QC FA) (x1 : Int32) (x2 : Int32) (o3 : Option PV) (L : QH FA) (F : Nat) : rnG call 132 (F + 1) 51 [some (vR 0), some (vI x1), some (vI x2), o3] [] L = rnG call 132 F 52 [some (vR 0), some (vI x1), some (vI x2), o3] [vI 1] L := rfl
set_option maxRecDepth 100000 in
theorem bp132_58 (call : QC FA) (ls : List (Option PV)) (L : QH FA) (F : Nat) : rnG call 132 (F + 1) 52 ls [vI 1] L = some (some (vI 1), L) := rfl
set_option maxRecDepth 100000 in
theorem bp132_59 (call : QC FA) (x1 : Int32) (x2 : Int32) (o3 : Option PV) (L : QH FA) (F : Nat) : rnG call 132 (F + 1) 45 [some (vR 0), some (vI x1), some (vI x2), o3] [] L = rnG call 132 F 46 [some (vR 0), some (vI x1), some (vI x2), o3] [vI 0] L := rfl
set_option maxRecDepth 100000 in
theorem bp132_60 (call : QC FA) (ls : List (Option PV)) (L : QH FA) (F : Nat) : rnG call 132 (F + 1) 46 ls [vI 0] L = some (some (vI 0), L) := rfl
theorem vcp132_0 (call : QC FA) (hw : ∀ (a : Int32) (z : Nat → Int32) (f : Nat → FA), call 138 [vR 0, vI a] (LPr z f) = some (some (vI 0), LPr (uZ (uZ z 7 a) 8 (z 3)) f)) (x1 : Int32) (o2 : Option PV) (o3 : Option PV) (z : Nat → Int32) (f : Nat → FA) (res : Option PV × QH FA) (H : ((¬ z 5 = 316 → ((¬ z 5 = 40 → (∃ (r1 : Int32) (z1 : Nat → Int32) (f1 : Nat → FA), call 130 [vR 0] (LPr z f) = some (some (vI r1), LPr z1 f1) ∧ ((¬ r1 = 0 → ((z1 5 = 60 → (∃ (z2 : Nat → Int32) (f2 : Nat → FA), call 135 [vR 0] (LPr z1 f1) = some (none, LPr z2 f2) ∧ (∃ (r3 : Int32) (z3 : Nat → Int32) (f3 : Nat → FA), call 130 [vR 0] (LPr z2 f2) = some (some (vI r3), LPr z3 f3) ∧ ((¬ r3 = 0 → (∃ (z4 : Nat → Int32) (f4 : Nat → FA), call 121 [vR 0, vI ((8 + (z1 5)) - 61), vI 0] (LPr z3 f3) = some (none, LPr z4 f4) ∧ res = (some (vI 1), LPr z4 f4))) ∧ (r3 = 0 → res = (some (vI 0), LPr z3 f3)))))) ∧ (¬ z1 5 = 60 → ((z1 5 = 61 → (∃ (z5 : Nat → Int32) (f5 : Nat → FA), call 135 [vR 0] (LPr z1 f1) = some (none, LPr z5 f5) ∧ (∃ (r6 : Int32) (z6 : Nat → Int32) (f6 : Nat → FA), call 130 [vR 0] (LPr z5 f5) = some (some (vI r6), LPr z6 f6) ∧ ((¬ r6 = 0 → (∃ (z7 : Nat → Int32) (f7 : Nat → FA), call 121 [vR 0, vI ((8 + (z1 5)) - 61), vI 0] (LPr z6 f6) = some (none, LPr z7 f7) ∧ res = (some (vI 1), LPr z7 f7))) ∧ (r6 = 0 → res = (some (vI 0), LPr z6 f6)))))) ∧ (¬ z1 5 = 61 → ((z1 5 = 62 → (∃ (z8 : Nat → Int32) (f8 : Nat → FA), call 135 [vR 0] (LPr z1 f1) = some (none, LPr z8 f8) ∧ (∃ (r9 : Int32) (z9 : Nat → Int32) (f9 : Nat → FA), call 130 [vR 0] (LPr z8 f8) = some (some (vI r9), LPr z9 f9) ∧ ((¬ r9 = 0 → (∃ (z10 : Nat → Int32) (f10 : Nat → FA), call 121 [vR 0, vI ((8 + (z1 5)) - 61), vI 0] (LPr z9 f9) = some (none, LPr z10 f10) ∧ res = (some (vI 1), LPr z10 f10))) ∧ (r9 = 0 → res = (some (vI 0), LPr z9 f9)))))) ∧ (¬ z1 5 = 62 → res = (some (vI 0), LPr (uZ (uZ z1 7 1) 8 (z1 3)) f1)))))))) ∧ (r1 = 0 → res = (some (vI 0), LPr z1 f1))))) ∧ (z 5 = 40 → ((I x1 < 8 → (∃ (z11 : Nat → Int32) (f11 : Nat → FA), call 135 [vR 0] (LPr z f) = some (none, LPr z11 f11) ∧ (∃ (r12 : Int32) (z12 : Nat → Int32) (f12 : Nat → FA), call 129 [vR 0, vI (x1 + 1)] (LPr z11 f11) = some (some (vI r12), LPr z12 f12) ∧ ((r12 = 0 → res = (some (vI 0), LPr z12 f12)) ∧ (¬ r12 = 0 → (∃ (r13 : Int32) (z13 : Nat → Int32) (f13 : Nat → FA), call 133 [vR 0, vI 41] (LPr z12 f12) = some (some (vI r13), LPr z13 f13) ∧ ((r13 = 0 → res = (some (vI 0), LPr z13 f13)) ∧ (¬ r13 = 0 → res = (some (vI 1), LPr z13 f13))))))))) ∧ (8 ≤ I x1 → res = (some (vI 0), LPr (uZ (uZ z 7 3) 8 (z 3)) f)))))) ∧ (z 5 = 316 → ((I x1 < 8 → (∃ (z14 : Nat → Int32) (f14 : Nat → FA), call 135 [vR 0] (LPr z f) = some (none, LPr z14 f14) ∧ (∃ (r15 : Int32) (z15 : Nat → Int32) (f15 : Nat → FA), call 132 [vR 0, vI (x1 + 1)] (LPr z14 f14) = some (some (vI r15), LPr z15 f15) ∧ ((¬ r15 = 0 → (∃ (z16 : Nat → Int32) (f16 : Nat → FA), call 121 [vR 0, vI 3, vI 0] (LPr z15 f15) = some (none, LPr z16 f16) ∧ res = (some (vI 1), LPr z16 f16))) ∧ (r15 = 0 → res = (some (vI 0), LPr z15 f15)))))) ∧ (8 ≤ I x1 → res = (some (vI 0), LPr (uZ (uZ z 7 3) 8 (z 3)) f)))))) : RC call (mP 132) 0 [some (vR 0), some (vI x1), o2, o3] [] (LPr z f) res := by
  refine rc_b (i' := 3) (ls' := [some (vR 0), some (vI x1), o2, o3]) (st' := [vI 316, vI (z 5)]) (L' := LPr z f) 3 (bp132_1 call x1 o2 o3 z f) ?_
  refine rc_if (it := 6) (ie := 4) (ls' := [some (vR 0), some (vI x1), o2, o3]) (st' := []) (bp132_2 call (z 5) 316 _ _) (fun q1 => ?_) (fun q1 => ?_)
  · have H := H.1 (cI1t q1)
    refine rc_b (i' := 9) (ls' := [some (vR 0), some (vI x1), some (vI 0), o3]) (st' := [vI 0]) (L' := LPr z f) 3 (bp132_3 call x1 o2 o3 _) ?_
    refine rc_f (it := 14) (ie := 10) (ls' := [some (vR 0), some (vI x1), some (vI 0), o3]) (st' := []) (bp132_4 call 0 _ _) (by decide) ?_
    refine rc_b (i' := 13) (ls' := [some (vR 0), some (vI x1), some (vI 0), o3]) (st' := [vI 40, vI (z 5)]) (L' := LPr z f) 3 (bp132_5 call x1 0 o3 z f) ?_
    refine rc_if (it := 53) (ie := 14) (ls' := [some (vR 0), some (vI x1), some (vI 0), o3]) (st' := []) (bp132_6 call (z 5) 40 _ _) (fun q2 => ?_) (fun q2 => ?_)
    · have H := H.1 (cI1t q2)
      refine rc_b (i' := 54) (ls' := [some (vR 0), some (vI x1), some (vI 0), o3]) (st' := [vR 0]) (L' := LPr z f) 1 (bp132_7 call x1 0 o3 _) ?_
      obtain ⟨r1, z1, f1, hc, H⟩ := H
      refine rc_call (t := 55) (ls' := [some (vR 0), some (vI x1), some (vI 0), o3]) (st' := []) (bp132_8 call _ z f) hc ?_
      show RC call (mP 132) 55 [some (vR 0), some (vI x1), some (vI 0), o3] [vI r1] (LPr z1 f1) res
      refine rc_if (it := 58) (ie := 56) (ls' := [some (vR 0), some (vI x1), some (vI 0), o3]) (st' := []) (bp132_9 call r1 _ _) (fun q3 => ?_) (fun q3 => ?_)
      · have H := H.1 (cI1t q3)
        refine rc_b (i' := 61) (ls' := [some (vR 0), some (vI x1), some (vI 0), o3]) (st' := [vI 60, vI (z1 5)]) (L' := LPr z1 f1) 3 (bp132_10 call x1 0 o3 z1 f1) ?_
        refine rc_if (it := 74) (ie := 62) (ls' := [some (vR 0), some (vI x1), some (vI 0), o3]) (st' := []) (bp132_11 call (z1 5) 60 _ _) (fun q4 => ?_) (fun q4 => ?_)
        · have H := H.1 (cI0t q4)
          refine rc_b (i' := 82) (ls' := [some (vR 0), some (vI x1), some (vI 0), some (vI ((8 + (z1 5)) - 61))]) (st' := [vR 0]) (L' := LPr z1 f1) 8 (bp132_12 call x1 0 o3 z1 f1) ?_
          obtain ⟨z2, f2, hc, H⟩ := H
          refine rc_call (t := 83) (ls' := [some (vR 0), some (vI x1), some (vI 0), some (vI ((8 + (z1 5)) - 61))]) (st' := []) (bp132_13 call _ z1 f1) hc ?_
          show RC call (mP 132) 83 [some (vR 0), some (vI x1), some (vI 0), some (vI ((8 + (z1 5)) - 61))] [] (LPr z2 f2) res
          refine rc_b (i' := 84) (ls' := [some (vR 0), some (vI x1), some (vI 0), some (vI ((8 + (z1 5)) - 61))]) (st' := [vR 0]) (L' := LPr z2 f2) 1 (bp132_14 call x1 0 ((8 + (z1 5)) - 61) _) ?_
          obtain ⟨r3, z3, f3, hc, H⟩ := H
          refine rc_call (t := 85) (ls' := [some (vR 0), some (vI x1), some (vI 0), some (vI ((8 + (z1 5)) - 61))]) (st' := []) (bp132_15 call _ z2 f2) hc ?_
          show RC call (mP 132) 85 [some (vR 0), some (vI x1), some (vI 0), some (vI ((8 + (z1 5)) - 61))] [vI r3] (LPr z3 f3) res
          refine rc_if (it := 88) (ie := 86) (ls' := [some (vR 0), some (vI x1), some (vI 0), some (vI ((8 + (z1 5)) - 61))]) (st' := []) (bp132_16 call r3 _ _) (fun q5 => ?_) (fun q5 => ?_)
          · have H := H.1 (cI1t q5)
            refine rc_b (i' := 91) (ls' := [some (vR 0), some (vI x1), some (vI 0), some (vI ((8 + (z1 5)) - 61))]) (st' := [vI 0, vI ((8 + (z1 5)) - 61), vR 0]) (L' := LPr z3 f3) 3 (bp132_17 call x1 0 ((8 + (z1 5)) - 61) _) ?_
            obtain ⟨z4, f4, hc, H⟩ := H
            refine rc_call (t := 92) (ls' := [some (vR 0), some (vI x1), some (vI 0), some (vI ((8 + (z1 5)) - 61))]) (st' := []) (bp132_18 call ((8 + (z1 5)) - 61) 0 _ z3 f3) hc ?_
            show RC call (mP 132) 92 [some (vR 0), some (vI x1), some (vI 0), some (vI ((8 + (z1 5)) - 61))] [] (LPr z4 f4) res
            refine rc_b (i' := 93) (ls' := [some (vR 0), some (vI x1), some (vI 0), some (vI ((8 + (z1 5)) - 61))]) (st' := [vI 1]) (L' := LPr z4 f4) 1 (bp132_19 call x1 0 ((8 + (z1 5)) - 61) _) ?_
            subst H
            exact rc_ret (bp132_20 call _ _)
          · have H := H.2 (cI1f q5)
            refine rc_b (i' := 87) (ls' := [some (vR 0), some (vI x1), some (vI 0), some (vI ((8 + (z1 5)) - 61))]) (st' := [vI 0]) (L' := LPr z3 f3) 1 (bp132_21 call x1 0 ((8 + (z1 5)) - 61) _) ?_
            subst H
            exact rc_ret (bp132_22 call _ _)
        · have H := H.2 (cI0f q4)
          refine rc_b (i' := 65) (ls' := [some (vR 0), some (vI x1), some (vI 0), o3]) (st' := [vI 61, vI (z1 5)]) (L' := LPr z1 f1) 3 (bp132_23 call x1 0 o3 z1 f1) ?_
          refine rc_if (it := 74) (ie := 66) (ls' := [some (vR 0), some (vI x1), some (vI 0), o3]) (st' := []) (bp132_24 call (z1 5) 61 _ _) (fun q6 => ?_) (fun q6 => ?_)
          · have H := H.1 (cI0t q6)
            refine rc_b (i' := 82) (ls' := [some (vR 0), some (vI x1), some (vI 0), some (vI ((8 + (z1 5)) - 61))]) (st' := [vR 0]) (L' := LPr z1 f1) 8 (bp132_12 call x1 0 o3 z1 f1) ?_
            obtain ⟨z5, f5, hc, H⟩ := H
            refine rc_call (t := 83) (ls' := [some (vR 0), some (vI x1), some (vI 0), some (vI ((8 + (z1 5)) - 61))]) (st' := []) (bp132_13 call _ z1 f1) hc ?_
            show RC call (mP 132) 83 [some (vR 0), some (vI x1), some (vI 0), some (vI ((8 + (z1 5)) - 61))] [] (LPr z5 f5) res
            refine rc_b (i' := 84) (ls' := [some (vR 0), some (vI x1), some (vI 0), some (vI ((8 + (z1 5)) - 61))]) (st' := [vR 0]) (L' := LPr z5 f5) 1 (bp132_14 call x1 0 ((8 + (z1 5)) - 61) _) ?_
            obtain ⟨r6, z6, f6, hc, H⟩ := H
            refine rc_call (t := 85) (ls' := [some (vR 0), some (vI x1), some (vI 0), some (vI ((8 + (z1 5)) - 61))]) (st' := []) (bp132_15 call _ z5 f5) hc ?_
            show RC call (mP 132) 85 [some (vR 0), some (vI x1), some (vI 0), some (vI ((8 + (z1 5)) - 61))] [vI r6] (LPr z6 f6) res
            refine rc_if (it := 88) (ie := 86) (ls' := [some (vR 0), some (vI x1), some (vI 0), some (vI ((8 + (z1 5)) - 61))]) (st' := []) (bp132_16 call r6 _ _) (fun q7 => ?_) (fun q7 => ?_)
            · have H := H.1 (cI1t q7)
              refine rc_b (i' := 91) (ls' := [some (vR 0), some (vI x1), some (vI 0), some (vI ((8 + (z1 5)) - 61))]) (st' := [vI 0, vI ((8 + (z1 5)) - 61), vR 0]) (L' := LPr z6 f6) 3 (bp132_17 call x1 0 ((8 + (z1 5)) - 61) _) ?_
              obtain ⟨z7, f7, hc, H⟩ := H
              refine rc_call (t := 92) (ls' := [some (vR 0), some (vI x1), some (vI 0), some (vI ((8 + (z1 5)) - 61))]) (st' := []) (bp132_18 call ((8 + (z1 5)) - 61) 0 _ z6 f6) hc ?_
              show RC call (mP 132) 92 [some (vR 0), some (vI x1), some (vI 0), some (vI ((8 + (z1 5)) - 61))] [] (LPr z7 f7) res
              refine rc_b (i' := 93) (ls' := [some (vR 0), some (vI x1), some (vI 0), some (vI ((8 + (z1 5)) - 61))]) (st' := [vI 1]) (L' := LPr z7 f7) 1 (bp132_19 call x1 0 ((8 + (z1 5)) - 61) _) ?_
              subst H
              exact rc_ret (bp132_20 call _ _)
            · have H := H.2 (cI1f q7)
              refine rc_b (i' := 87) (ls' := [some (vR 0), some (vI x1), some (vI 0), some (vI ((8 + (z1 5)) - 61))]) (st' := [vI 0]) (L' := LPr z6 f6) 1 (bp132_21 call x1 0 ((8 + (z1 5)) - 61) _) ?_
              subst H
              exact rc_ret (bp132_22 call _ _)
          · have H := H.2 (cI0f q6)
            refine rc_b (i' := 69) (ls' := [some (vR 0), some (vI x1), some (vI 0), o3]) (st' := [vI 62, vI (z1 5)]) (L' := LPr z1 f1) 3 (bp132_25 call x1 0 o3 z1 f1) ?_
            refine rc_if (it := 74) (ie := 70) (ls' := [some (vR 0), some (vI x1), some (vI 0), o3]) (st' := []) (bp132_26 call (z1 5) 62 _ _) (fun q8 => ?_) (fun q8 => ?_)
            · have H := H.1 (cI0t q8)
              refine rc_b (i' := 82) (ls' := [some (vR 0), some (vI x1), some (vI 0), some (vI ((8 + (z1 5)) - 61))]) (st' := [vR 0]) (L' := LPr z1 f1) 8 (bp132_12 call x1 0 o3 z1 f1) ?_
              obtain ⟨z8, f8, hc, H⟩ := H
              refine rc_call (t := 83) (ls' := [some (vR 0), some (vI x1), some (vI 0), some (vI ((8 + (z1 5)) - 61))]) (st' := []) (bp132_13 call _ z1 f1) hc ?_
              show RC call (mP 132) 83 [some (vR 0), some (vI x1), some (vI 0), some (vI ((8 + (z1 5)) - 61))] [] (LPr z8 f8) res
              refine rc_b (i' := 84) (ls' := [some (vR 0), some (vI x1), some (vI 0), some (vI ((8 + (z1 5)) - 61))]) (st' := [vR 0]) (L' := LPr z8 f8) 1 (bp132_14 call x1 0 ((8 + (z1 5)) - 61) _) ?_
              obtain ⟨r9, z9, f9, hc, H⟩ := H
              refine rc_call (t := 85) (ls' := [some (vR 0), some (vI x1), some (vI 0), some (vI ((8 + (z1 5)) - 61))]) (st' := []) (bp132_15 call _ z8 f8) hc ?_
              show RC call (mP 132) 85 [some (vR 0), some (vI x1), some (vI 0), some (vI ((8 + (z1 5)) - 61))] [vI r9] (LPr z9 f9) res
              refine rc_if (it := 88) (ie := 86) (ls' := [some (vR 0), some (vI x1), some (vI 0), some (vI ((8 + (z1 5)) - 61))]) (st' := []) (bp132_16 call r9 _ _) (fun q9 => ?_) (fun q9 => ?_)
              · have H := H.1 (cI1t q9)
                refine rc_b (i' := 91) (ls' := [some (vR 0), some (vI x1), some (vI 0), some (vI ((8 + (z1 5)) - 61))]) (st' := [vI 0, vI ((8 + (z1 5)) - 61), vR 0]) (L' := LPr z9 f9) 3 (bp132_17 call x1 0 ((8 + (z1 5)) - 61) _) ?_
                obtain ⟨z10, f10, hc, H⟩ := H
                refine rc_call (t := 92) (ls' := [some (vR 0), some (vI x1), some (vI 0), some (vI ((8 + (z1 5)) - 61))]) (st' := []) (bp132_18 call ((8 + (z1 5)) - 61) 0 _ z9 f9) hc ?_
                show RC call (mP 132) 92 [some (vR 0), some (vI x1), some (vI 0), some (vI ((8 + (z1 5)) - 61))] [] (LPr z10 f10) res
                refine rc_b (i' := 93) (ls' := [some (vR 0), some (vI x1), some (vI 0), some (vI ((8 + (z1 5)) - 61))]) (st' := [vI 1]) (L' := LPr z10 f10) 1 (bp132_19 call x1 0 ((8 + (z1 5)) - 61) _) ?_
                subst H
                exact rc_ret (bp132_20 call _ _)
              · have H := H.2 (cI1f q9)
                refine rc_b (i' := 87) (ls' := [some (vR 0), some (vI x1), some (vI 0), some (vI ((8 + (z1 5)) - 61))]) (st' := [vI 0]) (L' := LPr z9 f9) 1 (bp132_21 call x1 0 ((8 + (z1 5)) - 61) _) ?_
                subst H
                exact rc_ret (bp132_22 call _ _)
            · have H := H.2 (cI0f q8)
              refine rc_b (i' := 72) (ls' := [some (vR 0), some (vI x1), some (vI 0), o3]) (st' := [vI 1, vR 0]) (L' := LPr z1 f1) 2 (bp132_27 call x1 0 o3 _) ?_
              refine rc_call (t := 73) (ls' := [some (vR 0), some (vI x1), some (vI 0), o3]) (st' := []) (bp132_28 call 1 _ z1 f1) (hw 1 z1 f1) ?_
              show RC call (mP 132) 73 [some (vR 0), some (vI x1), some (vI 0), o3] [vI 0] (LPr (uZ (uZ z1 7 1) 8 (z1 3)) f1) res
              subst H
              exact rc_ret (bp132_29 call _ _)
      · have H := H.2 (cI1f q3)
        refine rc_b (i' := 57) (ls' := [some (vR 0), some (vI x1), some (vI 0), o3]) (st' := [vI 0]) (L' := LPr z1 f1) 1 (bp132_30 call x1 0 o3 _) ?_
        subst H
        exact rc_ret (bp132_31 call _ _)
    · have H := H.2 (cI1f q2)
      refine rc_b (i' := 16) (ls' := [some (vR 0), some (vI x1), some (vI 0), o3]) (st' := [vI 8, vI x1]) (L' := LPr z f) 2 (bp132_32 call x1 0 o3 _) ?_
      refine rc_if (it := 21) (ie := 17) (ls' := [some (vR 0), some (vI x1), some (vI 0), o3]) (st' := []) (bp132_33 call x1 8 _ _) (fun q10 => ?_) (fun q10 => ?_)
      · have H := H.1 (cI2t q10 rfl rfl)
        refine rc_b (i' := 22) (ls' := [some (vR 0), some (vI x1), some (vI 0), o3]) (st' := [vR 0]) (L' := LPr z f) 1 (bp132_34 call x1 0 o3 _) ?_
        obtain ⟨z11, f11, hc, H⟩ := H
        refine rc_call (t := 23) (ls' := [some (vR 0), some (vI x1), some (vI 0), o3]) (st' := []) (bp132_35 call _ z f) hc ?_
        show RC call (mP 132) 23 [some (vR 0), some (vI x1), some (vI 0), o3] [] (LPr z11 f11) res
        refine rc_b (i' := 24) (ls' := [some (vR 0), some (vI x1), some (vI 0), o3]) (st' := [vI 0]) (L' := LPr z11 f11) 1 (bp132_36 call x1 0 o3 _) ?_
        refine rc_f (it := 39) (ie := 25) (ls' := [some (vR 0), some (vI x1), some (vI 0), o3]) (st' := []) (bp132_37 call 0 _ _) (by decide) ?_
        refine rc_b (i' := 29) (ls' := [some (vR 0), some (vI x1), some (vI 0), o3]) (st' := [vI (x1 + 1), vR 0]) (L' := LPr z11 f11) 4 (bp132_38 call x1 0 o3 _) ?_
        obtain ⟨r12, z12, f12, hc, H⟩ := H
        refine rc_call (t := 30) (ls' := [some (vR 0), some (vI x1), some (vI 0), o3]) (st' := []) (bp132_39 call (x1 + 1) _ z11 f11) hc ?_
        show RC call (mP 132) 30 [some (vR 0), some (vI x1), some (vI 0), o3] [vI r12] (LPr z12 f12) res
        refine rc_if (it := 37) (ie := 31) (ls' := [some (vR 0), some (vI x1), some (vI 0), o3]) (st' := []) (bp132_40 call r12 _ _) (fun q11 => ?_) (fun q11 => ?_)
        · have H := H.1 (cI0t q11)
          refine rc_b (i' := 38) (ls' := [some (vR 0), some (vI x1), some (vI 0), o3]) (st' := [vI 0]) (L' := LPr z12 f12) 1 (bp132_41 call x1 0 o3 _) ?_
          subst H
          exact rc_ret (bp132_42 call _ _)
        · have H := H.2 (cI0f q11)
          refine rc_b (i' := 33) (ls' := [some (vR 0), some (vI x1), some (vI 0), o3]) (st' := [vI 41, vR 0]) (L' := LPr z12 f12) 2 (bp132_43 call x1 0 o3 _) ?_
          obtain ⟨r13, z13, f13, hc, H⟩ := H
          refine rc_call (t := 34) (ls' := [some (vR 0), some (vI x1), some (vI 0), o3]) (st' := []) (bp132_44 call 41 _ z12 f12) hc ?_
          show RC call (mP 132) 34 [some (vR 0), some (vI x1), some (vI 0), o3] [vI r13] (LPr z13 f13) res
          refine rc_if (it := 37) (ie := 35) (ls' := [some (vR 0), some (vI x1), some (vI 0), o3]) (st' := []) (bp132_45 call r13 _ _) (fun q12 => ?_) (fun q12 => ?_)
          · have H := H.1 (cI0t q12)
            refine rc_b (i' := 38) (ls' := [some (vR 0), some (vI x1), some (vI 0), o3]) (st' := [vI 0]) (L' := LPr z13 f13) 1 (bp132_41 call x1 0 o3 _) ?_
            subst H
            exact rc_ret (bp132_42 call _ _)
          · have H := H.2 (cI0f q12)
            refine rc_b (i' := 38) (ls' := [some (vR 0), some (vI x1), some (vI 0), o3]) (st' := [vI 1]) (L' := LPr z13 f13) 2 (bp132_46 call x1 0 o3 _) ?_
            subst H
            exact rc_ret (bp132_47 call _ _)
      · have H := H.2 (cI2f q10 rfl rfl)
        refine rc_b (i' := 19) (ls' := [some (vR 0), some (vI x1), some (vI 0), o3]) (st' := [vI 3, vR 0]) (L' := LPr z f) 2 (bp132_48 call x1 0 o3 _) ?_
        refine rc_call (t := 20) (ls' := [some (vR 0), some (vI x1), some (vI 0), o3]) (st' := []) (bp132_49 call 3 _ z f) (hw 3 z f) ?_
        show RC call (mP 132) 20 [some (vR 0), some (vI x1), some (vI 0), o3] [vI 0] (LPr (uZ (uZ z 7 3) 8 (z 3)) f) res
        subst H
        exact rc_ret (bp132_50 call _ _)
  · have H := H.2 (cI1f q1)
    refine rc_b (i' := 9) (ls' := [some (vR 0), some (vI x1), some (vI 1), o3]) (st' := [vI 1]) (L' := LPr z f) 4 (bp132_51 call x1 o2 o3 _) ?_
    refine rc_t (it := 14) (ie := 10) (ls' := [some (vR 0), some (vI x1), some (vI 1), o3]) (st' := []) (bp132_4 call 1 _ _) (by decide) ?_
    refine rc_b (i' := 16) (ls' := [some (vR 0), some (vI x1), some (vI 1), o3]) (st' := [vI 8, vI x1]) (L' := LPr z f) 2 (bp132_32 call x1 1 o3 _) ?_
    refine rc_if (it := 21) (ie := 17) (ls' := [some (vR 0), some (vI x1), some (vI 1), o3]) (st' := []) (bp132_33 call x1 8 _ _) (fun q13 => ?_) (fun q13 => ?_)
    · have H := H.1 (cI2t q13 rfl rfl)
      refine rc_b (i' := 22) (ls' := [some (vR 0), some (vI x1), some (vI 1), o3]) (st' := [vR 0]) (L' := LPr z f) 1 (bp132_34 call x1 1 o3 _) ?_
      obtain ⟨z14, f14, hc, H⟩ := H
      refine rc_call (t := 23) (ls' := [some (vR 0), some (vI x1), some (vI 1), o3]) (st' := []) (bp132_35 call _ z f) hc ?_
      show RC call (mP 132) 23 [some (vR 0), some (vI x1), some (vI 1), o3] [] (LPr z14 f14) res
      refine rc_b (i' := 24) (ls' := [some (vR 0), some (vI x1), some (vI 1), o3]) (st' := [vI 1]) (L' := LPr z14 f14) 1 (bp132_36 call x1 1 o3 _) ?_
      refine rc_t (it := 39) (ie := 25) (ls' := [some (vR 0), some (vI x1), some (vI 1), o3]) (st' := []) (bp132_37 call 1 _ _) (by decide) ?_
      refine rc_b (i' := 43) (ls' := [some (vR 0), some (vI x1), some (vI 1), o3]) (st' := [vI (x1 + 1), vR 0]) (L' := LPr z14 f14) 4 (bp132_52 call x1 1 o3 _) ?_
      obtain ⟨r15, z15, f15, hc, H⟩ := H
      refine rc_call (t := 44) (ls' := [some (vR 0), some (vI x1), some (vI 1), o3]) (st' := []) (bp132_53 call (x1 + 1) _ z14 f14) hc ?_
      show RC call (mP 132) 44 [some (vR 0), some (vI x1), some (vI 1), o3] [vI r15] (LPr z15 f15) res
      refine rc_if (it := 47) (ie := 45) (ls' := [some (vR 0), some (vI x1), some (vI 1), o3]) (st' := []) (bp132_54 call r15 _ _) (fun q14 => ?_) (fun q14 => ?_)
      · have H := H.1 (cI1t q14)
        refine rc_b (i' := 50) (ls' := [some (vR 0), some (vI x1), some (vI 1), o3]) (st' := [vI 0, vI 3, vR 0]) (L' := LPr z15 f15) 3 (bp132_55 call x1 1 o3 _) ?_
        obtain ⟨z16, f16, hc, H⟩ := H
        refine rc_call (t := 51) (ls' := [some (vR 0), some (vI x1), some (vI 1), o3]) (st' := []) (bp132_56 call 3 0 _ z15 f15) hc ?_
        show RC call (mP 132) 51 [some (vR 0), some (vI x1), some (vI 1), o3] [] (LPr z16 f16) res
        refine rc_b (i' := 52) (ls' := [some (vR 0), some (vI x1), some (vI 1), o3]) (st' := [vI 1]) (L' := LPr z16 f16) 1 (bp132_57 call x1 1 o3 _) ?_
        subst H
        exact rc_ret (bp132_58 call _ _)
      · have H := H.2 (cI1f q14)
        refine rc_b (i' := 46) (ls' := [some (vR 0), some (vI x1), some (vI 1), o3]) (st' := [vI 0]) (L' := LPr z15 f15) 1 (bp132_59 call x1 1 o3 _) ?_
        subst H
        exact rc_ret (bp132_60 call _ _)
    · have H := H.2 (cI2f q13 rfl rfl)
      refine rc_b (i' := 19) (ls' := [some (vR 0), some (vI x1), some (vI 1), o3]) (st' := [vI 3, vR 0]) (L' := LPr z f) 2 (bp132_48 call x1 1 o3 _) ?_
      refine rc_call (t := 20) (ls' := [some (vR 0), some (vI x1), some (vI 1), o3]) (st' := []) (bp132_49 call 3 _ z f) (hw 3 z f) ?_
      show RC call (mP 132) 20 [some (vR 0), some (vI x1), some (vI 1), o3] [vI 0] (LPr (uZ (uZ z 7 3) 8 (z 3)) f) res
      subst H
      exact rc_ret (bp132_50 call _ _)
set_option maxRecDepth 100000 in
theorem bp129_1 (call : QC FA) (x1 : Int32) (o2 : Option PV) (o3 : Option PV) (o4 : Option PV) (L : QH FA) (F : Nat) : rnG call 129 (F + 6) 0 [some (vR 0), some (vI x1), o2, o3, o4] [] L = rnG call 129 F 6 [some (vR 0), some (vI x1), some (vI 0), some (vI 0), some (vI 0)] [] L := rfl
theorem vcp129_0 (call : QC FA) (x1 : Int32) (o2 : Option PV) (o3 : Option PV) (o4 : Option PV) (z : Nat → Int32) (f : Nat → FA) (res : Option PV × QH FA) (H : RC call (mP 129) 6 [some (vR 0), some (vI x1), some (vI 0), some (vI 0), some (vI 0)] [] (LPr z f) res) : RC call (mP 129) 0 [some (vR 0), some (vI x1), o2, o3, o4] [] (LPr z f) res := by
  refine rc_b (i' := 6) (ls' := [some (vR 0), some (vI x1), some (vI 0), some (vI 0), some (vI 0)]) (st' := []) (L' := LPr z f) 6 (bp129_1 call x1 o2 o3 o4 _) ?_
  exact H
set_option maxRecDepth 100000 in
theorem bpc6_129_1 (call : QC FA) (x1 : Int32) (x2 : Int32) (x3 : Int32) (x4 : Int32) (L : QH FA) (F : Nat) : rnG call 129 (F + 2) 6 [some (vR 0), some (vI x1), some (vI x2), some (vI x3), some (vI x4)] [] L = rnG call 129 F 8 [some (vR 0), some (vI x1), some (vI x2), some (vI x3), some (vI x4)] [vI 400, vI x4] L := rfl
set_option maxRecDepth 100000 in
theorem bpc6_129_2 (call : QC FA) (x y : Int32) (ls : List (Option PV)) (L : QH FA) (F : Nat) : rnG call 129 (F + 1) 8 ls [vI y, vI x] L = bif pcmp 3 x y then rnG call 129 F 53 ls [] L else rnG call 129 F 9 ls [] L := rfl
set_option maxRecDepth 100000 in
theorem bpc6_129_3 (call : QC FA) (x1 : Int32) (x2 : Int32) (x3 : Int32) (x4 : Int32) (L : QH FA) (F : Nat) : rnG call 129 (F + 2) 53 [some (vR 0), some (vI x1), some (vI x2), some (vI x3), some (vI x4)] [] L = rnG call 129 F 55 [some (vR 0), some (vI x1), some (vI x2), some (vI x3), some (vI x4)] [vI 1, vR 0] L := rfl
set_option maxRecDepth 100000 in
theorem bpc6_129_4 (call : QC FA) (a0 : Int32) (ls : List (Option PV)) (z : Nat → Int32) (f : Nat → FA) (F : Nat) : rnG call 129 (F + 1) 55 ls [vI a0, vR 0] (LPr z f) = cbd (call 138 [vR 0, vI a0] (LPr z f)) (fun r L' => rnG call 129 F 56 ls (r.toList ++ []) L') := pcY (ih := rnG call 129 F) (call := call) (a := 138) (b := 1) (v := 5) (t := 56) (x := 0) (ls := ls) (As := [vI a0]) (st' := []) (L := LPr z f) rfl rfl rfl
set_option maxRecDepth 100000 in
theorem bpc6_129_5 (call : QC FA) (ls : List (Option PV)) (L : QH FA) (F : Nat) : rnG call 129 (F + 1) 56 ls [vI 0] L = some (some (vI 0), L) := rfl
set_option maxRecDepth 100000 in
theorem bpc6_129_6 (call : QC FA) (x1 : Int32) (x2 : Int32) (x3 : Int32) (x4 : Int32) (L : QH FA) (F : Nat) : rnG call 129 (F + 2) 9 [some (vR 0), some (vI x1), some (vI x2), some (vI x3), some (vI x4)] [] L = rnG call 129 F 11 [some (vR 0), some (vI x1), some (vI x2), some (vI x3), some (vI x4)] [vI x1, vR 0] L := rfl
set_option maxRecDepth 100000 in
theorem bpc6_129_7 (call : QC FA) (a0 : Int32) (ls : List (Option PV)) (z : Nat → Int32) (f : Nat → FA) (F : Nat) : rnG call 129 (F + 1) 11 ls [vI a0, vR 0] (LPr z f) = cbd (call 132 [vR 0, vI a0] (LPr z f)) (fun r L' => rnG call 129 F 12 ls (r.toList ++ []) L') := pcY (ih := rnG call 129 F) (call := call) (a := 132) (b := 1) (v := 5) (t := 12) (x := 0) (ls := ls) (As := [vI a0]) (st' := []) (L := LPr z f) rfl rfl rfl
set_option maxRecDepth 100000 in
theorem bpc6_129_8 (call : QC FA) (x : Int32) (ls : List (Option PV)) (L : QH FA) (F : Nat) : rnG call 129 (F + 1) 12 ls [vI x] L = bif pcmp 1 x 0 then rnG call 129 F 15 ls [] L else rnG call 129 F 13 ls [] L := rfl
set_option maxRecDepth 100000 in
theorem bpc6_129_9 (call : QC FA) (x1 : Int32) (x2 : Int32) (x3 : Int32) (x4 : Int32) (L : QH FA) (F : Nat) : rnG call 129 (F + 1) 15 [some (vR 0), some (vI x1), some (vI x2), some (vI x3), some (vI x4)] [] L = rnG call 129 F 16 [some (vR 0), some (vI x1), some (vI x2), some (vI x3), some (vI x4)] [vI x3] L := rfl
set_option maxRecDepth 100000 in
theorem bpc6_129_10 (call : QC FA) (x : Int32) (ls : List (Option PV)) (L : QH FA) (F : Nat) : rnG call 129 (F + 1) 16 ls [vI x] L = bif pcmp 0 x 0 then rnG call 129 F 21 ls [] L else rnG call 129 F 17 ls [] L := rfl
set_option maxRecDepth 100000 in
theorem bpc6_129_11 (call : QC FA) (x1 : Int32) (x2 : Int32) (x3 : Int32) (x4 : Int32) (z : Nat → Int32) (f : Nat → FA) (F : Nat) : rnG call 129 (F + 3) 21 [some (vR 0), some (vI x1), some (vI x2), some (vI x3), some (vI x4)] [] (LPr z f) = rnG call 129 F 24 [some (vR 0), some (vI x1), some (vI x2), some (vI x3), some (vI x4)] [vI 315, vI (z 5)] (LPr z f) := rfl
set_option maxRecDepth 100000 in
theorem bpc6_129_12 (call : QC FA) (x y : Int32) (ls : List (Option PV)) (L : QH FA) (F : Nat) : rnG call 129 (F + 1) 24 ls [vI y, vI x] L = bif pcmp 1 x y then rnG call 129 F 27 ls [] L else rnG call 129 F 25 ls [] L := rfl
set_option maxRecDepth 100000 in
theorem bpc6_129_13 (call : QC FA) (x1 : Int32) (x2 : Int32) (x3 : Int32) (x4 : Int32) (L : QH FA) (F : Nat) : rnG call 129 (F + 3) 27 [some (vR 0), some (vI x1), some (vI x2), some (vI x3), some (vI x4)] [] L = rnG call 129 F 30 [some (vR 0), some (vI x1), some (vI x2), some (vI 0), some (vI x4)] [vI 0] L := rfl
set_option maxRecDepth 100000 in
theorem bpc6_129_14 (call : QC FA) (x : Int32) (ls : List (Option PV)) (L : QH FA) (F : Nat) : rnG call 129 (F + 1) 30 ls [vI x] L = bif pcmp 1 x 0 then rnG call 129 F 49 ls [] L else rnG call 129 F 31 ls [] L := rfl
set_option maxRecDepth 100000 in
theorem bpc6_129_15 (call : QC FA) (x1 : Int32) (x2 : Int32) (x3 : Int32) (x4 : Int32) (L : QH FA) (F : Nat) : rnG call 129 (F + 1) 31 [some (vR 0), some (vI x1), some (vI x2), some (vI x3), some (vI x4)] [] L = rnG call 129 F 32 [some (vR 0), some (vI x1), some (vI x2), some (vI x3), some (vI x4)] [vI x2] L := rfl
set_option maxRecDepth 100000 in
theorem bpc6_129_16 (call : QC FA) (x : Int32) (ls : List (Option PV)) (L : QH FA) (F : Nat) : rnG call 129 (F + 1) 32 ls [vI x] L = bif pcmp 0 x 0 then rnG call 129 F 37 ls [] L else rnG call 129 F 33 ls [] L := rfl
set_option maxRecDepth 100000 in
theorem bpc6_129_17 (call : QC FA) (x1 : Int32) (x2 : Int32) (x3 : Int32) (x4 : Int32) (z : Nat → Int32) (f : Nat → FA) (F : Nat) : rnG call 129 (F + 3) 37 [some (vR 0), some (vI x1), some (vI x2), some (vI x3), some (vI x4)] [] (LPr z f) = rnG call 129 F 40 [some (vR 0), some (vI x1), some (vI x2), some (vI x3), some (vI x4)] [vI 314, vI (z 5)] (LPr z f) := rfl
set_option maxRecDepth 100000 in
theorem bpc6_129_18 (call : QC FA) (x y : Int32) (ls : List (Option PV)) (L : QH FA) (F : Nat) : rnG call 129 (F + 1) 40 ls [vI y, vI x] L = bif pcmp 1 x y then rnG call 129 F 43 ls [] L else rnG call 129 F 41 ls [] L := rfl
set_option maxRecDepth 100000 in
theorem bpc6_129_19 (call : QC FA) (x1 : Int32) (x2 : Int32) (x3 : Int32) (x4 : Int32) (L : QH FA) (F : Nat) : rnG call 129 (F + 3) 43 [some (vR 0), some (vI x1), some (vI x2), some (vI x3), some (vI x4)] [] L = rnG call 129 F 46 [some (vR 0), some (vI x1), some (vI 0), some (vI x3), some (vI x4)] [vI 0] L := rfl
set_option maxRecDepth 100000 in
theorem bpc6_129_20 (call : QC FA) (x : Int32) (ls : List (Option PV)) (L : QH FA) (F : Nat) : rnG call 129 (F + 1) 46 ls [vI x] L = bif pcmp 1 x 0 then rnG call 129 F 49 ls [] L else rnG call 129 F 47 ls [] L := rfl
set_option maxRecDepth 100000 in
theorem bpc6_129_21 (call : QC FA) (x1 : Int32) (x2 : Int32) (x3 : Int32) (x4 : Int32) (L : QH FA) (F : Nat) : rnG call 129 (F + 1) 47 [some (vR 0), some (vI x1), some (vI x2), some (vI x3), some (vI x4)] [] L = rnG call 129 F 48 [some (vR 0), some (vI x1), some (vI x2), some (vI x3), some (vI x4)] [vI 1] L := rfl
set_option maxRecDepth 100000 in
theorem bpc6_129_22 (call : QC FA) (ls : List (Option PV)) (L : QH FA) (F : Nat) : rnG call 129 (F + 1) 48 ls [vI 1] L = some (some (vI 1), L) := rfl
set_option maxRecDepth 100000 in
theorem bpc6_129_23 (call : QC FA) (x1 : Int32) (x2 : Int32) (x3 : Int32) (x4 : Int32) (L : QH FA) (F : Nat) : rnG call 129 (F + 4) 41 [some (vR 0), some (vI x1), some (vI x2), some (vI x3), some (vI x4)] [] L = rnG call 129 F 46 [some (vR 0), some (vI x1), some (vI 1), some (vI x3), some (vI x4)] [vI 1] L := rfl
set_option maxRecDepth 100000 in
theorem bpc6_129_24 (call : QC FA) (x1 : Int32) (x2 : Int32) (x3 : Int32) (x4 : Int32) (L : QH FA) (F : Nat) : rnG call 129 (F + 1) 49 [some (vR 0), some (vI x1), some (vI x2), some (vI x3), some (vI x4)] [] L = rnG call 129 F 50 [some (vR 0), some (vI x1), some (vI x2), some (vI x3), some (vI x4)] [vR 0] L := rfl
set_option maxRecDepth 100000 in
theorem bpc6_129_25 (call : QC FA) (ls : List (Option PV)) (z : Nat → Int32) (f : Nat → FA) (F : Nat) : rnG call 129 (F + 1) 50 ls [vR 0] (LPr z f) = cbd (call 135 [vR 0] (LPr z f)) (fun r L' => rnG call 129 F 51 ls (r.toList ++ []) L') := pcY (ih := rnG call 129 F) (call := call) (a := 135) (b := 0) (v := 5) (t := 51) (x := 0) (ls := ls) (As := []) (st' := []) (L := LPr z f) rfl rfl rfl
set_option maxRecDepth 100000 in
theorem bpc6_129_26 (call : QC FA) (x1 : Int32) (x2 : Int32) (x3 : Int32) (x4 : Int32) (L : QH FA) (F : Nat) : rnG call 129 (F + 1) 51 [some (vR 0), some (vI x1), some (vI x2), some (vI x3), some (vI x4)] [] L = rnG call 129 F 52 [some (vR 0), some (vI x1), some (vI x2), some (vI x3), some (vI (x4 + 1))] [] L := rfl
set_option maxRecDepth 100000 in
theorem bpc6_129_27 (call : QC FA) (x1 : Int32) (x2 : Int32) (x3 : Int32) (x4 : Int32) (L : QH FA) (F : Nat) : rnG call 129 (F + 1) 52 [some (vR 0), some (vI x1), some (vI x2), some (vI x3), some (vI x4)] [] L = rnG call 129 F 6 [some (vR 0), some (vI x1), some (vI x2), some (vI x3), some (vI x4)] [] L := rfl
set_option maxRecDepth 100000 in
theorem bpc6_129_28 (call : QC FA) (x1 : Int32) (x2 : Int32) (x3 : Int32) (x4 : Int32) (L : QH FA) (F : Nat) : rnG call 129 (F + 3) 33 [some (vR 0), some (vI x1), some (vI x2), some (vI x3), some (vI x4)] [] L = rnG call 129 F 36 [some (vR 0), some (vI x1), some (vI x2), some (vI x3), some (vI x4)] [vI 0, vI 11, vR 0] L := rfl
set_option maxRecDepth 100000 in
theorem bpc6_129_29 (call : QC FA) (a0 : Int32) (a1 : Int32) (ls : List (Option PV)) (z : Nat → Int32) (f : Nat → FA) (F : Nat) : rnG call 129 (F + 1) 36 ls [vI a1, vI a0, vR 0] (LPr z f) = cbd (call 121 [vR 0, vI a0, vI a1] (LPr z f)) (fun r L' => rnG call 129 F 37 ls (r.toList ++ []) L') := pcY (ih := rnG call 129 F) (call := call) (a := 121) (b := 2) (v := 5) (t := 37) (x := 0) (ls := ls) (As := [vI a0, vI a1]) (st' := []) (L := LPr z f) rfl rfl rfl
set_option maxRecDepth 100000 in
theorem bpc6_129_30 (call : QC FA) (x1 : Int32) (x2 : Int32) (x3 : Int32) (x4 : Int32) (L : QH FA) (F : Nat) : rnG call 129 (F + 4) 25 [some (vR 0), some (vI x1), some (vI x2), some (vI x3), some (vI x4)] [] L = rnG call 129 F 30 [some (vR 0), some (vI x1), some (vI x2), some (vI 1), some (vI x4)] [vI 1] L := rfl
set_option maxRecDepth 100000 in
theorem bpc6_129_31 (call : QC FA) (x1 : Int32) (x2 : Int32) (x3 : Int32) (x4 : Int32) (L : QH FA) (F : Nat) : rnG call 129 (F + 3) 17 [some (vR 0), some (vI x1), some (vI x2), some (vI x3), some (vI x4)] [] L = rnG call 129 F 20 [some (vR 0), some (vI x1), some (vI x2), some (vI x3), some (vI x4)] [vI 0, vI 10, vR 0] L := rfl
set_option maxRecDepth 100000 in
theorem bpc6_129_32 (call : QC FA) (a0 : Int32) (a1 : Int32) (ls : List (Option PV)) (z : Nat → Int32) (f : Nat → FA) (F : Nat) : rnG call 129 (F + 1) 20 ls [vI a1, vI a0, vR 0] (LPr z f) = cbd (call 121 [vR 0, vI a0, vI a1] (LPr z f)) (fun r L' => rnG call 129 F 21 ls (r.toList ++ []) L') := pcY (ih := rnG call 129 F) (call := call) (a := 121) (b := 2) (v := 5) (t := 21) (x := 0) (ls := ls) (As := [vI a0, vI a1]) (st' := []) (L := LPr z f) rfl rfl rfl
set_option maxRecDepth 100000 in
theorem bpc6_129_33 (call : QC FA) (x1 : Int32) (x2 : Int32) (x3 : Int32) (x4 : Int32) (L : QH FA) (F : Nat) : rnG call 129 (F + 1) 13 [some (vR 0), some (vI x1), some (vI x2), some (vI x3), some (vI x4)] [] L = rnG call 129 F 14 [some (vR 0), some (vI x1), some (vI x2), some (vI x3), some (vI x4)] [vI 0] L := rfl
set_option maxRecDepth 100000 in
theorem bpc6_129_34 (call : QC FA) (ls : List (Option PV)) (L : QH FA) (F : Nat) : rnG call 129 (F + 1) 14 ls [vI 0] L = some (some (vI 0), L) := rfl
theorem vcpc6_129_6 (call : QC FA) (hw : ∀ (a : Int32) (z : Nat → Int32) (f : Nat → FA), call 138 [vR 0, vI a] (LPr z f) = some (some (vI 0), LPr (uZ (uZ z 7 a) 8 (z 3)) f)) (x1 : Int32) (x2 : Int32) (x3 : Int32) (x4 : Int32) (z : Nat → Int32) (f : Nat → FA) (res : Option PV × QH FA) (H : ((400 ≤ I x4 → res = (some (vI 0), LPr (uZ (uZ z 7 1) 8 (z 3)) f)) ∧ (I x4 < 400 → (∃ (r1 : Int32) (z1 : Nat → Int32) (f1 : Nat → FA), call 132 [vR 0, vI x1] (LPr z f) = some (some (vI r1), LPr z1 f1) ∧ ((¬ r1 = 0 → ((x3 = 0 → ((¬ z1 5 = 315 → ((x2 = 0 → ((¬ z1 5 = 314 → res = (some (vI 1), LPr z1 f1)) ∧ (z1 5 = 314 → (∃ (z2 : Nat → Int32) (f2 : Nat → FA), call 135 [vR 0] (LPr z1 f1) = some (none, LPr z2 f2) ∧ RC call (mP 129) 6 [some (vR 0), some (vI x1), some (vI 1), some (vI 0), some (vI (x4 + 1))] [] (LPr z2 f2) res)))) ∧ (¬ x2 = 0 → (∃ (z3 : Nat → Int32) (f3 : Nat → FA), call 121 [vR 0, vI 11, vI 0] (LPr z1 f1) = some (none, LPr z3 f3) ∧ ((¬ z3 5 = 314 → res = (some (vI 1), LPr z3 f3)) ∧ (z3 5 = 314 → (∃ (z4 : Nat → Int32) (f4 : Nat → FA), call 135 [vR 0] (LPr z3 f3) = some (none, LPr z4 f4) ∧ RC call (mP 129) 6 [some (vR 0), some (vI x1), some (vI 1), some (vI 0), some (vI (x4 + 1))] [] (LPr z4 f4) res))))))) ∧ (z1 5 = 315 → (∃ (z5 : Nat → Int32) (f5 : Nat → FA), call 135 [vR 0] (LPr z1 f1) = some (none, LPr z5 f5) ∧ RC call (mP 129) 6 [some (vR 0), some (vI x1), some (vI x2), some (vI 1), some (vI (x4 + 1))] [] (LPr z5 f5) res)))) ∧ (¬ x3 = 0 → (∃ (z6 : Nat → Int32) (f6 : Nat → FA), call 121 [vR 0, vI 10, vI 0] (LPr z1 f1) = some (none, LPr z6 f6) ∧ ((¬ z6 5 = 315 → ((x2 = 0 → ((¬ z6 5 = 314 → res = (some (vI 1), LPr z6 f6)) ∧ (z6 5 = 314 → (∃ (z7 : Nat → Int32) (f7 : Nat → FA), call 135 [vR 0] (LPr z6 f6) = some (none, LPr z7 f7) ∧ RC call (mP 129) 6 [some (vR 0), some (vI x1), some (vI 1), some (vI 0), some (vI (x4 + 1))] [] (LPr z7 f7) res)))) ∧ (¬ x2 = 0 → (∃ (z8 : Nat → Int32) (f8 : Nat → FA), call 121 [vR 0, vI 11, vI 0] (LPr z6 f6) = some (none, LPr z8 f8) ∧ ((¬ z8 5 = 314 → res = (some (vI 1), LPr z8 f8)) ∧ (z8 5 = 314 → (∃ (z9 : Nat → Int32) (f9 : Nat → FA), call 135 [vR 0] (LPr z8 f8) = some (none, LPr z9 f9) ∧ RC call (mP 129) 6 [some (vR 0), some (vI x1), some (vI 1), some (vI 0), some (vI (x4 + 1))] [] (LPr z9 f9) res))))))) ∧ (z6 5 = 315 → (∃ (z10 : Nat → Int32) (f10 : Nat → FA), call 135 [vR 0] (LPr z6 f6) = some (none, LPr z10 f10) ∧ RC call (mP 129) 6 [some (vR 0), some (vI x1), some (vI x2), some (vI 1), some (vI (x4 + 1))] [] (LPr z10 f10) res))))))) ∧ (r1 = 0 → res = (some (vI 0), LPr z1 f1))))))) : RC call (mP 129) 6 [some (vR 0), some (vI x1), some (vI x2), some (vI x3), some (vI x4)] [] (LPr z f) res := by
  refine rc_b (i' := 8) (ls' := [some (vR 0), some (vI x1), some (vI x2), some (vI x3), some (vI x4)]) (st' := [vI 400, vI x4]) (L' := LPr z f) 2 (bpc6_129_1 call x1 x2 x3 x4 _) ?_
  refine rc_if (it := 53) (ie := 9) (ls' := [some (vR 0), some (vI x1), some (vI x2), some (vI x3), some (vI x4)]) (st' := []) (bpc6_129_2 call x4 400 _ _) (fun q1 => ?_) (fun q1 => ?_)
  · have H := H.1 (cI3t q1 rfl rfl)
    refine rc_b (i' := 55) (ls' := [some (vR 0), some (vI x1), some (vI x2), some (vI x3), some (vI x4)]) (st' := [vI 1, vR 0]) (L' := LPr z f) 2 (bpc6_129_3 call x1 x2 x3 x4 _) ?_
    refine rc_call (t := 56) (ls' := [some (vR 0), some (vI x1), some (vI x2), some (vI x3), some (vI x4)]) (st' := []) (bpc6_129_4 call 1 _ z f) (hw 1 z f) ?_
    show RC call (mP 129) 56 [some (vR 0), some (vI x1), some (vI x2), some (vI x3), some (vI x4)] [vI 0] (LPr (uZ (uZ z 7 1) 8 (z 3)) f) res
    subst H
    exact rc_ret (bpc6_129_5 call _ _)
  · have H := H.2 (cI3f q1 rfl rfl)
    refine rc_b (i' := 11) (ls' := [some (vR 0), some (vI x1), some (vI x2), some (vI x3), some (vI x4)]) (st' := [vI x1, vR 0]) (L' := LPr z f) 2 (bpc6_129_6 call x1 x2 x3 x4 _) ?_
    obtain ⟨r1, z1, f1, hc, H⟩ := H
    refine rc_call (t := 12) (ls' := [some (vR 0), some (vI x1), some (vI x2), some (vI x3), some (vI x4)]) (st' := []) (bpc6_129_7 call x1 _ z f) hc ?_
    show RC call (mP 129) 12 [some (vR 0), some (vI x1), some (vI x2), some (vI x3), some (vI x4)] [vI r1] (LPr z1 f1) res
    refine rc_if (it := 15) (ie := 13) (ls' := [some (vR 0), some (vI x1), some (vI x2), some (vI x3), some (vI x4)]) (st' := []) (bpc6_129_8 call r1 _ _) (fun q2 => ?_) (fun q2 => ?_)
    · have H := H.1 (cI1t q2)
      refine rc_b (i' := 16) (ls' := [some (vR 0), some (vI x1), some (vI x2), some (vI x3), some (vI x4)]) (st' := [vI x3]) (L' := LPr z1 f1) 1 (bpc6_129_9 call x1 x2 x3 x4 _) ?_
      refine rc_if (it := 21) (ie := 17) (ls' := [some (vR 0), some (vI x1), some (vI x2), some (vI x3), some (vI x4)]) (st' := []) (bpc6_129_10 call x3 _ _) (fun q3 => ?_) (fun q3 => ?_)
      · have H := H.1 (cI0t q3)
        refine rc_b (i' := 24) (ls' := [some (vR 0), some (vI x1), some (vI x2), some (vI x3), some (vI x4)]) (st' := [vI 315, vI (z1 5)]) (L' := LPr z1 f1) 3 (bpc6_129_11 call x1 x2 x3 x4 z1 f1) ?_
        refine rc_if (it := 27) (ie := 25) (ls' := [some (vR 0), some (vI x1), some (vI x2), some (vI x3), some (vI x4)]) (st' := []) (bpc6_129_12 call (z1 5) 315 _ _) (fun q4 => ?_) (fun q4 => ?_)
        · have H := H.1 (cI1t q4)
          refine rc_b (i' := 30) (ls' := [some (vR 0), some (vI x1), some (vI x2), some (vI 0), some (vI x4)]) (st' := [vI 0]) (L' := LPr z1 f1) 3 (bpc6_129_13 call x1 x2 x3 x4 _) ?_
          refine rc_f (it := 49) (ie := 31) (ls' := [some (vR 0), some (vI x1), some (vI x2), some (vI 0), some (vI x4)]) (st' := []) (bpc6_129_14 call 0 _ _) (by decide) ?_
          refine rc_b (i' := 32) (ls' := [some (vR 0), some (vI x1), some (vI x2), some (vI 0), some (vI x4)]) (st' := [vI x2]) (L' := LPr z1 f1) 1 (bpc6_129_15 call x1 x2 0 x4 _) ?_
          refine rc_if (it := 37) (ie := 33) (ls' := [some (vR 0), some (vI x1), some (vI x2), some (vI 0), some (vI x4)]) (st' := []) (bpc6_129_16 call x2 _ _) (fun q5 => ?_) (fun q5 => ?_)
          · have H := H.1 (cI0t q5)
            refine rc_b (i' := 40) (ls' := [some (vR 0), some (vI x1), some (vI x2), some (vI 0), some (vI x4)]) (st' := [vI 314, vI (z1 5)]) (L' := LPr z1 f1) 3 (bpc6_129_17 call x1 x2 0 x4 z1 f1) ?_
            refine rc_if (it := 43) (ie := 41) (ls' := [some (vR 0), some (vI x1), some (vI x2), some (vI 0), some (vI x4)]) (st' := []) (bpc6_129_18 call (z1 5) 314 _ _) (fun q6 => ?_) (fun q6 => ?_)
            · have H := H.1 (cI1t q6)
              refine rc_b (i' := 46) (ls' := [some (vR 0), some (vI x1), some (vI 0), some (vI 0), some (vI x4)]) (st' := [vI 0]) (L' := LPr z1 f1) 3 (bpc6_129_19 call x1 x2 0 x4 _) ?_
              refine rc_f (it := 49) (ie := 47) (ls' := [some (vR 0), some (vI x1), some (vI 0), some (vI 0), some (vI x4)]) (st' := []) (bpc6_129_20 call 0 _ _) (by decide) ?_
              refine rc_b (i' := 48) (ls' := [some (vR 0), some (vI x1), some (vI 0), some (vI 0), some (vI x4)]) (st' := [vI 1]) (L' := LPr z1 f1) 1 (bpc6_129_21 call x1 0 0 x4 _) ?_
              subst H
              exact rc_ret (bpc6_129_22 call _ _)
            · have H := H.2 (cI1f q6)
              refine rc_b (i' := 46) (ls' := [some (vR 0), some (vI x1), some (vI 1), some (vI 0), some (vI x4)]) (st' := [vI 1]) (L' := LPr z1 f1) 4 (bpc6_129_23 call x1 x2 0 x4 _) ?_
              refine rc_t (it := 49) (ie := 47) (ls' := [some (vR 0), some (vI x1), some (vI 1), some (vI 0), some (vI x4)]) (st' := []) (bpc6_129_20 call 1 _ _) (by decide) ?_
              refine rc_b (i' := 50) (ls' := [some (vR 0), some (vI x1), some (vI 1), some (vI 0), some (vI x4)]) (st' := [vR 0]) (L' := LPr z1 f1) 1 (bpc6_129_24 call x1 1 0 x4 _) ?_
              obtain ⟨z2, f2, hc, H⟩ := H
              refine rc_call (t := 51) (ls' := [some (vR 0), some (vI x1), some (vI 1), some (vI 0), some (vI x4)]) (st' := []) (bpc6_129_25 call _ z1 f1) hc ?_
              show RC call (mP 129) 51 [some (vR 0), some (vI x1), some (vI 1), some (vI 0), some (vI x4)] [] (LPr z2 f2) res
              refine rc_b (i' := 52) (ls' := [some (vR 0), some (vI x1), some (vI 1), some (vI 0), some (vI (x4 + 1))]) (st' := []) (L' := LPr z2 f2) 1 (bpc6_129_26 call x1 1 0 x4 _) ?_
              refine rc_b (i' := 6) (ls' := [some (vR 0), some (vI x1), some (vI 1), some (vI 0), some (vI (x4 + 1))]) (st' := []) (L' := LPr z2 f2) 1 (bpc6_129_27 call x1 1 0 (x4 + 1) _) ?_
              exact H
          · have H := H.2 (cI0f q5)
            refine rc_b (i' := 36) (ls' := [some (vR 0), some (vI x1), some (vI x2), some (vI 0), some (vI x4)]) (st' := [vI 0, vI 11, vR 0]) (L' := LPr z1 f1) 3 (bpc6_129_28 call x1 x2 0 x4 _) ?_
            obtain ⟨z3, f3, hc, H⟩ := H
            refine rc_call (t := 37) (ls' := [some (vR 0), some (vI x1), some (vI x2), some (vI 0), some (vI x4)]) (st' := []) (bpc6_129_29 call 11 0 _ z1 f1) hc ?_
            show RC call (mP 129) 37 [some (vR 0), some (vI x1), some (vI x2), some (vI 0), some (vI x4)] [] (LPr z3 f3) res
            refine rc_b (i' := 40) (ls' := [some (vR 0), some (vI x1), some (vI x2), some (vI 0), some (vI x4)]) (st' := [vI 314, vI (z3 5)]) (L' := LPr z3 f3) 3 (bpc6_129_17 call x1 x2 0 x4 z3 f3) ?_
            refine rc_if (it := 43) (ie := 41) (ls' := [some (vR 0), some (vI x1), some (vI x2), some (vI 0), some (vI x4)]) (st' := []) (bpc6_129_18 call (z3 5) 314 _ _) (fun q7 => ?_) (fun q7 => ?_)
            · have H := H.1 (cI1t q7)
              refine rc_b (i' := 46) (ls' := [some (vR 0), some (vI x1), some (vI 0), some (vI 0), some (vI x4)]) (st' := [vI 0]) (L' := LPr z3 f3) 3 (bpc6_129_19 call x1 x2 0 x4 _) ?_
              refine rc_f (it := 49) (ie := 47) (ls' := [some (vR 0), some (vI x1), some (vI 0), some (vI 0), some (vI x4)]) (st' := []) (bpc6_129_20 call 0 _ _) (by decide) ?_
              refine rc_b (i' := 48) (ls' := [some (vR 0), some (vI x1), some (vI 0), some (vI 0), some (vI x4)]) (st' := [vI 1]) (L' := LPr z3 f3) 1 (bpc6_129_21 call x1 0 0 x4 _) ?_
              subst H
              exact rc_ret (bpc6_129_22 call _ _)
            · have H := H.2 (cI1f q7)
              refine rc_b (i' := 46) (ls' := [some (vR 0), some (vI x1), some (vI 1), some (vI 0), some (vI x4)]) (st' := [vI 1]) (L' := LPr z3 f3) 4 (bpc6_129_23 call x1 x2 0 x4 _) ?_
              refine rc_t (it := 49) (ie := 47) (ls' := [some (vR 0), some (vI x1), some (vI 1), some (vI 0), some (vI x4)]) (st' := []) (bpc6_129_20 call 1 _ _) (by decide) ?_
              refine rc_b (i' := 50) (ls' := [some (vR 0), some (vI x1), some (vI 1), some (vI 0), some (vI x4)]) (st' := [vR 0]) (L' := LPr z3 f3) 1 (bpc6_129_24 call x1 1 0 x4 _) ?_
              obtain ⟨z4, f4, hc, H⟩ := H
              refine rc_call (t := 51) (ls' := [some (vR 0), some (vI x1), some (vI 1), some (vI 0), some (vI x4)]) (st' := []) (bpc6_129_25 call _ z3 f3) hc ?_
              show RC call (mP 129) 51 [some (vR 0), some (vI x1), some (vI 1), some (vI 0), some (vI x4)] [] (LPr z4 f4) res
              refine rc_b (i' := 52) (ls' := [some (vR 0), some (vI x1), some (vI 1), some (vI 0), some (vI (x4 + 1))]) (st' := []) (L' := LPr z4 f4) 1 (bpc6_129_26 call x1 1 0 x4 _) ?_
              refine rc_b (i' := 6) (ls' := [some (vR 0), some (vI x1), some (vI 1), some (vI 0), some (vI (x4 + 1))]) (st' := []) (L' := LPr z4 f4) 1 (bpc6_129_27 call x1 1 0 (x4 + 1) _) ?_
              exact H
        · have H := H.2 (cI1f q4)
          refine rc_b (i' := 30) (ls' := [some (vR 0), some (vI x1), some (vI x2), some (vI 1), some (vI x4)]) (st' := [vI 1]) (L' := LPr z1 f1) 4 (bpc6_129_30 call x1 x2 x3 x4 _) ?_
          refine rc_t (it := 49) (ie := 31) (ls' := [some (vR 0), some (vI x1), some (vI x2), some (vI 1), some (vI x4)]) (st' := []) (bpc6_129_14 call 1 _ _) (by decide) ?_
          refine rc_b (i' := 50) (ls' := [some (vR 0), some (vI x1), some (vI x2), some (vI 1), some (vI x4)]) (st' := [vR 0]) (L' := LPr z1 f1) 1 (bpc6_129_24 call x1 x2 1 x4 _) ?_
          obtain ⟨z5, f5, hc, H⟩ := H
          refine rc_call (t := 51) (ls' := [some (vR 0), some (vI x1), some (vI x2), some (vI 1), some (vI x4)]) (st' := []) (bpc6_129_25 call _ z1 f1) hc ?_
          show RC call (mP 129) 51 [some (vR 0), some (vI x1), some (vI x2), some (vI 1), some (vI x4)] [] (LPr z5 f5) res
          refine rc_b (i' := 52) (ls' := [some (vR 0), some (vI x1), some (vI x2), some (vI 1), some (vI (x4 + 1))]) (st' := []) (L' := LPr z5 f5) 1 (bpc6_129_26 call x1 x2 1 x4 _) ?_
          refine rc_b (i' := 6) (ls' := [some (vR 0), some (vI x1), some (vI x2), some (vI 1), some (vI (x4 + 1))]) (st' := []) (L' := LPr z5 f5) 1 (bpc6_129_27 call x1 x2 1 (x4 + 1) _) ?_
          exact H
      · have H := H.2 (cI0f q3)
        refine rc_b (i' := 20) (ls' := [some (vR 0), some (vI x1), some (vI x2), some (vI x3), some (vI x4)]) (st' := [vI 0, vI 10, vR 0]) (L' := LPr z1 f1) 3 (bpc6_129_31 call x1 x2 x3 x4 _) ?_
        obtain ⟨z6, f6, hc, H⟩ := H
        refine rc_call (t := 21) (ls' := [some (vR 0), some (vI x1), some (vI x2), some (vI x3), some (vI x4)]) (st' := []) (bpc6_129_32 call 10 0 _ z1 f1) hc ?_
        show RC call (mP 129) 21 [some (vR 0), some (vI x1), some (vI x2), some (vI x3), some (vI x4)] [] (LPr z6 f6) res
        refine rc_b (i' := 24) (ls' := [some (vR 0), some (vI x1), some (vI x2), some (vI x3), some (vI x4)]) (st' := [vI 315, vI (z6 5)]) (L' := LPr z6 f6) 3 (bpc6_129_11 call x1 x2 x3 x4 z6 f6) ?_
        refine rc_if (it := 27) (ie := 25) (ls' := [some (vR 0), some (vI x1), some (vI x2), some (vI x3), some (vI x4)]) (st' := []) (bpc6_129_12 call (z6 5) 315 _ _) (fun q8 => ?_) (fun q8 => ?_)
        · have H := H.1 (cI1t q8)
          refine rc_b (i' := 30) (ls' := [some (vR 0), some (vI x1), some (vI x2), some (vI 0), some (vI x4)]) (st' := [vI 0]) (L' := LPr z6 f6) 3 (bpc6_129_13 call x1 x2 x3 x4 _) ?_
          refine rc_f (it := 49) (ie := 31) (ls' := [some (vR 0), some (vI x1), some (vI x2), some (vI 0), some (vI x4)]) (st' := []) (bpc6_129_14 call 0 _ _) (by decide) ?_
          refine rc_b (i' := 32) (ls' := [some (vR 0), some (vI x1), some (vI x2), some (vI 0), some (vI x4)]) (st' := [vI x2]) (L' := LPr z6 f6) 1 (bpc6_129_15 call x1 x2 0 x4 _) ?_
          refine rc_if (it := 37) (ie := 33) (ls' := [some (vR 0), some (vI x1), some (vI x2), some (vI 0), some (vI x4)]) (st' := []) (bpc6_129_16 call x2 _ _) (fun q9 => ?_) (fun q9 => ?_)
          · have H := H.1 (cI0t q9)
            refine rc_b (i' := 40) (ls' := [some (vR 0), some (vI x1), some (vI x2), some (vI 0), some (vI x4)]) (st' := [vI 314, vI (z6 5)]) (L' := LPr z6 f6) 3 (bpc6_129_17 call x1 x2 0 x4 z6 f6) ?_
            refine rc_if (it := 43) (ie := 41) (ls' := [some (vR 0), some (vI x1), some (vI x2), some (vI 0), some (vI x4)]) (st' := []) (bpc6_129_18 call (z6 5) 314 _ _) (fun q10 => ?_) (fun q10 => ?_)
            · have H := H.1 (cI1t q10)
              refine rc_b (i' := 46) (ls' := [some (vR 0), some (vI x1), some (vI 0), some (vI 0), some (vI x4)]) (st' := [vI 0]) (L' := LPr z6 f6) 3 (bpc6_129_19 call x1 x2 0 x4 _) ?_
              refine rc_f (it := 49) (ie := 47) (ls' := [some (vR 0), some (vI x1), some (vI 0), some (vI 0), some (vI x4)]) (st' := []) (bpc6_129_20 call 0 _ _) (by decide) ?_
              refine rc_b (i' := 48) (ls' := [some (vR 0), some (vI x1), some (vI 0), some (vI 0), some (vI x4)]) (st' := [vI 1]) (L' := LPr z6 f6) 1 (bpc6_129_21 call x1 0 0 x4 _) ?_
              subst H
              exact rc_ret (bpc6_129_22 call _ _)
            · have H := H.2 (cI1f q10)
              refine rc_b (i' := 46) (ls' := [some (vR 0), some (vI x1), some (vI 1), some (vI 0), some (vI x4)]) (st' := [vI 1]) (L' := LPr z6 f6) 4 (bpc6_129_23 call x1 x2 0 x4 _) ?_
              refine rc_t (it := 49) (ie := 47) (ls' := [some (vR 0), some (vI x1), some (vI 1), some (vI 0), some (vI x4)]) (st' := []) (bpc6_129_20 call 1 _ _) (by decide) ?_
              refine rc_b (i' := 50) (ls' := [some (vR 0), some (vI x1), some (vI 1), some (vI 0), some (vI x4)]) (st' := [vR 0]) (L' := LPr z6 f6) 1 (bpc6_129_24 call x1 1 0 x4 _) ?_
              obtain ⟨z7, f7, hc, H⟩ := H
              refine rc_call (t := 51) (ls' := [some (vR 0), some (vI x1), some (vI 1), some (vI 0), some (vI x4)]) (st' := []) (bpc6_129_25 call _ z6 f6) hc ?_
              show RC call (mP 129) 51 [some (vR 0), some (vI x1), some (vI 1), some (vI 0), some (vI x4)] [] (LPr z7 f7) res
              refine rc_b (i' := 52) (ls' := [some (vR 0), some (vI x1), some (vI 1), some (vI 0), some (vI (x4 + 1))]) (st' := []) (L' := LPr z7 f7) 1 (bpc6_129_26 call x1 1 0 x4 _) ?_
              refine rc_b (i' := 6) (ls' := [some (vR 0), some (vI x1), some (vI 1), some (vI 0), some (vI (x4 + 1))]) (st' := []) (L' := LPr z7 f7) 1 (bpc6_129_27 call x1 1 0 (x4 + 1) _) ?_
              exact H
          · have H := H.2 (cI0f q9)
            refine rc_b (i' := 36) (ls' := [some (vR 0), some (vI x1), some (vI x2), some (vI 0), some (vI x4)]) (st' := [vI 0, vI 11, vR 0]) (L' := LPr z6 f6) 3 (bpc6_129_28 call x1 x2 0 x4 _) ?_
            obtain ⟨z8, f8, hc, H⟩ := H
            refine rc_call (t := 37) (ls' := [some (vR 0), some (vI x1), some (vI x2), some (vI 0), some (vI x4)]) (st' := []) (bpc6_129_29 call 11 0 _ z6 f6) hc ?_
            show RC call (mP 129) 37 [some (vR 0), some (vI x1), some (vI x2), some (vI 0), some (vI x4)] [] (LPr z8 f8) res
            refine rc_b (i' := 40) (ls' := [some (vR 0), some (vI x1), some (vI x2), some (vI 0), some (vI x4)]) (st' := [vI 314, vI (z8 5)]) (L' := LPr z8 f8) 3 (bpc6_129_17 call x1 x2 0 x4 z8 f8) ?_
            refine rc_if (it := 43) (ie := 41) (ls' := [some (vR 0), some (vI x1), some (vI x2), some (vI 0), some (vI x4)]) (st' := []) (bpc6_129_18 call (z8 5) 314 _ _) (fun q11 => ?_) (fun q11 => ?_)
            · have H := H.1 (cI1t q11)
              refine rc_b (i' := 46) (ls' := [some (vR 0), some (vI x1), some (vI 0), some (vI 0), some (vI x4)]) (st' := [vI 0]) (L' := LPr z8 f8) 3 (bpc6_129_19 call x1 x2 0 x4 _) ?_
              refine rc_f (it := 49) (ie := 47) (ls' := [some (vR 0), some (vI x1), some (vI 0), some (vI 0), some (vI x4)]) (st' := []) (bpc6_129_20 call 0 _ _) (by decide) ?_
              refine rc_b (i' := 48) (ls' := [some (vR 0), some (vI x1), some (vI 0), some (vI 0), some (vI x4)]) (st' := [vI 1]) (L' := LPr z8 f8) 1 (bpc6_129_21 call x1 0 0 x4 _) ?_
              subst H
              exact rc_ret (bpc6_129_22 call _ _)
            · have H := H.2 (cI1f q11)
              refine rc_b (i' := 46) (ls' := [some (vR 0), some (vI x1), some (vI 1), some (vI 0), some (vI x4)]) (st' := [vI 1]) (L' := LPr z8 f8) 4 (bpc6_129_23 call x1 x2 0 x4 _) ?_
              refine rc_t (it := 49) (ie := 47) (ls' := [some (vR 0), some (vI x1), some (vI 1), some (vI 0), some (vI x4)]) (st' := []) (bpc6_129_20 call 1 _ _) (by decide) ?_
              refine rc_b (i' := 50) (ls' := [some (vR 0), some (vI x1), some (vI 1), some (vI 0), some (vI x4)]) (st' := [vR 0]) (L' := LPr z8 f8) 1 (bpc6_129_24 call x1 1 0 x4 _) ?_
              obtain ⟨z9, f9, hc, H⟩ := H
              refine rc_call (t := 51) (ls' := [some (vR 0), some (vI x1), some (vI 1), some (vI 0), some (vI x4)]) (st' := []) (bpc6_129_25 call _ z8 f8) hc ?_
              show RC call (mP 129) 51 [some (vR 0), some (vI x1), some (vI 1), some (vI 0), some (vI x4)] [] (LPr z9 f9) res
              refine rc_b (i' := 52) (ls' := [some (vR 0), some (vI x1), some (vI 1), some (vI 0), some (vI (x4 + 1))]) (st' := []) (L' := LPr z9 f9) 1 (bpc6_129_26 call x1 1 0 x4 _) ?_
              refine rc_b (i' := 6) (ls' := [some (vR 0), some (vI x1), some (vI 1), some (vI 0), some (vI (x4 + 1))]) (st' := []) (L' := LPr z9 f9) 1 (bpc6_129_27 call x1 1 0 (x4 + 1) _) ?_
              exact H
        · have H := H.2 (cI1f q8)
          refine rc_b (i' := 30) (ls' := [some (vR 0), some (vI x1), some (vI x2), some (vI 1), some (vI x4)]) (st' := [vI 1]) (L' := LPr z6 f6) 4 (bpc6_129_30 call x1 x2 x3 x4 _) ?_
          refine rc_t (it := 49) (ie := 31) (ls' := [some (vR 0), some (vI x1), some (vI x2), some (vI 1), some (vI x4)]) (st' := []) (bpc6_129_14 call 1 _ _) (by decide) ?_
          refine rc_b (i' := 50) (ls' := [some (vR 0), some (vI x1), some (vI x2), some (vI 1), some (vI x4)]) (st' := [vR 0]) (L' := LPr z6 f6) 1 (bpc6_129_24 call x1 x2 1 x4 _) ?_
          obtain ⟨z10, f10, hc, H⟩ := H
          refine rc_call (t := 51) (ls' := [some (vR 0), some (vI x1), some (vI x2), some (vI 1), some (vI x4)]) (st' := []) (bpc6_129_25 call _ z6 f6) hc ?_
          show RC call (mP 129) 51 [some (vR 0), some (vI x1), some (vI x2), some (vI 1), some (vI x4)] [] (LPr z10 f10) res
          refine rc_b (i' := 52) (ls' := [some (vR 0), some (vI x1), some (vI x2), some (vI 1), some (vI (x4 + 1))]) (st' := []) (L' := LPr z10 f10) 1 (bpc6_129_26 call x1 x2 1 x4 _) ?_
          refine rc_b (i' := 6) (ls' := [some (vR 0), some (vI x1), some (vI x2), some (vI 1), some (vI (x4 + 1))]) (st' := []) (L' := LPr z10 f10) 1 (bpc6_129_27 call x1 x2 1 (x4 + 1) _) ?_
          exact H
    · have H := H.2 (cI1f q2)
      refine rc_b (i' := 14) (ls' := [some (vR 0), some (vI x1), some (vI x2), some (vI x3), some (vI x4)]) (st' := [vI 0]) (L' := LPr z1 f1) 1 (bpc6_129_33 call x1 x2 x3 x4 _) ?_
      subst H
      exact rc_ret (bpc6_129_34 call _ _)
set_option maxRecDepth 100000 in
theorem bp123_1 (call : QC FA) (z : Nat → Int32) (f : Nat → FA) (F : Nat) : rnG call 123 (F + 4) 0 [some (vR 0)] [] (LPr z f) = rnG call 123 F 4 [some (vR 0)] [vI (z 13), vI 1, vR 0] (LPr z f) := rfl
set_option maxRecDepth 100000 in
theorem bp123_2 (call : QC FA) (a0 : Int32) (a1 : Int32) (ls : List (Option PV)) (z : Nat → Int32) (f : Nat → FA) (F : Nat) : rnG call 123 (F + 1) 4 ls [vI a1, vI a0, vR 0] (LPr z f) = cbd (call 128 [vR 0, vI a0, vI a1] (LPr z f)) (fun r L' => rnG call 123 F 5 ls (r.toList ++ []) L') := pcY (ih := rnG call 123 F) (call := call) (a := 128) (b := 2) (v := 5) (t := 5) (x := 0) (ls := ls) (As := [vI a0, vI a1]) (st' := []) (L := LPr z f) rfl rfl rfl
set_option maxRecDepth 100000 in
theorem bp123_3 (call : QC FA) (L : QH FA) (F : Nat) : rnG call 123 (F + 1) 5 [some (vR 0)] [] L = rnG call 123 F 6 [some (vR 0)] [vR 0] L := rfl
set_option maxRecDepth 100000 in
theorem bp123_4 (call : QC FA) (ls : List (Option PV)) (z : Nat → Int32) (f : Nat → FA) (F : Nat) : rnG call 123 (F + 1) 6 ls [vR 0] (LPr z f) = cbd (call 130 [vR 0] (LPr z f)) (fun r L' => rnG call 123 F 7 ls (r.toList ++ []) L') := pcY (ih := rnG call 123 F) (call := call) (a := 130) (b := 0) (v := 5) (t := 7) (x := 0) (ls := ls) (As := []) (st' := []) (L := LPr z f) rfl rfl rfl
set_option maxRecDepth 100000 in
theorem bp123_5 (call : QC FA) (x : Int32) (ls : List (Option PV)) (L : QH FA) (F : Nat) : rnG call 123 (F + 1) 7 ls [vI x] L = bif pcmp 1 x 0 then rnG call 123 F 10 ls [] L else rnG call 123 F 8 ls [] L := rfl
set_option maxRecDepth 100000 in
theorem bp123_6 (call : QC FA) (z : Nat → Int32) (f : Nat → FA) (F : Nat) : rnG call 123 (F + 4) 10 [some (vR 0)] [] (LPr z f) = rnG call 123 F 14 [some (vR 0)] [vI (z 13), vI 2, vR 0] (LPr z f) := rfl
set_option maxRecDepth 100000 in
theorem bp123_7 (call : QC FA) (a0 : Int32) (a1 : Int32) (ls : List (Option PV)) (z : Nat → Int32) (f : Nat → FA) (F : Nat) : rnG call 123 (F + 1) 14 ls [vI a1, vI a0, vR 0] (LPr z f) = cbd (call 128 [vR 0, vI a0, vI a1] (LPr z f)) (fun r L' => rnG call 123 F 15 ls (r.toList ++ []) L') := pcY (ih := rnG call 123 F) (call := call) (a := 128) (b := 2) (v := 5) (t := 15) (x := 0) (ls := ls) (As := [vI a0, vI a1]) (st' := []) (L := LPr z f) rfl rfl rfl
set_option maxRecDepth 100000 in
theorem bp123_8 (call : QC FA) (z : Nat → Int32) (f : Nat → FA) (F : Nat) : rnG call 123 (F + 3) 15 [some (vR 0)] [] (LPr z f) = rnG call 123 F 18 [some (vR 0)] [vI 313, vI (z 5)] (LPr z f) := rfl
set_option maxRecDepth 100000 in
theorem bp123_9 (call : QC FA) (x y : Int32) (ls : List (Option PV)) (L : QH FA) (F : Nat) : rnG call 123 (F + 1) 18 ls [vI y, vI x] L = bif pcmp 1 x y then rnG call 123 F 27 ls [] L else rnG call 123 F 19 ls [] L := rfl
set_option maxRecDepth 100000 in
theorem bp123_10 (call : QC FA) (z : Nat → Int32) (f : Nat → FA) (F : Nat) : rnG call 123 (F + 4) 27 [some (vR 0)] [] (LPr z f) = rnG call 123 F 31 [some (vR 0)] [vI (z 13), vI 3, vR 0] (LPr z f) := rfl
set_option maxRecDepth 100000 in
theorem bp123_11 (call : QC FA) (a0 : Int32) (a1 : Int32) (ls : List (Option PV)) (z : Nat → Int32) (f : Nat → FA) (F : Nat) : rnG call 123 (F + 1) 31 ls [vI a1, vI a0, vR 0] (LPr z f) = cbd (call 128 [vR 0, vI a0, vI a1] (LPr z f)) (fun r L' => rnG call 123 F 32 ls (r.toList ++ []) L') := pcY (ih := rnG call 123 F) (call := call) (a := 128) (b := 2) (v := 5) (t := 32) (x := 0) (ls := ls) (As := [vI a0, vI a1]) (st' := []) (L := LPr z f) rfl rfl rfl
set_option maxRecDepth 100000 in
theorem bp123_12 (call : QC FA) (L : QH FA) (F : Nat) : rnG call 123 (F + 1) 32 [some (vR 0)] [] L = rnG call 123 F 33 [some (vR 0)] [vI 1] L := rfl
set_option maxRecDepth 100000 in
theorem bp123_13 (call : QC FA) (ls : List (Option PV)) (L : QH FA) (F : Nat) : rnG call 123 (F + 1) 33 ls [vI 1] L = some (some (vI 1), L) := rfl
set_option maxRecDepth 100000 in
theorem bp123_14 (call : QC FA) (L : QH FA) (F : Nat) : rnG call 123 (F + 1) 19 [some (vR 0)] [] L = rnG call 123 F 20 [some (vR 0)] [vR 0] L := rfl
set_option maxRecDepth 100000 in
theorem bp123_15 (call : QC FA) (ls : List (Option PV)) (z : Nat → Int32) (f : Nat → FA) (F : Nat) : rnG call 123 (F + 1) 20 ls [vR 0] (LPr z f) = cbd (call 135 [vR 0] (LPr z f)) (fun r L' => rnG call 123 F 21 ls (r.toList ++ []) L') := pcY (ih := rnG call 123 F) (call := call) (a := 135) (b := 0) (v := 5) (t := 21) (x := 0) (ls := ls) (As := []) (st' := []) (L := LPr z f) rfl rfl rfl
set_option maxRecDepth 100000 in
theorem bp123_16 (call : QC FA) (L : QH FA) (F : Nat) : rnG call 123 (F + 2) 21 [some (vR 0)] [] L = rnG call 123 F 23 [some (vR 0)] [vI 0, vR 0] L := rfl
set_option maxRecDepth 100000 in
theorem bp123_17 (call : QC FA) (a0 : Int32) (ls : List (Option PV)) (z : Nat → Int32) (f : Nat → FA) (F : Nat) : rnG call 123 (F + 1) 23 ls [vI a0, vR 0] (LPr z f) = cbd (call 129 [vR 0, vI a0] (LPr z f)) (fun r L' => rnG call 123 F 24 ls (r.toList ++ []) L') := pcY (ih := rnG call 123 F) (call := call) (a := 129) (b := 1) (v := 5) (t := 24) (x := 0) (ls := ls) (As := [vI a0]) (st' := []) (L := LPr z f) rfl rfl rfl
set_option maxRecDepth 100000 in
theorem bp123_18 (call : QC FA) (x : Int32) (ls : List (Option PV)) (L : QH FA) (F : Nat) : rnG call 123 (F + 1) 24 ls [vI x] L = bif pcmp 1 x 0 then rnG call 123 F 27 ls [] L else rnG call 123 F 25 ls [] L := rfl
set_option maxRecDepth 100000 in
theorem bp123_19 (call : QC FA) (L : QH FA) (F : Nat) : rnG call 123 (F + 1) 25 [some (vR 0)] [] L = rnG call 123 F 26 [some (vR 0)] [vI 0] L := rfl
set_option maxRecDepth 100000 in
theorem bp123_20 (call : QC FA) (ls : List (Option PV)) (L : QH FA) (F : Nat) : rnG call 123 (F + 1) 26 ls [vI 0] L = some (some (vI 0), L) := rfl
set_option maxRecDepth 100000 in
theorem bp123_21 (call : QC FA) (L : QH FA) (F : Nat) : rnG call 123 (F + 1) 8 [some (vR 0)] [] L = rnG call 123 F 9 [some (vR 0)] [vI 0] L := rfl
set_option maxRecDepth 100000 in
theorem bp123_22 (call : QC FA) (ls : List (Option PV)) (L : QH FA) (F : Nat) : rnG call 123 (F + 1) 9 ls [vI 0] L = some (some (vI 0), L) := rfl
theorem vcp123_0 (call : QC FA) (z : Nat → Int32) (f : Nat → FA) (res : Option PV × QH FA) (H : (∃ (z1 : Nat → Int32) (f1 : Nat → FA), call 128 [vR 0, vI 1, vI (z 13)] (LPr z f) = some (none, LPr z1 f1) ∧ (∃ (r2 : Int32) (z2 : Nat → Int32) (f2 : Nat → FA), call 130 [vR 0] (LPr z1 f1) = some (some (vI r2), LPr z2 f2) ∧ ((¬ r2 = 0 → (∃ (z3 : Nat → Int32) (f3 : Nat → FA), call 128 [vR 0, vI 2, vI (z2 13)] (LPr z2 f2) = some (none, LPr z3 f3) ∧ ((¬ z3 5 = 313 → (∃ (z4 : Nat → Int32) (f4 : Nat → FA), call 128 [vR 0, vI 3, vI (z3 13)] (LPr z3 f3) = some (none, LPr z4 f4) ∧ res = (some (vI 1), LPr z4 f4))) ∧ (z3 5 = 313 → (∃ (z5 : Nat → Int32) (f5 : Nat → FA), call 135 [vR 0] (LPr z3 f3) = some (none, LPr z5 f5) ∧ (∃ (r6 : Int32) (z6 : Nat → Int32) (f6 : Nat → FA), call 129 [vR 0, vI 0] (LPr z5 f5) = some (some (vI r6), LPr z6 f6) ∧ ((¬ r6 = 0 → (∃ (z7 : Nat → Int32) (f7 : Nat → FA), call 128 [vR 0, vI 3, vI (z6 13)] (LPr z6 f6) = some (none, LPr z7 f7) ∧ res = (some (vI 1), LPr z7 f7))) ∧ (r6 = 0 → res = (some (vI 0), LPr z6 f6))))))))) ∧ (r2 = 0 → res = (some (vI 0), LPr z2 f2)))))) : RC call (mP 123) 0 [some (vR 0)] [] (LPr z f) res := by
  refine rc_b (i' := 4) (ls' := [some (vR 0)]) (st' := [vI (z 13), vI 1, vR 0]) (L' := LPr z f) 4 (bp123_1 call z f) ?_
  obtain ⟨z1, f1, hc, H⟩ := H
  refine rc_call (t := 5) (ls' := [some (vR 0)]) (st' := []) (bp123_2 call 1 (z 13) _ z f) hc ?_
  show RC call (mP 123) 5 [some (vR 0)] [] (LPr z1 f1) res
  refine rc_b (i' := 6) (ls' := [some (vR 0)]) (st' := [vR 0]) (L' := LPr z1 f1) 1 (bp123_3 call _) ?_
  obtain ⟨r2, z2, f2, hc, H⟩ := H
  refine rc_call (t := 7) (ls' := [some (vR 0)]) (st' := []) (bp123_4 call _ z1 f1) hc ?_
  show RC call (mP 123) 7 [some (vR 0)] [vI r2] (LPr z2 f2) res
  refine rc_if (it := 10) (ie := 8) (ls' := [some (vR 0)]) (st' := []) (bp123_5 call r2 _ _) (fun q1 => ?_) (fun q1 => ?_)
  · have H := H.1 (cI1t q1)
    refine rc_b (i' := 14) (ls' := [some (vR 0)]) (st' := [vI (z2 13), vI 2, vR 0]) (L' := LPr z2 f2) 4 (bp123_6 call z2 f2) ?_
    obtain ⟨z3, f3, hc, H⟩ := H
    refine rc_call (t := 15) (ls' := [some (vR 0)]) (st' := []) (bp123_7 call 2 (z2 13) _ z2 f2) hc ?_
    show RC call (mP 123) 15 [some (vR 0)] [] (LPr z3 f3) res
    refine rc_b (i' := 18) (ls' := [some (vR 0)]) (st' := [vI 313, vI (z3 5)]) (L' := LPr z3 f3) 3 (bp123_8 call z3 f3) ?_
    refine rc_if (it := 27) (ie := 19) (ls' := [some (vR 0)]) (st' := []) (bp123_9 call (z3 5) 313 _ _) (fun q2 => ?_) (fun q2 => ?_)
    · have H := H.1 (cI1t q2)
      refine rc_b (i' := 31) (ls' := [some (vR 0)]) (st' := [vI (z3 13), vI 3, vR 0]) (L' := LPr z3 f3) 4 (bp123_10 call z3 f3) ?_
      obtain ⟨z4, f4, hc, H⟩ := H
      refine rc_call (t := 32) (ls' := [some (vR 0)]) (st' := []) (bp123_11 call 3 (z3 13) _ z3 f3) hc ?_
      show RC call (mP 123) 32 [some (vR 0)] [] (LPr z4 f4) res
      refine rc_b (i' := 33) (ls' := [some (vR 0)]) (st' := [vI 1]) (L' := LPr z4 f4) 1 (bp123_12 call _) ?_
      subst H
      exact rc_ret (bp123_13 call _ _)
    · have H := H.2 (cI1f q2)
      refine rc_b (i' := 20) (ls' := [some (vR 0)]) (st' := [vR 0]) (L' := LPr z3 f3) 1 (bp123_14 call _) ?_
      obtain ⟨z5, f5, hc, H⟩ := H
      refine rc_call (t := 21) (ls' := [some (vR 0)]) (st' := []) (bp123_15 call _ z3 f3) hc ?_
      show RC call (mP 123) 21 [some (vR 0)] [] (LPr z5 f5) res
      refine rc_b (i' := 23) (ls' := [some (vR 0)]) (st' := [vI 0, vR 0]) (L' := LPr z5 f5) 2 (bp123_16 call _) ?_
      obtain ⟨r6, z6, f6, hc, H⟩ := H
      refine rc_call (t := 24) (ls' := [some (vR 0)]) (st' := []) (bp123_17 call 0 _ z5 f5) hc ?_
      show RC call (mP 123) 24 [some (vR 0)] [vI r6] (LPr z6 f6) res
      refine rc_if (it := 27) (ie := 25) (ls' := [some (vR 0)]) (st' := []) (bp123_18 call r6 _ _) (fun q3 => ?_) (fun q3 => ?_)
      · have H := H.1 (cI1t q3)
        refine rc_b (i' := 31) (ls' := [some (vR 0)]) (st' := [vI (z6 13), vI 3, vR 0]) (L' := LPr z6 f6) 4 (bp123_10 call z6 f6) ?_
        obtain ⟨z7, f7, hc, H⟩ := H
        refine rc_call (t := 32) (ls' := [some (vR 0)]) (st' := []) (bp123_11 call 3 (z6 13) _ z6 f6) hc ?_
        show RC call (mP 123) 32 [some (vR 0)] [] (LPr z7 f7) res
        refine rc_b (i' := 33) (ls' := [some (vR 0)]) (st' := [vI 1]) (L' := LPr z7 f7) 1 (bp123_12 call _) ?_
        subst H
        exact rc_ret (bp123_13 call _ _)
      · have H := H.2 (cI1f q3)
        refine rc_b (i' := 26) (ls' := [some (vR 0)]) (st' := [vI 0]) (L' := LPr z6 f6) 1 (bp123_19 call _) ?_
        subst H
        exact rc_ret (bp123_20 call _ _)
  · have H := H.2 (cI1f q1)
    refine rc_b (i' := 9) (ls' := [some (vR 0)]) (st' := [vI 0]) (L' := LPr z2 f2) 1 (bp123_21 call _) ?_
    subst H
    exact rc_ret (bp123_22 call _ _)
set_option maxRecDepth 100000 in
theorem bp126_1 (call : QC FA) (x1 : Int32) (o2 : Option PV) (L : QH FA) (F : Nat) : rnG call 126 (F + 1) 0 [some (vR 0), some (vI x1), o2] [] L = rnG call 126 F 1 [some (vR 0), some (vI x1), o2] [vI x1] L := rfl
set_option maxRecDepth 100000 in
theorem bp126_2 (call : QC FA) (x : Int32) (ls : List (Option PV)) (L : QH FA) (F : Nat) : rnG call 126 (F + 1) 1 ls [vI x] L = bif pcmp 1 x 0 then rnG call 126 F 19 ls [] L else rnG call 126 F 2 ls [] L := rfl
set_option maxRecDepth 100000 in
theorem bp126_3 (call : QC FA) (x1 : Int32) (o2 : Option PV) (z : Nat → Int32) (f : Nat → FA) (F : Nat) : rnG call 126 (F + 4) 19 [some (vR 0), some (vI x1), o2] [] (LPr z f) = rnG call 126 F 23 [some (vR 0), some (vI x1), o2] [vI 2, vI x1, vI (z 5)] (LPr z f) := rfl
set_option maxRecDepth 100000 in
theorem bp126_4 (call : QC FA) (x y : Int32) (s0 : Int32) (ls : List (Option PV)) (L : QH FA) (F : Nat) : rnG call 126 (F + 1) 23 ls [vI y, vI x, vI s0] L = bif pcmp 1 x y then rnG call 126 F 26 ls [vI s0] L else rnG call 126 F 24 ls [vI s0] L := rfl
set_option maxRecDepth 100000 in
theorem bp126_5 (call : QC FA) (x1 : Int32) (o2 : Option PV) (s0 : Int32) (L : QH FA) (F : Nat) : rnG call 126 (F + 1) 26 [some (vR 0), some (vI x1), o2] [vI s0] L = rnG call 126 F 27 [some (vR 0), some (vI x1), o2] [vI 317, vI s0] L := rfl
set_option maxRecDepth 100000 in
theorem bp126_6 (call : QC FA) (x y : Int32) (ls : List (Option PV)) (L : QH FA) (F : Nat) : rnG call 126 (F + 1) 27 ls [vI y, vI x] L = bif pcmp 1 x y then rnG call 126 F 30 ls [] L else rnG call 126 F 28 ls [] L := rfl
set_option maxRecDepth 100000 in
theorem bp126_7 (call : QC FA) (x1 : Int32) (o2 : Option PV) (L : QH FA) (F : Nat) : rnG call 126 (F + 3) 30 [some (vR 0), some (vI x1), o2] [] L = rnG call 126 F 33 [some (vR 0), some (vI x1), some (vI 0)] [vI 0] L := rfl
set_option maxRecDepth 100000 in
theorem bp126_8 (call : QC FA) (x : Int32) (ls : List (Option PV)) (L : QH FA) (F : Nat) : rnG call 126 (F + 1) 33 ls [vI x] L = bif pcmp 1 x 0 then rnG call 126 F 38 ls [] L else rnG call 126 F 34 ls [] L := rfl
set_option maxRecDepth 100000 in
theorem bp126_9 (call : QC FA) (x1 : Int32) (x2 : Int32) (L : QH FA) (F : Nat) : rnG call 126 (F + 2) 34 [some (vR 0), some (vI x1), some (vI x2)] [] L = rnG call 126 F 36 [some (vR 0), some (vI x1), some (vI x2)] [vI 1, vR 0] L := rfl
set_option maxRecDepth 100000 in
theorem bp126_10 (call : QC FA) (a0 : Int32) (ls : List (Option PV)) (z : Nat → Int32) (f : Nat → FA) (F : Nat) : rnG call 126 (F + 1) 36 ls [vI a0, vR 0] (LPr z f) = cbd (call 138 [vR 0, vI a0] (LPr z f)) (fun r L' => rnG call 126 F 37 ls (r.toList ++ []) L') := pcY (ih := rnG call 126 F) (call := call) (a := 138) (b := 1) (v := 5) (t := 37) (x := 0) (ls := ls) (As := [vI a0]) (st' := []) (L := LPr z f) rfl rfl rfl
set_option maxRecDepth 100000 in
theorem bp126_11 (call : QC FA) (ls : List (Option PV)) (L : QH FA) (F : Nat) : rnG call 126 (F + 1) 37 ls [vI 0] L = some (some (vI 0), L) := rfl
set_option maxRecDepth 100000 in
theorem bp126_12 (call : QC FA) (x1 : Int32) (o2 : Option PV) (L : QH FA) (F : Nat) : rnG call 126 (F + 4) 28 [some (vR 0), some (vI x1), o2] [] L = rnG call 126 F 33 [some (vR 0), some (vI x1), some (vI 1)] [vI 1] L := rfl
set_option maxRecDepth 100000 in
theorem bp126_13 (call : QC FA) (x1 : Int32) (x2 : Int32) (z : Nat → Int32) (f : Nat → FA) (F : Nat) : rnG call 126 (F + 3) 38 [some (vR 0), some (vI x1), some (vI x2)] [] (LPr z f) = rnG call 126 F 41 [some (vR 0), some (vI x1), some (vI x2)] [vI 16, vI (z 11)] (LPr z f) := rfl
set_option maxRecDepth 100000 in
theorem bp126_14 (call : QC FA) (x y : Int32) (ls : List (Option PV)) (L : QH FA) (F : Nat) : rnG call 126 (F + 1) 41 ls [vI y, vI x] L = bif pcmp 2 x y then rnG call 126 F 46 ls [] L else rnG call 126 F 42 ls [] L := rfl
set_option maxRecDepth 100000 in
theorem bp126_15 (call : QC FA) (x1 : Int32) (x2 : Int32) (z : Nat → Int32) (f : Nat → FA) (F : Nat) : rnG call 126 (F + 4) 46 [some (vR 0), some (vI x1), some (vI x2)] [] (LPr z f) = rnG call 126 F 50 [some (vR 0), some (vI x1), some (vI x2)] [vI (z 5), vI 0, vR 0] (LPr z f) := rfl
set_option maxRecDepth 100000 in
theorem bp126_16 (call : QC FA) (a0 : Int32) (a1 : Int32) (ls : List (Option PV)) (z : Nat → Int32) (f : Nat → FA) (F : Nat) : rnG call 126 (F + 1) 50 ls [vI a1, vI a0, vR 0] (LPr z f) = cbd (call 128 [vR 0, vI a0, vI a1] (LPr z f)) (fun r L' => rnG call 126 F 51 ls (r.toList ++ []) L') := pcY (ih := rnG call 126 F) (call := call) (a := 128) (b := 2) (v := 5) (t := 51) (x := 0) (ls := ls) (As := [vI a0, vI a1]) (st' := []) (L := LPr z f) rfl rfl rfl
set_option maxRecDepth 100000 in
theorem bp126_17 (call : QC FA) (x1 : Int32) (x2 : Int32) (L : QH FA) (F : Nat) : rnG call 126 (F + 1) 51 [some (vR 0), some (vI x1), some (vI x2)] [] L = rnG call 126 F 52 [some (vR 0), some (vI x1), some (vI x2)] [vR 0] L := rfl
set_option maxRecDepth 100000 in
theorem bp126_18 (call : QC FA) (ls : List (Option PV)) (z : Nat → Int32) (f : Nat → FA) (F : Nat) : rnG call 126 (F + 1) 52 ls [vR 0] (LPr z f) = cbd (call 135 [vR 0] (LPr z f)) (fun r L' => rnG call 126 F 53 ls (r.toList ++ []) L') := pcY (ih := rnG call 126 F) (call := call) (a := 135) (b := 0) (v := 5) (t := 53) (x := 0) (ls := ls) (As := []) (st' := []) (L := LPr z f) rfl rfl rfl
set_option maxRecDepth 100000 in
theorem bp126_19 (call : QC FA) (x1 : Int32) (x2 : Int32) (L : QH FA) (F : Nat) : rnG call 126 (F + 1) 53 [some (vR 0), some (vI x1), some (vI x2)] [] L = rnG call 126 F 54 [some (vR 0), some (vI x1), some (vI x2)] [vI 1] L := rfl
set_option maxRecDepth 100000 in
theorem bp126_20 (call : QC FA) (ls : List (Option PV)) (L : QH FA) (F : Nat) : rnG call 126 (F + 1) 54 ls [vI 1] L = some (some (vI 1), L) := rfl
set_option maxRecDepth 100000 in
theorem bp126_21 (call : QC FA) (x1 : Int32) (x2 : Int32) (L : QH FA) (F : Nat) : rnG call 126 (F + 2) 42 [some (vR 0), some (vI x1), some (vI x2)] [] L = rnG call 126 F 44 [some (vR 0), some (vI x1), some (vI x2)] [vI 3, vR 0] L := rfl
set_option maxRecDepth 100000 in
theorem bp126_22 (call : QC FA) (a0 : Int32) (ls : List (Option PV)) (z : Nat → Int32) (f : Nat → FA) (F : Nat) : rnG call 126 (F + 1) 44 ls [vI a0, vR 0] (LPr z f) = cbd (call 138 [vR 0, vI a0] (LPr z f)) (fun r L' => rnG call 126 F 45 ls (r.toList ++ []) L') := pcY (ih := rnG call 126 F) (call := call) (a := 138) (b := 1) (v := 5) (t := 45) (x := 0) (ls := ls) (As := [vI a0]) (st' := []) (L := LPr z f) rfl rfl rfl
set_option maxRecDepth 100000 in
theorem bp126_23 (call : QC FA) (ls : List (Option PV)) (L : QH FA) (F : Nat) : rnG call 126 (F + 1) 45 ls [vI 0] L = some (some (vI 0), L) := rfl
set_option maxRecDepth 100000 in
theorem bp126_24 (call : QC FA) (x1 : Int32) (o2 : Option PV) (s0 : Int32) (L : QH FA) (F : Nat) : rnG call 126 (F + 2) 24 [some (vR 0), some (vI x1), o2] [vI s0] L = rnG call 126 F 27 [some (vR 0), some (vI x1), o2] [vI 320, vI s0] L := rfl
set_option maxRecDepth 100000 in
theorem bp126_25 (call : QC FA) (x1 : Int32) (o2 : Option PV) (z : Nat → Int32) (f : Nat → FA) (F : Nat) : rnG call 126 (F + 3) 2 [some (vR 0), some (vI x1), o2] [] (LPr z f) = rnG call 126 F 5 [some (vR 0), some (vI x1), o2] [vI 300, vI (z 5)] (LPr z f) := rfl
set_option maxRecDepth 100000 in
theorem bp126_26 (call : QC FA) (x y : Int32) (ls : List (Option PV)) (L : QH FA) (F : Nat) : rnG call 126 (F + 1) 5 ls [vI y, vI x] L = bif pcmp 0 x y then rnG call 126 F 14 ls [] L else rnG call 126 F 6 ls [] L := rfl
set_option maxRecDepth 100000 in
theorem bp126_27 (call : QC FA) (x1 : Int32) (o2 : Option PV) (L : QH FA) (F : Nat) : rnG call 126 (F + 5) 14 [some (vR 0), some (vI x1), o2] [] L = rnG call 126 F 33 [some (vR 0), some (vI x1), some (vI 1)] [vI 1] L := rfl
set_option maxRecDepth 100000 in
theorem bp126_28 (call : QC FA) (x1 : Int32) (o2 : Option PV) (z : Nat → Int32) (f : Nat → FA) (F : Nat) : rnG call 126 (F + 3) 6 [some (vR 0), some (vI x1), o2] [] (LPr z f) = rnG call 126 F 9 [some (vR 0), some (vI x1), o2] [vI 301, vI (z 5)] (LPr z f) := rfl
set_option maxRecDepth 100000 in
theorem bp126_29 (call : QC FA) (x y : Int32) (ls : List (Option PV)) (L : QH FA) (F : Nat) : rnG call 126 (F + 1) 9 ls [vI y, vI x] L = bif pcmp 0 x y then rnG call 126 F 14 ls [] L else rnG call 126 F 10 ls [] L := rfl
set_option maxRecDepth 100000 in
theorem bp126_30 (call : QC FA) (x1 : Int32) (o2 : Option PV) (z : Nat → Int32) (f : Nat → FA) (F : Nat) : rnG call 126 (F + 3) 10 [some (vR 0), some (vI x1), o2] [] (LPr z f) = rnG call 126 F 13 [some (vR 0), some (vI x1), o2] [vI 302, vI (z 5)] (LPr z f) := rfl
set_option maxRecDepth 100000 in
theorem bp126_31 (call : QC FA) (x y : Int32) (ls : List (Option PV)) (L : QH FA) (F : Nat) : rnG call 126 (F + 1) 13 ls [vI y, vI x] L = bif pcmp 1 x y then rnG call 126 F 16 ls [] L else rnG call 126 F 14 ls [] L := rfl
set_option maxRecDepth 100000 in
theorem bp126_32 (call : QC FA) (x1 : Int32) (o2 : Option PV) (L : QH FA) (F : Nat) : rnG call 126 (F + 4) 16 [some (vR 0), some (vI x1), o2] [] L = rnG call 126 F 33 [some (vR 0), some (vI x1), some (vI 0)] [vI 0] L := rfl
theorem vcp126_0 (call : QC FA) (hw : ∀ (a : Int32) (z : Nat → Int32) (f : Nat → FA), call 138 [vR 0, vI a] (LPr z f) = some (some (vI 0), LPr (uZ (uZ z 7 a) 8 (z 3)) f)) (x1 : Int32) (o2 : Option PV) (z : Nat → Int32) (f : Nat → FA) (res : Option PV × QH FA) (H : ((¬ x1 = 0 → ((¬ x1 = 2 → ((¬ z 5 = 317 → res = (some (vI 0), LPr (uZ (uZ z 7 1) 8 (z 3)) f)) ∧ (z 5 = 317 → ((I (z 11) < 16 → (∃ (z1 : Nat → Int32) (f1 : Nat → FA), call 128 [vR 0, vI 0, vI (z 5)] (LPr z f) = some (none, LPr z1 f1) ∧ (∃ (z2 : Nat → Int32) (f2 : Nat → FA), call 135 [vR 0] (LPr z1 f1) = some (none, LPr z2 f2) ∧ res = (some (vI 1), LPr z2 f2)))) ∧ (16 ≤ I (z 11) → res = (some (vI 0), LPr (uZ (uZ z 7 3) 8 (z 3)) f)))))) ∧ (x1 = 2 → ((¬ z 5 = 320 → res = (some (vI 0), LPr (uZ (uZ z 7 1) 8 (z 3)) f)) ∧ (z 5 = 320 → ((I (z 11) < 16 → (∃ (z3 : Nat → Int32) (f3 : Nat → FA), call 128 [vR 0, vI 0, vI (z 5)] (LPr z f) = some (none, LPr z3 f3) ∧ (∃ (z4 : Nat → Int32) (f4 : Nat → FA), call 135 [vR 0] (LPr z3 f3) = some (none, LPr z4 f4) ∧ res = (some (vI 1), LPr z4 f4)))) ∧ (16 ≤ I (z 11) → res = (some (vI 0), LPr (uZ (uZ z 7 3) 8 (z 3)) f)))))))) ∧ (x1 = 0 → ((z 5 = 300 → ((I (z 11) < 16 → (∃ (z5 : Nat → Int32) (f5 : Nat → FA), call 128 [vR 0, vI 0, vI (z 5)] (LPr z f) = some (none, LPr z5 f5) ∧ (∃ (z6 : Nat → Int32) (f6 : Nat → FA), call 135 [vR 0] (LPr z5 f5) = some (none, LPr z6 f6) ∧ res = (some (vI 1), LPr z6 f6)))) ∧ (16 ≤ I (z 11) → res = (some (vI 0), LPr (uZ (uZ z 7 3) 8 (z 3)) f)))) ∧ (¬ z 5 = 300 → ((z 5 = 301 → ((I (z 11) < 16 → (∃ (z7 : Nat → Int32) (f7 : Nat → FA), call 128 [vR 0, vI 0, vI (z 5)] (LPr z f) = some (none, LPr z7 f7) ∧ (∃ (z8 : Nat → Int32) (f8 : Nat → FA), call 135 [vR 0] (LPr z7 f7) = some (none, LPr z8 f8) ∧ res = (some (vI 1), LPr z8 f8)))) ∧ (16 ≤ I (z 11) → res = (some (vI 0), LPr (uZ (uZ z 7 3) 8 (z 3)) f)))) ∧ (¬ z 5 = 301 → ((¬ z 5 = 302 → res = (some (vI 0), LPr (uZ (uZ z 7 1) 8 (z 3)) f)) ∧ (z 5 = 302 → ((I (z 11) < 16 → (∃ (z9 : Nat → Int32) (f9 : Nat → FA), call 128 [vR 0, vI 0, vI (z 5)] (LPr z f) = some (none, LPr z9 f9) ∧ (∃ (z10 : Nat → Int32) (f10 : Nat → FA), call 135 [vR 0] (LPr z9 f9) = some (none, LPr z10 f10) ∧ res = (some (vI 1), LPr z10 f10)))) ∧ (16 ≤ I (z 11) → res = (some (vI 0), LPr (uZ (uZ z 7 3) 8 (z 3)) f)))))))))))) : RC call (mP 126) 0 [some (vR 0), some (vI x1), o2] [] (LPr z f) res := by
  refine rc_b (i' := 1) (ls' := [some (vR 0), some (vI x1), o2]) (st' := [vI x1]) (L' := LPr z f) 1 (bp126_1 call x1 o2 _) ?_
  refine rc_if (it := 19) (ie := 2) (ls' := [some (vR 0), some (vI x1), o2]) (st' := []) (bp126_2 call x1 _ _) (fun q1 => ?_) (fun q1 => ?_)
  · have H := H.1 (cI1t q1)
    refine rc_b (i' := 23) (ls' := [some (vR 0), some (vI x1), o2]) (st' := [vI 2, vI x1, vI (z 5)]) (L' := LPr z f) 4 (bp126_3 call x1 o2 z f) ?_
    refine rc_if (it := 26) (ie := 24) (ls' := [some (vR 0), some (vI x1), o2]) (st' := [vI (z 5)]) (bp126_4 call x1 2 (z 5) _ _) (fun q2 => ?_) (fun q2 => ?_)
    · have H := H.1 (cI1t q2)
      refine rc_b (i' := 27) (ls' := [some (vR 0), some (vI x1), o2]) (st' := [vI 317, vI (z 5)]) (L' := LPr z f) 1 (bp126_5 call x1 o2 (z 5) _) ?_
      refine rc_if (it := 30) (ie := 28) (ls' := [some (vR 0), some (vI x1), o2]) (st' := []) (bp126_6 call (z 5) 317 _ _) (fun q3 => ?_) (fun q3 => ?_)
      · have H := H.1 (cI1t q3)
        refine rc_b (i' := 33) (ls' := [some (vR 0), some (vI x1), some (vI 0)]) (st' := [vI 0]) (L' := LPr z f) 3 (bp126_7 call x1 o2 _) ?_
        refine rc_f (it := 38) (ie := 34) (ls' := [some (vR 0), some (vI x1), some (vI 0)]) (st' := []) (bp126_8 call 0 _ _) (by decide) ?_
        refine rc_b (i' := 36) (ls' := [some (vR 0), some (vI x1), some (vI 0)]) (st' := [vI 1, vR 0]) (L' := LPr z f) 2 (bp126_9 call x1 0 _) ?_
        refine rc_call (t := 37) (ls' := [some (vR 0), some (vI x1), some (vI 0)]) (st' := []) (bp126_10 call 1 _ z f) (hw 1 z f) ?_
        show RC call (mP 126) 37 [some (vR 0), some (vI x1), some (vI 0)] [vI 0] (LPr (uZ (uZ z 7 1) 8 (z 3)) f) res
        subst H
        exact rc_ret (bp126_11 call _ _)
      · have H := H.2 (cI1f q3)
        refine rc_b (i' := 33) (ls' := [some (vR 0), some (vI x1), some (vI 1)]) (st' := [vI 1]) (L' := LPr z f) 4 (bp126_12 call x1 o2 _) ?_
        refine rc_t (it := 38) (ie := 34) (ls' := [some (vR 0), some (vI x1), some (vI 1)]) (st' := []) (bp126_8 call 1 _ _) (by decide) ?_
        refine rc_b (i' := 41) (ls' := [some (vR 0), some (vI x1), some (vI 1)]) (st' := [vI 16, vI (z 11)]) (L' := LPr z f) 3 (bp126_13 call x1 1 z f) ?_
        refine rc_if (it := 46) (ie := 42) (ls' := [some (vR 0), some (vI x1), some (vI 1)]) (st' := []) (bp126_14 call (z 11) 16 _ _) (fun q4 => ?_) (fun q4 => ?_)
        · have H := H.1 (cI2t q4 rfl rfl)
          refine rc_b (i' := 50) (ls' := [some (vR 0), some (vI x1), some (vI 1)]) (st' := [vI (z 5), vI 0, vR 0]) (L' := LPr z f) 4 (bp126_15 call x1 1 z f) ?_
          obtain ⟨z1, f1, hc, H⟩ := H
          refine rc_call (t := 51) (ls' := [some (vR 0), some (vI x1), some (vI 1)]) (st' := []) (bp126_16 call 0 (z 5) _ z f) hc ?_
          show RC call (mP 126) 51 [some (vR 0), some (vI x1), some (vI 1)] [] (LPr z1 f1) res
          refine rc_b (i' := 52) (ls' := [some (vR 0), some (vI x1), some (vI 1)]) (st' := [vR 0]) (L' := LPr z1 f1) 1 (bp126_17 call x1 1 _) ?_
          obtain ⟨z2, f2, hc, H⟩ := H
          refine rc_call (t := 53) (ls' := [some (vR 0), some (vI x1), some (vI 1)]) (st' := []) (bp126_18 call _ z1 f1) hc ?_
          show RC call (mP 126) 53 [some (vR 0), some (vI x1), some (vI 1)] [] (LPr z2 f2) res
          refine rc_b (i' := 54) (ls' := [some (vR 0), some (vI x1), some (vI 1)]) (st' := [vI 1]) (L' := LPr z2 f2) 1 (bp126_19 call x1 1 _) ?_
          subst H
          exact rc_ret (bp126_20 call _ _)
        · have H := H.2 (cI2f q4 rfl rfl)
          refine rc_b (i' := 44) (ls' := [some (vR 0), some (vI x1), some (vI 1)]) (st' := [vI 3, vR 0]) (L' := LPr z f) 2 (bp126_21 call x1 1 _) ?_
          refine rc_call (t := 45) (ls' := [some (vR 0), some (vI x1), some (vI 1)]) (st' := []) (bp126_22 call 3 _ z f) (hw 3 z f) ?_
          show RC call (mP 126) 45 [some (vR 0), some (vI x1), some (vI 1)] [vI 0] (LPr (uZ (uZ z 7 3) 8 (z 3)) f) res
          subst H
          exact rc_ret (bp126_23 call _ _)
    · have H := H.2 (cI1f q2)
      refine rc_b (i' := 27) (ls' := [some (vR 0), some (vI x1), o2]) (st' := [vI 320, vI (z 5)]) (L' := LPr z f) 2 (bp126_24 call x1 o2 (z 5) _) ?_
      refine rc_if (it := 30) (ie := 28) (ls' := [some (vR 0), some (vI x1), o2]) (st' := []) (bp126_6 call (z 5) 320 _ _) (fun q5 => ?_) (fun q5 => ?_)
      · have H := H.1 (cI1t q5)
        refine rc_b (i' := 33) (ls' := [some (vR 0), some (vI x1), some (vI 0)]) (st' := [vI 0]) (L' := LPr z f) 3 (bp126_7 call x1 o2 _) ?_
        refine rc_f (it := 38) (ie := 34) (ls' := [some (vR 0), some (vI x1), some (vI 0)]) (st' := []) (bp126_8 call 0 _ _) (by decide) ?_
        refine rc_b (i' := 36) (ls' := [some (vR 0), some (vI x1), some (vI 0)]) (st' := [vI 1, vR 0]) (L' := LPr z f) 2 (bp126_9 call x1 0 _) ?_
        refine rc_call (t := 37) (ls' := [some (vR 0), some (vI x1), some (vI 0)]) (st' := []) (bp126_10 call 1 _ z f) (hw 1 z f) ?_
        show RC call (mP 126) 37 [some (vR 0), some (vI x1), some (vI 0)] [vI 0] (LPr (uZ (uZ z 7 1) 8 (z 3)) f) res
        subst H
        exact rc_ret (bp126_11 call _ _)
      · have H := H.2 (cI1f q5)
        refine rc_b (i' := 33) (ls' := [some (vR 0), some (vI x1), some (vI 1)]) (st' := [vI 1]) (L' := LPr z f) 4 (bp126_12 call x1 o2 _) ?_
        refine rc_t (it := 38) (ie := 34) (ls' := [some (vR 0), some (vI x1), some (vI 1)]) (st' := []) (bp126_8 call 1 _ _) (by decide) ?_
        refine rc_b (i' := 41) (ls' := [some (vR 0), some (vI x1), some (vI 1)]) (st' := [vI 16, vI (z 11)]) (L' := LPr z f) 3 (bp126_13 call x1 1 z f) ?_
        refine rc_if (it := 46) (ie := 42) (ls' := [some (vR 0), some (vI x1), some (vI 1)]) (st' := []) (bp126_14 call (z 11) 16 _ _) (fun q6 => ?_) (fun q6 => ?_)
        · have H := H.1 (cI2t q6 rfl rfl)
          refine rc_b (i' := 50) (ls' := [some (vR 0), some (vI x1), some (vI 1)]) (st' := [vI (z 5), vI 0, vR 0]) (L' := LPr z f) 4 (bp126_15 call x1 1 z f) ?_
          obtain ⟨z3, f3, hc, H⟩ := H
          refine rc_call (t := 51) (ls' := [some (vR 0), some (vI x1), some (vI 1)]) (st' := []) (bp126_16 call 0 (z 5) _ z f) hc ?_
          show RC call (mP 126) 51 [some (vR 0), some (vI x1), some (vI 1)] [] (LPr z3 f3) res
          refine rc_b (i' := 52) (ls' := [some (vR 0), some (vI x1), some (vI 1)]) (st' := [vR 0]) (L' := LPr z3 f3) 1 (bp126_17 call x1 1 _) ?_
          obtain ⟨z4, f4, hc, H⟩ := H
          refine rc_call (t := 53) (ls' := [some (vR 0), some (vI x1), some (vI 1)]) (st' := []) (bp126_18 call _ z3 f3) hc ?_
          show RC call (mP 126) 53 [some (vR 0), some (vI x1), some (vI 1)] [] (LPr z4 f4) res
          refine rc_b (i' := 54) (ls' := [some (vR 0), some (vI x1), some (vI 1)]) (st' := [vI 1]) (L' := LPr z4 f4) 1 (bp126_19 call x1 1 _) ?_
          subst H
          exact rc_ret (bp126_20 call _ _)
        · have H := H.2 (cI2f q6 rfl rfl)
          refine rc_b (i' := 44) (ls' := [some (vR 0), some (vI x1), some (vI 1)]) (st' := [vI 3, vR 0]) (L' := LPr z f) 2 (bp126_21 call x1 1 _) ?_
          refine rc_call (t := 45) (ls' := [some (vR 0), some (vI x1), some (vI 1)]) (st' := []) (bp126_22 call 3 _ z f) (hw 3 z f) ?_
          show RC call (mP 126) 45 [some (vR 0), some (vI x1), some (vI 1)] [vI 0] (LPr (uZ (uZ z 7 3) 8 (z 3)) f) res
          subst H
          exact rc_ret (bp126_23 call _ _)
  · have H := H.2 (cI1f q1)
    refine rc_b (i' := 5) (ls' := [some (vR 0), some (vI x1), o2]) (st' := [vI 300, vI (z 5)]) (L' := LPr z f) 3 (bp126_25 call x1 o2 z f) ?_
    refine rc_if (it := 14) (ie := 6) (ls' := [some (vR 0), some (vI x1), o2]) (st' := []) (bp126_26 call (z 5) 300 _ _) (fun q7 => ?_) (fun q7 => ?_)
    · have H := H.1 (cI0t q7)
      refine rc_b (i' := 33) (ls' := [some (vR 0), some (vI x1), some (vI 1)]) (st' := [vI 1]) (L' := LPr z f) 5 (bp126_27 call x1 o2 _) ?_
      refine rc_t (it := 38) (ie := 34) (ls' := [some (vR 0), some (vI x1), some (vI 1)]) (st' := []) (bp126_8 call 1 _ _) (by decide) ?_
      refine rc_b (i' := 41) (ls' := [some (vR 0), some (vI x1), some (vI 1)]) (st' := [vI 16, vI (z 11)]) (L' := LPr z f) 3 (bp126_13 call x1 1 z f) ?_
      refine rc_if (it := 46) (ie := 42) (ls' := [some (vR 0), some (vI x1), some (vI 1)]) (st' := []) (bp126_14 call (z 11) 16 _ _) (fun q8 => ?_) (fun q8 => ?_)
      · have H := H.1 (cI2t q8 rfl rfl)
        refine rc_b (i' := 50) (ls' := [some (vR 0), some (vI x1), some (vI 1)]) (st' := [vI (z 5), vI 0, vR 0]) (L' := LPr z f) 4 (bp126_15 call x1 1 z f) ?_
        obtain ⟨z5, f5, hc, H⟩ := H
        refine rc_call (t := 51) (ls' := [some (vR 0), some (vI x1), some (vI 1)]) (st' := []) (bp126_16 call 0 (z 5) _ z f) hc ?_
        show RC call (mP 126) 51 [some (vR 0), some (vI x1), some (vI 1)] [] (LPr z5 f5) res
        refine rc_b (i' := 52) (ls' := [some (vR 0), some (vI x1), some (vI 1)]) (st' := [vR 0]) (L' := LPr z5 f5) 1 (bp126_17 call x1 1 _) ?_
        obtain ⟨z6, f6, hc, H⟩ := H
        refine rc_call (t := 53) (ls' := [some (vR 0), some (vI x1), some (vI 1)]) (st' := []) (bp126_18 call _ z5 f5) hc ?_
        show RC call (mP 126) 53 [some (vR 0), some (vI x1), some (vI 1)] [] (LPr z6 f6) res
        refine rc_b (i' := 54) (ls' := [some (vR 0), some (vI x1), some (vI 1)]) (st' := [vI 1]) (L' := LPr z6 f6) 1 (bp126_19 call x1 1 _) ?_
        subst H
        exact rc_ret (bp126_20 call _ _)
      · have H := H.2 (cI2f q8 rfl rfl)
        refine rc_b (i' := 44) (ls' := [some (vR 0), some (vI x1), some (vI 1)]) (st' := [vI 3, vR 0]) (L' := LPr z f) 2 (bp126_21 call x1 1 _) ?_
        refine rc_call (t := 45) (ls' := [some (vR 0), some (vI x1), some (vI 1)]) (st' := []) (bp126_22 call 3 _ z f) (hw 3 z f) ?_
        show RC call (mP 126) 45 [some (vR 0), some (vI x1), some (vI 1)] [vI 0] (LPr (uZ (uZ z 7 3) 8 (z 3)) f) res
        subst H
        exact rc_ret (bp126_23 call _ _)
    · have H := H.2 (cI0f q7)
      refine rc_b (i' := 9) (ls' := [some (vR 0), some (vI x1), o2]) (st' := [vI 301, vI (z 5)]) (L' := LPr z f) 3 (bp126_28 call x1 o2 z f) ?_
      refine rc_if (it := 14) (ie := 10) (ls' := [some (vR 0), some (vI x1), o2]) (st' := []) (bp126_29 call (z 5) 301 _ _) (fun q9 => ?_) (fun q9 => ?_)
      · have H := H.1 (cI0t q9)
        refine rc_b (i' := 33) (ls' := [some (vR 0), some (vI x1), some (vI 1)]) (st' := [vI 1]) (L' := LPr z f) 5 (bp126_27 call x1 o2 _) ?_
        refine rc_t (it := 38) (ie := 34) (ls' := [some (vR 0), some (vI x1), some (vI 1)]) (st' := []) (bp126_8 call 1 _ _) (by decide) ?_
        refine rc_b (i' := 41) (ls' := [some (vR 0), some (vI x1), some (vI 1)]) (st' := [vI 16, vI (z 11)]) (L' := LPr z f) 3 (bp126_13 call x1 1 z f) ?_
        refine rc_if (it := 46) (ie := 42) (ls' := [some (vR 0), some (vI x1), some (vI 1)]) (st' := []) (bp126_14 call (z 11) 16 _ _) (fun q10 => ?_) (fun q10 => ?_)
        · have H := H.1 (cI2t q10 rfl rfl)
          refine rc_b (i' := 50) (ls' := [some (vR 0), some (vI x1), some (vI 1)]) (st' := [vI (z 5), vI 0, vR 0]) (L' := LPr z f) 4 (bp126_15 call x1 1 z f) ?_
          obtain ⟨z7, f7, hc, H⟩ := H
          refine rc_call (t := 51) (ls' := [some (vR 0), some (vI x1), some (vI 1)]) (st' := []) (bp126_16 call 0 (z 5) _ z f) hc ?_
          show RC call (mP 126) 51 [some (vR 0), some (vI x1), some (vI 1)] [] (LPr z7 f7) res
          refine rc_b (i' := 52) (ls' := [some (vR 0), some (vI x1), some (vI 1)]) (st' := [vR 0]) (L' := LPr z7 f7) 1 (bp126_17 call x1 1 _) ?_
          obtain ⟨z8, f8, hc, H⟩ := H
          refine rc_call (t := 53) (ls' := [some (vR 0), some (vI x1), some (vI 1)]) (st' := []) (bp126_18 call _ z7 f7) hc ?_
          show RC call (mP 126) 53 [some (vR 0), some (vI x1), some (vI 1)] [] (LPr z8 f8) res
          refine rc_b (i' := 54) (ls' := [some (vR 0), some (vI x1), some (vI 1)]) (st' := [vI 1]) (L' := LPr z8 f8) 1 (bp126_19 call x1 1 _) ?_
          subst H
          exact rc_ret (bp126_20 call _ _)
        · have H := H.2 (cI2f q10 rfl rfl)
          refine rc_b (i' := 44) (ls' := [some (vR 0), some (vI x1), some (vI 1)]) (st' := [vI 3, vR 0]) (L' := LPr z f) 2 (bp126_21 call x1 1 _) ?_
          refine rc_call (t := 45) (ls' := [some (vR 0), some (vI x1), some (vI 1)]) (st' := []) (bp126_22 call 3 _ z f) (hw 3 z f) ?_
          show RC call (mP 126) 45 [some (vR 0), some (vI x1), some (vI 1)] [vI 0] (LPr (uZ (uZ z 7 3) 8 (z 3)) f) res
          subst H
          exact rc_ret (bp126_23 call _ _)
      · have H := H.2 (cI0f q9)
        refine rc_b (i' := 13) (ls' := [some (vR 0), some (vI x1), o2]) (st' := [vI 302, vI (z 5)]) (L' := LPr z f) 3 (bp126_30 call x1 o2 z f) ?_
        refine rc_if (it := 16) (ie := 14) (ls' := [some (vR 0), some (vI x1), o2]) (st' := []) (bp126_31 call (z 5) 302 _ _) (fun q11 => ?_) (fun q11 => ?_)
        · have H := H.1 (cI1t q11)
          refine rc_b (i' := 33) (ls' := [some (vR 0), some (vI x1), some (vI 0)]) (st' := [vI 0]) (L' := LPr z f) 4 (bp126_32 call x1 o2 _) ?_
          refine rc_f (it := 38) (ie := 34) (ls' := [some (vR 0), some (vI x1), some (vI 0)]) (st' := []) (bp126_8 call 0 _ _) (by decide) ?_
          refine rc_b (i' := 36) (ls' := [some (vR 0), some (vI x1), some (vI 0)]) (st' := [vI 1, vR 0]) (L' := LPr z f) 2 (bp126_9 call x1 0 _) ?_
          refine rc_call (t := 37) (ls' := [some (vR 0), some (vI x1), some (vI 0)]) (st' := []) (bp126_10 call 1 _ z f) (hw 1 z f) ?_
          show RC call (mP 126) 37 [some (vR 0), some (vI x1), some (vI 0)] [vI 0] (LPr (uZ (uZ z 7 1) 8 (z 3)) f) res
          subst H
          exact rc_ret (bp126_11 call _ _)
        · have H := H.2 (cI1f q11)
          refine rc_b (i' := 33) (ls' := [some (vR 0), some (vI x1), some (vI 1)]) (st' := [vI 1]) (L' := LPr z f) 5 (bp126_27 call x1 o2 _) ?_
          refine rc_t (it := 38) (ie := 34) (ls' := [some (vR 0), some (vI x1), some (vI 1)]) (st' := []) (bp126_8 call 1 _ _) (by decide) ?_
          refine rc_b (i' := 41) (ls' := [some (vR 0), some (vI x1), some (vI 1)]) (st' := [vI 16, vI (z 11)]) (L' := LPr z f) 3 (bp126_13 call x1 1 z f) ?_
          refine rc_if (it := 46) (ie := 42) (ls' := [some (vR 0), some (vI x1), some (vI 1)]) (st' := []) (bp126_14 call (z 11) 16 _ _) (fun q12 => ?_) (fun q12 => ?_)
          · have H := H.1 (cI2t q12 rfl rfl)
            refine rc_b (i' := 50) (ls' := [some (vR 0), some (vI x1), some (vI 1)]) (st' := [vI (z 5), vI 0, vR 0]) (L' := LPr z f) 4 (bp126_15 call x1 1 z f) ?_
            obtain ⟨z9, f9, hc, H⟩ := H
            refine rc_call (t := 51) (ls' := [some (vR 0), some (vI x1), some (vI 1)]) (st' := []) (bp126_16 call 0 (z 5) _ z f) hc ?_
            show RC call (mP 126) 51 [some (vR 0), some (vI x1), some (vI 1)] [] (LPr z9 f9) res
            refine rc_b (i' := 52) (ls' := [some (vR 0), some (vI x1), some (vI 1)]) (st' := [vR 0]) (L' := LPr z9 f9) 1 (bp126_17 call x1 1 _) ?_
            obtain ⟨z10, f10, hc, H⟩ := H
            refine rc_call (t := 53) (ls' := [some (vR 0), some (vI x1), some (vI 1)]) (st' := []) (bp126_18 call _ z9 f9) hc ?_
            show RC call (mP 126) 53 [some (vR 0), some (vI x1), some (vI 1)] [] (LPr z10 f10) res
            refine rc_b (i' := 54) (ls' := [some (vR 0), some (vI x1), some (vI 1)]) (st' := [vI 1]) (L' := LPr z10 f10) 1 (bp126_19 call x1 1 _) ?_
            subst H
            exact rc_ret (bp126_20 call _ _)
          · have H := H.2 (cI2f q12 rfl rfl)
            refine rc_b (i' := 44) (ls' := [some (vR 0), some (vI x1), some (vI 1)]) (st' := [vI 3, vR 0]) (L' := LPr z f) 2 (bp126_21 call x1 1 _) ?_
            refine rc_call (t := 45) (ls' := [some (vR 0), some (vI x1), some (vI 1)]) (st' := []) (bp126_22 call 3 _ z f) (hw 3 z f) ?_
            show RC call (mP 126) 45 [some (vR 0), some (vI x1), some (vI 1)] [vI 0] (LPr (uZ (uZ z 7 3) 8 (z 3)) f) res
            subst H
            exact rc_ret (bp126_23 call _ _)
theorem pcT_eq {x : Int32} {tk : Nat} (h : pcT x tk) (ht : tk < 326) (c : Nat) (hc : c < 326) (h3 : c ≠ 3 ∧ c ≠ 44 ∧ c ≠ 46 ∧ c ≠ 58) : x = nI c ↔ tk = c := by
  rcases h with rfl | ⟨rfl, h⟩
  · exact ⟨fun q => nI_inj (by omega) (by omega) q, fun q => by rw [q]⟩
  · constructor
    · intro q
      have n44 : (44 : Int32) = nI 44 := rfl
      have n46 : (46 : Int32) = nI 46 := rfl
      have n58 : (58 : Int32) = nI 58 := rfl
      rw [n44, n46, n58, q] at h
      rcases h with h | h | h <;> have := nI_inj (by omega) (by omega) h <;> omega
    · intro q
      omega
theorem pcT_in {x : Int32} {tk : Nat} (h : pcT x tk) (ht : tk < 326) {a b : Nat} (ha : 63 ≤ a) : ((a : Int) ≤ I x ∧ I x ≤ (b : Int)) ↔ (a ≤ tk ∧ tk ≤ b) := by
  rcases h with rfl | ⟨rfl, h⟩
  · rw [I_nI (by omega)]
    omega
  · have : I x ≤ 58 := by rcases h with h | h | h <;> rw [h] <;> decide
    omega
theorem tkC_lo {g g' : FA} : ∀ (C : List TK) (i : Nat), (∀ k, k < i + C.length → g' k = g k) → tkC C g i → tkC C g' i := by
  intro C
  induction C with
  | nil => intro i _ _; trivial
  | cons e C ih =>
    intro i h hC
    have h : ∀ k, k < i + (C.length + 1) → g' k = g k := h
    obtain ⟨⟨h1, h2, h3⟩, h4⟩ := hC
    exact ⟨⟨h1, h2, by rw [h i (by omega)]; exact h3⟩, ih (i + 1) (fun k hk => h k (by omega)) h4⟩
theorem tkC_app {g : FA} {D : List TK} : ∀ (C : List TK) (i : Nat), tkC (C ++ D) g i ↔ tkC C g i ∧ tkC D g (i + C.length) := by
  intro C
  induction C with
  | nil => intro i; exact ⟨fun h => ⟨trivial, h⟩, fun h => h.2⟩
  | cons e C ih =>
    intro i
    have e1 : i + 1 + C.length = i + (e :: C).length := by show i + 1 + C.length = i + (C.length + 1); omega
    constructor
    · intro h
      obtain ⟨h1, h2⟩ := h
      obtain ⟨h3, h4⟩ := (ih (i + 1)).mp h2
      rw [e1] at h4
      exact ⟨⟨h1, h3⟩, h4⟩
    · intro h
      obtain ⟨⟨h1, h2⟩, h3⟩ := h
      rw [← e1] at h3
      exact ⟨h1, (ih (i + 1)).mpr ⟨h2, h3⟩⟩
theorem shl4 {a v : Nat} (ha : v < 16) (hv : a < 1000000) : (nI a <<< ((4 : Int32) &&& 31)) ||| nI v = nI (a * 16 + v) := by
  rw [← Int32.toBitVec_inj]
  have e0 : ((4 : Int32) &&& 31).toBitVec.smod 32#32 = 4#32 := by decide
  have e1 : (nI a <<< ((4 : Int32) &&& 31)).toBitVec = (nI a).toBitVec <<< 4#32 := by
    show (nI a).toBitVec <<< (((4 : Int32) &&& 31).toBitVec.smod 32#32) = _
    rw [e0]
  show (nI a <<< ((4 : Int32) &&& 31)).toBitVec ||| (nI v).toBitVec = (nI (a * 16 + v)).toBitVec
  rw [e1]
  apply BitVec.eq_of_toNat_eq
  have x1 : (nI a).toBitVec.toNat = a := ix_nI (j := a) (by omega)
  have x2 : (nI v).toBitVec.toNat = v := ix_nI (j := v) (by omega)
  have x3 : (nI (a * 16 + v)).toBitVec.toNat = a * 16 + v := ix_nI (j := a * 16 + v) (by omega)
  have x4 : ((nI a).toBitVec <<< 4#32).toNat = a * 2 ^ 4 := by
    show ((nI a).toBitVec <<< 4).toNat = a * 2 ^ 4
    rw [BitVec.toNat_shiftLeft, x1, Nat.shiftLeft_eq]
    omega
  rw [BitVec.toNat_or, x4, x2, x3, ← Nat.shiftLeft_eq, ← Nat.shiftLeft_add_eq_or_of_lt (show v < 2 ^ 4 by omega), Nat.shiftLeft_eq]
/-- the reader looks at the first of these tokens and has written these codes -/
def pcR (t : FA) (n : Nat) (ts : List TT) (C : List TK) (z : Nat → Int32) (f : Nat → FA) : Prop := (f 1 = t ∧ z 2 = nI n ∧ n ≤ 400) ∧ (∃ pl nx tk v, pxAt t n pl nx tk v ts ∧ z 3 = nI pl ∧ z 4 = nI nx ∧ pcT (z 5) tk ∧ (tk = 1 → z 6 = nI v)) ∧ z 13 = nI C.length ∧ tkC C (f 3) 0
theorem pcR_hd {t : FA} {n : Nat} {ts : List TT} {C : List TK} {z : Nat → Int32} {f : Nat → FA} (h : pcR t n ts C z f) : ∃ x r, ts = x :: r ∧ z 3 = nI x.1 ∧ pcT (z 5) x.2.1 ∧ (x.2.1 = 1 → z 6 = nI x.2.2 ∧ x.2.2 < 10000) ∧ x.2.1 < 326 := by
  obtain ⟨-, ⟨pl, nx, tk, v, ⟨h1, h2, h3, k, h4, h5⟩, h6, h7, h8, h9⟩, -⟩ := h
  exact ⟨(pl, tk, v), _, h5, h6, h8, fun q => ⟨h9 q, h3 q⟩, pxtk_lt h2⟩
theorem pcR_hd2 {t : FA} {n : Nat} {x : TT} {r : List TT} {C : List TK} {z : Nat → Int32} {f : Nat → FA} (h : pcR t n (x :: r) C z f) : z 3 = nI x.1 ∧ pcT (z 5) x.2.1 ∧ (x.2.1 = 1 → z 6 = nI x.2.2 ∧ x.2.2 < 10000) ∧ x.2.1 < 326 := by
  obtain ⟨x', r', e, h1⟩ := pcR_hd h
  have e1 := (List.cons.inj e).1
  subst e1
  exact h1
theorem pstep {t : FA} {n : Nat} {x : TT} {r : List TT} {C : List TK} {z : Nat → Int32} {f : Nat → FA} (h : pcR t n (x :: r) C z f) (hx : ¬ x.2.1 = 2) (d : Nat) : ∃ z', pcall (d + 2) 135 [vR 0] (LPr z f) = some (none, LPr z' f) ∧ pcR t n r C z' f ∧ PDZ z z' := by
  obtain ⟨⟨g1, g2, g3⟩, ⟨pl, nx, tk, v, hA, h6, h7, h8, h9⟩, h10, h11⟩ := h
  have hA0 := hA
  obtain ⟨h1, h2, h3, k, h4, h5⟩ := hA
  have e1 : x = (pl, tk, v) := (List.cons.inj h5).1
  have hx : ¬ tk = 2 := by rw [e1] at hx; exact hx
  obtain ⟨z', k1, k2, k3, k4, k5, k6⟩ := step_x d g3 h1 g2 h7 (f := f)
  have hs := pxAt_s hA0 hx
  rw [← g1] at hs
  refine ⟨z', k1, ⟨⟨g1, (k2 2 (by decide) (by decide) (by decide) (by decide)).trans g2, g3⟩, ⟨_, _, _, _, ?_, k3, k4, k5, k6⟩, (k2 13 (by decide) (by decide) (by decide) (by decide)).trans h10, h11⟩, k2⟩
  rw [← g1]
  exact hs
/-- what reading leaves alone -/
def PKZ (z : Nat → Int32) (f : Nat → FA) (z' : Nat → Int32) (f' : Nat → FA) : Prop := (∀ j, j ≠ 3 → j ≠ 4 → j ≠ 5 → j ≠ 6 → j ≠ 13 → z' j = z j) ∧ (∀ k, k ≠ 3 → f' k = f k)
theorem PKZ.rf {z : Nat → Int32} {f : Nat → FA} : PKZ z f z f := ⟨fun _ _ _ _ _ _ => rfl, fun _ _ => rfl⟩
theorem PKZ.tr {z1 z2 z3 : Nat → Int32} {f1 f2 f3 : Nat → FA} (h1 : PKZ z1 f1 z2 f2) (h2 : PKZ z2 f2 z3 f3) : PKZ z1 f1 z3 f3 := ⟨fun j a b c e g => (h2.1 j a b c e g).trans (h1.1 j a b c e g), fun k hk => (h2.2 k hk).trans (h1.2 k hk)⟩
theorem PKZ.st {z z' : Nat → Int32} {f : Nat → FA} (h : PDZ z z') : PKZ z f z' f := ⟨fun j a b c e _ => h j a b c e, fun _ _ => rfl⟩
theorem pemit {t : FA} {n : Nat} {ts : List TT} {C : List TK} {z : Nat → Int32} {f : Nat → FA} (h : pcR t n ts C z f) {o a : Nat} (ho : o < 12) (ha : a < 100000) (hC : C.length < 400) (d : Nat) : ∃ z' f', pcall (d + 1) 121 [vR 0, vI (nI o), vI (nI a)] (LPr z f) = some (none, LPr z' f') ∧ pcR t n ts (C ++ [(o, a)]) z' f' ∧ PKZ z f z' f' ∧ z' 5 = z 5 := by
  obtain ⟨⟨g1, g2, g3⟩, ⟨pl, nx, tk, v, hA, h6, h7, h8, h9⟩, h10, h11⟩ := h
  have i13 : I (z 13) = C.length := by rw [h10]; exact I_nI (by omega)
  have x13 : ix (z 13) = C.length := by rw [h10]; exact ix_nI (by omega)
  have e13 : z 13 + 1 = nI (C.length + 1) := by rw [h10]; exact nI_add _ 1
  refine ⟨uZ z 13 (nI (C.length + 1)), uA f 3 (upd (f 3) C.length (nI (a * 16 + o))), pcall_i (by decide) (mq121 (cu := [])).2.2 rfl (vcp121_0 (pcall d) (nI o) (nI a) z f _ ⟨fun q => by omega, fun _ => ⟨by rw [h10]; exact pin_nI (by omega) (by omega), ?_⟩⟩), ⟨⟨?_, ?_, g3⟩, ⟨pl, nx, tk, v, hA, ?_, ?_, ?_, ?_⟩, ?_, ?_⟩, ⟨fun j _ _ _ _ q => uZ_n q, fun k q => uA_ne q⟩, uZ_n (by decide)⟩
  · rw [x13, e13, shl4 (by omega) (by omega)]
  · rw [uA_ne (by decide)]; exact g1
  · rw [uZ_n (by decide)]; exact g2
  · rw [uZ_n (by decide)]; exact h6
  · rw [uZ_n (by decide)]; exact h7
  · rw [uZ_n (by decide)]; exact h8
  · rw [uZ_n (by decide)]; exact h9
  · rw [uZ_s, List.length_append]
    rfl
  · rw [uA_self]
    refine (tkC_app C 0).mpr ⟨tkC_lo C 0 (fun k hk => pk_un (by omega)) h11, ⟨ho, ha, ?_⟩, trivial⟩
    rw [Nat.zero_add, pk_us]
/-- how a reading ends: a fault told, or so many tokens and codes further -/
def PRs (K : Option PV × QH FA → Prop) (t : FA) (n : Nat) (C : List TK) (z : Nat → Int32) (f : Nat → FA) (r : PSS) : Prop := match r with
  | .inl e => ∃ z' f', K (some (vI 0), LPr (uZ (uZ z' 7 (nI e.1)) 8 (nI e.2)) f') ∧ PKZ z f z' f'
  | .inr (c, ts) => ∃ z' f', K (some (vI 1), LPr z' f') ∧ pcR t n ts (C ++ c) z' f' ∧ PKZ z f z' f'
theorem PRs.mono {K K' : Option PV × QH FA → Prop} {t : FA} {n : Nat} {C : List TK} {z z1 : Nat → Int32} {f f1 : Nat → FA} {r : PSS} (h : PRs K t n C z1 f1 r) (hk : ∀ res, K res → K' res) (h0 : PKZ z f z1 f1) : PRs K' t n C z f r := by
  rcases r with e | ⟨c, ts⟩
  · obtain ⟨z', f', a, b⟩ := h
    exact ⟨z', f', hk _ a, h0.tr b⟩
  · obtain ⟨z', f', a, b, c⟩ := h
    exact ⟨z', f', hk _ a, b, h0.tr c⟩
theorem PRs.pre {K K' : Option PV × QH FA → Prop} {t : FA} {n : Nat} {C c : List TK} {z z1 : Nat → Int32} {f f1 : Nat → FA} {r : PSS} (h : PRs K t n (C ++ c) z1 f1 r) (hk : ∀ res, K res → K' res) (h0 : PKZ z f z1 f1) : PRs K' t n C z f (pxp c r) := by
  rcases r with e | ⟨d, ts⟩
  · obtain ⟨z', f', a, b⟩ := h
    exact ⟨z', f', hk _ a, h0.tr b⟩
  · obtain ⟨z', f', a, b, e⟩ := h
    rw [List.append_assoc] at b
    exact ⟨z', f', hk _ a, b, h0.tr e⟩
theorem one_n : ¬ (1 : Int32) = 0 := by decide
theorem pcR_tl {t : FA} {n : Nat} {x : TT} {r : List TT} {C : List TK} {z : Nat → Int32} {f : Nat → FA} (h : pcR t n (x :: r) C z f) (hx : ¬ x.2.1 = 2) : ∃ y r', r = y :: r' := by
  obtain ⟨z', -, h2, -⟩ := pstep h hx 0
  obtain ⟨y, r', e, -⟩ := pcR_hd h2
  exact ⟨y, r', e⟩
theorem punit {j0 : Nat} {t : FA} {n : Nat} {x : TT} {r : List TT} {C : List TK} {z : Nat → Int32} {f : Nat → FA} (h : pcR t n (x :: r) C z f) (hC : C.length + 1 + pwt j0 ≤ 400) (hj : j0 < 1000) (d : Nat) : PRs (fun res => pcall (d + 3) 122 [vR 0, vI (nI j0)] (LPr z f) = some res) t n C z f (match pU j0 x with
    | .inl e => .inl e
    | .inr c => .inr (c, x :: r)) := by
  obtain ⟨a1, a2, a3, a4⟩ := pcR_hd2 h
  have w : ∀ (a : Int32) (z : Nat → Int32) (f : Nat → FA), pcall (d + 2) 138 [vR 0, vI a] (LPr z f) = some (some (vI 0), LPr (uZ (uZ z 7 a) 8 (z 3)) f) := pWrong (d + 1)
  have t1 := pcT_eq a2 a4 1 (by decide) (by decide)
  have j47 : nI j0 = 47 ↔ j0 = 47 := ⟨fun q => nI_inj (by omega) (by omega) q, fun q => by rw [q]; rfl⟩
  have j42 : nI j0 = 42 ↔ j0 = 42 := ⟨fun q => nI_inj (by omega) (by omega) q, fun q => by rw [q]; rfl⟩
  have go : ∀ res, _ → pcall (d + 3) 122 [vR 0, vI (nI j0)] (LPr z f) = some res := fun res H => pcall_i (by decide) (mq122 (cu := [])).2.2 rfl (vcp122_0 (pcall (d + 2)) w (nI j0) none z f res H)
  have bad : ∀ k, PRs (fun res => res = (some (vI 0), LPr (uZ (uZ z 7 (nI k)) 8 (z 3)) f)) t n C z f (.inl (k, x.1)) := fun k => ⟨z, f, by rw [a1], PKZ.rf⟩
  -- the number or what is asked, and the product
  have em : ∀ (q a : Nat), q < 12 → a < 100000 → ∃ z1 f1, pcall (d + 2) 121 [vR 0, vI (nI q), vI (nI a)] (LPr z f) = some (none, LPr z1 f1) ∧ pcR t n (x :: r) (C ++ [(q, a)]) z1 f1 ∧ PKZ z f z1 f1 ∧ (j0 = 42 → ∃ z2 f2, pcall (d + 2) 121 [vR 0, vI 6, vI 0] (LPr z1 f1) = some (none, LPr z2 f2) ∧ pcR t n (x :: r) (C ++ [(q, a), (6, 0)]) z2 f2 ∧ PKZ z f z2 f2) := fun q a hq ha => by
    obtain ⟨z1, f1, b1, b2, b3, b4⟩ := pemit h hq ha (by omega) (d + 1)
    refine ⟨z1, f1, b1, b2, b3, fun c => ?_⟩
    have hw : pwt j0 = 1 := if_pos (Or.inl c)
    obtain ⟨z2, f2, c1, c2, c3, c4⟩ := pemit b2 (o := 6) (a := 0) (by decide) (by decide) (by rw [List.length_append]; show C.length + 1 < 400; omega) (d + 1)
    rw [List.append_assoc] at c2
    exact ⟨z2, f2, c1, c2, b3.tr c3⟩
  unfold pU
  by_cases c1 : x.2.1 = 1
  · have z1 := t1.mpr c1
    obtain ⟨z6, v4⟩ := a3 c1
    rw [if_pos c1]
    by_cases c2 : j0 = 47
    · have q47 := j47.mpr c2
      by_cases c3 : x.2.2 = 0
      · rw [if_pos ⟨c2, c3⟩]
        obtain ⟨z', f', b1, b2⟩ := bad 2
        refine ⟨z', f', go _ ⟨fun q => absurd q47 q, fun _ => ⟨fun q => absurd z1 q, fun _ => ⟨fun q => ?_, fun _ => b1⟩⟩⟩, b2⟩
        exact absurd (by rw [z6, c3]; rfl) q
      · rw [if_neg (fun q => c3 q.2), if_pos c2, if_neg (show ¬ j0 = 42 by omega)]
        obtain ⟨z', f', b1, b2, b3, -⟩ := em 2 x.2.2 (by decide) (by omega)
        refine ⟨z', f', go _ ⟨fun q => absurd q47 q, fun _ => ⟨fun q => absurd z1 q, fun _ => ⟨fun _ => ⟨z', f', by rw [z6]; exact b1, fun _ => rfl, fun q => ?_⟩, fun q => ?_⟩⟩⟩, b2, b3⟩
        · have := j42.mp q
          omega
        · rw [z6] at q
          exact absurd (nI_inj (a := x.2.2) (b := 0) (by omega) (by omega) q) c3
    · have q47 : ¬ nI j0 = 47 := fun q => c2 (j47.mp q)
      rw [if_neg (fun q => c2 q.1), if_neg c2]
      obtain ⟨z', f', b1, b2, b3, b4⟩ := em 0 x.2.2 (by decide) (by omega)
      by_cases c3 : j0 = 42
      · rw [if_pos c3]
        obtain ⟨z2, f2, e1, e2, e3⟩ := b4 c3
        exact ⟨z2, f2, go _ ⟨fun _ => ⟨fun q => absurd z1 q, fun _ => ⟨z', f', by rw [z6]; exact b1, fun q => absurd (j42.mpr c3) q, fun _ => ⟨z2, f2, e1, rfl⟩⟩⟩, fun q => absurd q q47⟩, e2, e3⟩
      · rw [if_neg c3]
        exact ⟨z', f', go _ ⟨fun _ => ⟨fun q => absurd z1 q, fun _ => ⟨z', f', by rw [z6]; exact b1, fun _ => rfl, fun q => absurd (j42.mp q) c3⟩⟩, fun q => absurd q q47⟩, b2, b3⟩
  · have z1 : ¬ z 5 = 1 := fun q => c1 (t1.mp q)
    have ti := pcT_in a2 a4 (a := 303) (b := 312) (by decide)
    rw [if_neg c1]
    by_cases c2 : j0 = 47
    · rw [if_neg (fun q => q.1 c2)]
      obtain ⟨z', f', b1, b2⟩ := bad 1
      exact ⟨z', f', go _ ⟨fun q => absurd (j47.mpr c2) q, fun _ => ⟨fun _ => b1, fun q => absurd q z1⟩⟩, b2⟩
    · have q47 : ¬ nI j0 = 47 := fun q => c2 (j47.mp q)
      by_cases c3 : 303 ≤ x.2.1 ∧ x.2.1 ≤ 312
      · rw [if_pos ⟨c2, c3⟩]
        obtain ⟨i1, i2⟩ := ti.mpr c3
        have e5 : z 5 - 303 = nI (x.2.1 - 303) := by
          rcases a2 with q | ⟨q, -⟩
          · rw [q, show (303 : Int32) = nI 303 from rfl]
            exact nI_sub (by omega)
          · omega
        obtain ⟨z', f', b1, b2, b3, b4⟩ := em 1 (x.2.1 - 303) (by decide) (by omega)
        by_cases c4 : j0 = 42
        · rw [if_pos c4]
          obtain ⟨z2, f2, e1, e2, e3⟩ := b4 c4
          exact ⟨z2, f2, go _ ⟨fun _ => ⟨fun _ => ⟨fun q => by omega, fun _ => ⟨fun q => by omega, fun _ => ⟨z', f', by rw [e5]; exact b1, fun q => absurd (j42.mpr c4) q, fun _ => ⟨z2, f2, e1, rfl⟩⟩⟩⟩, fun q => absurd q z1⟩, fun q => absurd q q47⟩, e2, e3⟩
        · rw [if_neg c4]
          exact ⟨z', f', go _ ⟨fun _ => ⟨fun _ => ⟨fun q => by omega, fun _ => ⟨fun q => by omega, fun _ => ⟨z', f', by rw [e5]; exact b1, fun _ => rfl, fun q => absurd (j42.mp q) c4⟩⟩⟩, fun q => absurd q z1⟩, fun q => absurd q q47⟩, b2, b3⟩
      · rw [if_neg (fun q => c3 q.2)]
        obtain ⟨z', f', b1, b2⟩ := bad 1
        refine ⟨z', f', go _ ⟨fun _ => ⟨fun _ => ⟨fun _ => b1, fun q => ⟨fun _ => b1, fun q2 => ?_⟩⟩, fun q => absurd q z1⟩, fun q => absurd q q47⟩, b2⟩
        exact absurd (ti.mp ⟨q, q2⟩) c3
theorem punit1 {j0 : Nat} {t : FA} {n : Nat} {x : TT} {r : List TT} {C : List TK} {z : Nat → Int32} {f : Nat → FA} {e : Nat × Nat} (h : pcR t n (x :: r) C z f) (hu : pU j0 x = .inl e) (hj : j0 < 1000) (d : Nat) : ∃ z' f', pcall (d + 3) 122 [vR 0, vI (nI j0)] (LPr z f) = some (some (vI 0), LPr (uZ (uZ z' 7 (nI e.1)) 8 (nI e.2)) f') ∧ PKZ z f z' f' := by
  obtain ⟨a1, a2, a3, a4⟩ := pcR_hd2 h
  have w : ∀ (a : Int32) (z : Nat → Int32) (f : Nat → FA), pcall (d + 2) 138 [vR 0, vI a] (LPr z f) = some (some (vI 0), LPr (uZ (uZ z 7 a) 8 (z 3)) f) := pWrong (d + 1)
  have t1 := pcT_eq a2 a4 1 (by decide) (by decide)
  have j47 : nI j0 = 47 ↔ j0 = 47 := ⟨fun q => nI_inj (by omega) (by omega) q, fun q => by rw [q]; rfl⟩
  have go : ∀ res, _ → pcall (d + 3) 122 [vR 0, vI (nI j0)] (LPr z f) = some res := fun res H => pcall_i (by decide) (mq122 (cu := [])).2.2 rfl (vcp122_0 (pcall (d + 2)) w (nI j0) none z f res H)
  have bad : ∀ k, (some (vI 0), LPr (uZ (uZ z 7 (nI k)) 8 (nI x.1)) f) = (some (vI 0), LPr (uZ (uZ z 7 (nI k)) 8 (z 3)) f) := fun k => by rw [a1]
  unfold pU at hu
  by_cases c1 : x.2.1 = 1
  · have z1 := t1.mpr c1
    obtain ⟨z6, v4⟩ := a3 c1
    rw [if_pos c1] at hu
    by_cases c2 : j0 = 47 ∧ x.2.2 = 0
    · rw [if_pos c2] at hu
      have hu := Sum.inl.inj hu
      subst hu
      refine ⟨z, f, go _ ⟨fun q => absurd (j47.mpr c2.1) q, fun _ => ⟨fun q => absurd z1 q, fun _ => ⟨fun q => ?_, fun _ => bad 2⟩⟩⟩, PKZ.rf⟩
      exact absurd (by rw [z6, c2.2]; rfl) q
    · rw [if_neg c2] at hu
      cases hu
  · have z1 : ¬ z 5 = 1 := fun q => c1 (t1.mp q)
    have ti := pcT_in a2 a4 (a := 303) (b := 312) (by decide)
    rw [if_neg c1] at hu
    by_cases c2 : j0 ≠ 47 ∧ 303 ≤ x.2.1 ∧ x.2.1 ≤ 312
    · rw [if_pos c2] at hu
      cases hu
    · rw [if_neg c2] at hu
      have hu := Sum.inl.inj hu
      subst hu
      refine ⟨z, f, go _ ⟨fun q47 => ⟨fun _ => ⟨fun _ => bad 1, fun q => ⟨fun _ => bad 1, fun q2 => ?_⟩⟩, fun q => absurd q z1⟩, fun _ => ⟨fun _ => bad 1, fun q => absurd q z1⟩⟩, PKZ.rf⟩
      exact absurd ⟨fun k => q47 (j47.mpr k), ti.mp ⟨q, q2⟩⟩ c2
theorem psum {t : FA} {n : Nat} (d : Nat) : ∀ (m : Nat) (ts : List TT), ts.length ≤ m → ∀ (s j i : Nat) (C : List TK) (z : Nat → Int32) (f : Nat → FA), pcR t n ts C z f → (s = 0 ∨ s = 4 ∨ s = 5) → j < 1000 → C.length + ts.length + pwt j + pws s ≤ 401 → 2 * i + ts.length ≤ 402 → PRs (fun res => RC (pcall (d + 3)) (mP 130) 6 [some (vR 0), some (vI (nI s)), some (vI (nI j)), some (vI (nI i))] [] (LPr z f) res) t n C z f (pxf ts s j) := by
  intro m
  induction m with
  | zero =>
    intro ts hm s j i C z f h
    obtain ⟨x, r, e, -⟩ := pcR_hd h
    rw [e] at hm
    exact absurd hm (Nat.not_succ_le_zero _)
  | succ m ih =>
    intro ts hm s j i C z f h hs hj hb hi
    have w : ∀ (a : Int32) (z : Nat → Int32) (f : Nat → FA), pcall (d + 3) 138 [vR 0, vI a] (LPr z f) = some (some (vI 0), LPr (uZ (uZ z 7 a) 8 (z 3)) f) := pWrong (d + 2)
    have pj : pwt j ≤ 1 := by unfold pwt; by_cases q : j = 42 ∨ j = 47 <;> simp [q]
    have ps : pws s ≤ 1 := by unfold pws; by_cases q : s = 0 <;> simp [q]
    obtain ⟨x, r, rfl, -⟩ := pcR_hd h
    have hb : C.length + (r.length + 1) + pwt j + pws s ≤ 401 := hb
    have hi : 2 * i + (r.length + 1) ≤ 402 := hi
    have hm : r.length + 1 ≤ m + 1 := hm
    have i4 : I (nI i) = i := I_nI (by omega)
    have go : ∀ res, _ → RC (pcall (d + 3)) (mP 130) 6 [some (vR 0), some (vI (nI s)), some (vI (nI j)), some (vI (nI i))] [] (LPr z f) res := fun res H => vcpc6_130_6 (pcall (d + 3)) w (nI s) (nI j) (nI i) z f res H
    have one : C.length + 1 + pwt j ≤ 400 → PRs (fun res => pcall (d + 3) 122 [vR 0, vI (nI j)] (LPr z f) = some res) t n C z f (match pU j x with
        | .inl e => .inl e
        | .inr c => .inr (c, x :: r)) := fun q => punit h q hj d
    cases hu : pU j x with
    | inl e =>
      have hx : pxf (x :: r) s j = .inl e := by
        cases r with
        | nil => exact pxf_7 hu
        | cons y r => exact pxf_1 hu
      rw [hx]
      have k := punit1 h hu hj d
      obtain ⟨z', f', b1, b2⟩ := k
      exact ⟨z', f', go _ ⟨fun q => by omega, fun _ => ⟨_, _, _, b1, fun q => absurd rfl q, fun _ => rfl⟩⟩, b2⟩
    | inr c =>
      have hx2 : ¬ x.2.1 = 2 := fun q => by
        unfold pU at hu
        rw [if_neg (show ¬ x.2.1 = 1 by omega), if_neg (show ¬ (j ≠ 47 ∧ 303 ≤ x.2.1 ∧ x.2.1 ≤ 312) from fun k => by omega)] at hu
        cases hu
      obtain ⟨y, r, rfl⟩ := pcR_tl h hx2
      have hb : C.length + (r.length + 1 + 1) + pwt j + pws s ≤ 401 := hb
      have hi : 2 * i + (r.length + 1 + 1) ≤ 402 := hi
      have hm : r.length + 1 + 1 ≤ m + 1 := hm
      have hl := pU_len hu
      have hc := prl_le c
      have k := one (by omega)
      rw [hu] at k
      obtain ⟨z1, f1, b1, b2, b3⟩ := k
      obtain ⟨z2, s1, s2, s3⟩ := pstep b2 hx2 (d + 1)
      obtain ⟨a1, a2, a3, a4⟩ := pcR_hd2 s2
      have k2 : PKZ z f z2 f1 := b3.tr (PKZ.st s3)
      have e42 := pcT_eq a2 a4 42 (by decide) (by decide)
      have e47 := pcT_eq a2 a4 47 (by decide) (by decide)
      have e43 := pcT_eq a2 a4 43 (by decide) (by decide)
      have e45 := pcT_eq a2 a4 45 (by decide) (by decide)
      have i1 : nI i + 1 = nI (i + 1) := nI_add i 1
      have lc : (C ++ c).length = C.length + c.length := List.length_append
      by_cases c1 : y.2.1 = 42 ∨ y.2.1 = 47
      · have wy : pwt y.2.1 = 1 := if_pos c1
        rw [pxf_2 hu c1]
        obtain ⟨z3, u1, u2, u3⟩ := pstep s2 (by omega) (d + 1)
        have k3 := ih r (by omega) s y.2.1 (i + 1) (C ++ c) z3 f1 u2 hs (by omega) (by omega) (by omega)
        refine k3.pre (fun res hr => go _ ⟨fun q => by omega, fun _ => ⟨_, _, _, b1, fun _ => ⟨z2, f1, s1, ?_⟩, fun q => absurd q one_n⟩⟩) (k2.tr (PKZ.st u3))
        have q5 : z2 5 = nI y.2.1 := by
          rcases c1 with c1 | c1
          · rw [c1]; exact e42.mpr c1
          · rw [c1]; exact e47.mpr c1
        rw [i1]
        refine ⟨fun _ => ⟨z3, f1, u1, by rw [q5]; exact hr⟩, fun _ => ⟨fun _ => ⟨z3, f1, u1, by rw [q5]; exact hr⟩, fun q2 => ?_⟩⟩
        rename_i q1
        rcases c1 with c1 | c1
        · exact absurd (e42.mpr c1) q1
        · exact absurd (e47.mpr c1) q2
      · have n42 : ¬ z2 5 = 42 := fun q => c1 (Or.inl (e42.mp q))
        have n47 : ¬ z2 5 = 47 := fun q => c1 (Or.inr (e47.mp q))
        have wy : pwt y.2.1 = 0 := if_neg c1
        -- what waits is written
        have sc : ∃ z3 f3, pcR t n (y :: r) (C ++ (c ++ psc s)) z3 f3 ∧ PKZ z f z3 f3 ∧ (s = 0 → z3 = z2 ∧ f3 = f1) ∧ (¬ s = 0 → pcall (d + 3) 121 [vR 0, vI (nI s), vI 0] (LPr z2 f1) = some (none, LPr z3 f3) ∧ z3 5 = z2 5) := by
          by_cases c2 : s = 0
          · refine ⟨z2, f1, ?_, k2, fun _ => ⟨rfl, rfl⟩, fun q => absurd c2 q⟩
            rw [show psc s = [] from if_pos c2, List.append_nil]
            exact s2
          · have ps1 : pws s = 1 := if_neg c2
            obtain ⟨z3, f3, g1, g2, g3, g4⟩ := pemit s2 (o := s) (a := 0) (by omega) (by decide) (by omega) (d + 2)
            refine ⟨z3, f3, ?_, k2.tr g3, fun q => absurd q c2, fun _ => ⟨g1, g4⟩⟩
            rw [show psc s = [(s, 0)] from if_neg c2, ← List.append_assoc]
            exact g2
        obtain ⟨z3, f3, w1, w2, w3, w4⟩ := sc
        have lc2 : (C ++ (c ++ psc s)).length ≤ C.length + 1 + pwt j + pws s := by
          have := prl_le (c ++ psc s)
          have := prl_app c (psc s)
          have := psc_len s hs
          rw [List.length_append]
          omega
        have z35 : z3 5 = z2 5 := by
          by_cases c2 : s = 0
          · rw [(w3 c2).1]
          · exact (w4 c2).2
        have sn : nI s = 0 ↔ s = 0 := ⟨fun q => nI_inj (a := s) (b := 0) (by omega) (by omega) q, fun q => by rw [q]; rfl⟩
        -- from the sign on
        have tail : ∀ res, ((z3 5 = 43 → ∃ (z4 : Nat → Int32) (f4 : Nat → FA), pcall (d + 3) 135 [vR 0] (LPr z3 f3) = some (none, LPr z4 f4) ∧ RC (pcall (d + 3)) (mP 130) 6 [some (vR 0), some (vI 4), some (vI (z2 5)), some (vI (nI i + 1))] [] (LPr z4 f4) res) ∧ (¬ z3 5 = 43 → (z3 5 = 45 → ∃ (z4 : Nat → Int32) (f4 : Nat → FA), pcall (d + 3) 135 [vR 0] (LPr z3 f3) = some (none, LPr z4 f4) ∧ RC (pcall (d + 3)) (mP 130) 6 [some (vR 0), some (vI 5), some (vI (z2 5)), some (vI (nI i + 1))] [] (LPr z4 f4) res) ∧ (¬ z3 5 = 45 → res = (some (vI 1), LPr z3 f3)))) → RC (pcall (d + 3)) (mP 130) 6 [some (vR 0), some (vI (nI s)), some (vI (nI j)), some (vI (nI i))] [] (LPr z f) res := by
          intro res H
          refine go _ ⟨fun q => by omega, fun _ => ⟨_, _, _, b1, fun _ => ⟨z2, f1, s1, fun q => absurd q n42, fun _ => ⟨fun q => absurd q n47, fun _ => ⟨fun q => ?_, fun q => ?_⟩⟩⟩, fun q => absurd q one_n⟩⟩
          · obtain ⟨e1, e2⟩ := w3 (sn.mp q)
            rw [e1, e2] at H
            exact H
          · obtain ⟨e1, e2⟩ := w4 (fun k => q (sn.mpr k))
            exact ⟨z3, f3, e1, H⟩
        rw [← z35] at a2
        have e43 := pcT_eq a2 a4 43 (by decide) (by decide)
        have e45 := pcT_eq a2 a4 45 (by decide) (by decide)
        by_cases c3 : y.2.1 = 43
        · rw [pxf_3 hu c3]
          obtain ⟨z4, u1, u2, u3⟩ := pstep w1 (by omega) (d + 1)
          have k3 := ih r (by omega) 4 y.2.1 (i + 1) (C ++ (c ++ psc s)) z4 f3 u2 (by omega) (by omega) (by have : pws 4 = 1 := rfl; omega) (by omega)
          refine k3.pre (fun res hr => tail res ⟨fun _ => ⟨z4, f3, u1, ?_⟩, fun q => absurd (e43.mpr c3) q⟩) (w2.tr (PKZ.st u3))
          rw [i1, ← z35, e43.mpr c3]
          rw [c3] at hr
          exact hr
        · have n43 : ¬ z3 5 = 43 := fun q => c3 (e43.mp q)
          by_cases c4 : y.2.1 = 45
          · rw [pxf_4 hu c4]
            obtain ⟨z4, u1, u2, u3⟩ := pstep w1 (by omega) (d + 1)
            have k3 := ih r (by omega) 5 y.2.1 (i + 1) (C ++ (c ++ psc s)) z4 f3 u2 (by omega) (by omega) (by have : pws 5 = 1 := rfl; omega) (by omega)
            refine k3.pre (fun res hr => tail res ⟨fun q => absurd q n43, fun _ => ⟨fun _ => ⟨z4, f3, u1, ?_⟩, fun q => absurd (e45.mpr c4) q⟩⟩) (w2.tr (PKZ.st u3))
            rw [i1, ← z35, e45.mpr c4]
            rw [c4] at hr
            exact hr
          · rw [pxf_5 hu c1 c3 c4]
            exact ⟨z3, f3, tail _ ⟨fun q => absurd q n43, fun _ => ⟨fun q => absurd (e45.mp q) c4, fun _ => rfl⟩⟩, w1, w2⟩
theorem psum_c {t : FA} {n : Nat} (d : Nat) {ts : List TT} {C : List TK} {z : Nat → Int32} {f : Nat → FA} (h : pcR t n ts C z f) (hb : C.length + ts.length ≤ 401) (hl : ts.length ≤ 402) : PRs (fun res => pcall (d + 4) 130 [vR 0] (LPr z f) = some res) t n C z f (pxf ts 0 0) := by
  refine (psum d ts.length ts (Nat.le_refl _) 0 0 0 C z f h (Or.inl rfl) (by decide) (by show C.length + ts.length + 0 + 0 ≤ 401; omega) (by omega)).mono (fun res hr => ?_) PKZ.rf
  exact pcall_i (by decide) (mq130 (cu := [])).2.2 rfl (vcp130_0 (pcall (d + 3)) none none none z f res hr)
theorem psign {t : FA} {n : Nat} {x : TT} {r : List TT} {C : List TK} {z : Nat → Int32} {f : Nat → FA} (h : pcR t n (x :: r) C z f) (c : Nat) (hc : c < 326) (h3 : c ≠ 3 ∧ c ≠ 44 ∧ c ≠ 46 ∧ c ≠ 58) (h2 : c ≠ 2) (d : Nat) : PRs (fun res => pcall (d + 3) 133 [vR 0, vI (nI c)] (LPr z f) = some res) t n C z f (if x.2.1 = c then .inr ([], r) else .inl (1, x.1)) := by
  obtain ⟨a1, a2, a3, a4⟩ := pcR_hd2 h
  have w : ∀ (a : Int32) (z : Nat → Int32) (f : Nat → FA), pcall (d + 2) 138 [vR 0, vI a] (LPr z f) = some (some (vI 0), LPr (uZ (uZ z 7 a) 8 (z 3)) f) := pWrong (d + 1)
  have tc := pcT_eq a2 a4 c hc h3
  have go : ∀ res, _ → pcall (d + 3) 133 [vR 0, vI (nI c)] (LPr z f) = some res := fun res H => pcall_i (by decide) (mq133 (cu := [])).2.2 rfl (vcp133_0 (pcall (d + 2)) w (nI c) z f res H)
  by_cases c1 : x.2.1 = c
  · rw [if_pos c1]
    obtain ⟨z', s1, s2, s3⟩ := pstep h (by omega) d
    refine ⟨z', f, go _ ⟨fun _ => ⟨z', f, s1, rfl⟩, fun q => absurd (tc.mpr c1) q⟩, ?_, PKZ.st s3⟩
    rw [List.append_nil]
    exact s2
  · rw [if_neg c1]
    exact ⟨z, f, go _ ⟨fun q => absurd (tc.mp q) c1, fun _ => by rw [a1]; rfl⟩, PKZ.rf⟩
/-- a comparison -/
theorem pcmpr {t : FA} {n op : Nat} {x : TT} {r : List TT} {C : List TK} {z : Nat → Int32} {f : Nat → FA} (h : pcR t n (x :: r) C z f) (hb : C.length + (x :: r).length ≤ 401) (hx : ¬ (x.2.1 = 316 ∨ x.2.1 = 40)) (d : Nat) : PRs (fun res => pcall (d + 5) 132 [vR 0, vI (nI op)] (LPr z f) = some res) t n C z f (pC (x :: r)) := by
  obtain ⟨a1, a2, a3, a4⟩ := pcR_hd2 h
  have w : ∀ (a : Int32) (z : Nat → Int32) (f : Nat → FA), pcall (d + 4) 138 [vR 0, vI a] (LPr z f) = some (some (vI 0), LPr (uZ (uZ z 7 a) 8 (z 3)) f) := pWrong (d + 3)
  have n316 : ¬ z 5 = 316 := fun q => hx (Or.inl ((pcT_eq a2 a4 316 (by decide) (by decide)).mp q))
  have n40 : ¬ z 5 = 40 := fun q => hx (Or.inr ((pcT_eq a2 a4 40 (by decide) (by decide)).mp q))
  have go : ∀ res, _ → pcall (d + 5) 132 [vR 0, vI (nI op)] (LPr z f) = some res := fun res H => pcall_i (by decide) (mq132 (cu := [])).2.2 rfl (vcp132_0 (pcall (d + 4)) w (nI op) none none z f res H)
  have hl : r.length + 1 ≤ 401 := by have hb : C.length + (r.length + 1) ≤ 401 := hb; omega
  have k1 := psum_c d h hb (by show r.length + 1 ≤ 402; omega)
  cases h1 : pxf (x :: r) 0 0 with
  | inl e =>
    rw [pC_1 h1]
    rw [h1] at k1
    obtain ⟨z1, f1, b1, b2⟩ := k1
    exact ⟨z1, f1, go _ ⟨fun _ => ⟨fun _ => ⟨_, _, _, b1, fun q => absurd rfl q, fun _ => rfl⟩, fun q => absurd q n40⟩, fun q => absurd q n316⟩, b2⟩
  | inr p =>
    obtain ⟨c, q⟩ := p
    rw [h1] at k1
    obtain ⟨z1, f1, b1, b2, b3⟩ := k1
    obtain ⟨y, q, rfl, -⟩ := pcR_hd b2
    obtain ⟨y1, y2, y3, y4⟩ := pcR_hd2 b2
    obtain ⟨l1, l2⟩ := pxf_len _ (x :: r) (Nat.le_refl _) 0 0 c _ (Or.inl rfl) h1
    have l1 : prl c + (q.length + 1) ≤ (x :: r).length + 0 + 0 := l1
    have l2 : q.length + 1 < (x :: r).length := l2
    have hc := prl_le c
    have lc : (C ++ c).length = C.length + c.length := List.length_append
    have e60 := pcT_eq y2 y4 60 (by decide) (by decide)
    have e61 := pcT_eq y2 y4 61 (by decide) (by decide)
    have e62 := pcT_eq y2 y4 62 (by decide) (by decide)
    by_cases c1 : y.2.1 = 60 ∨ y.2.1 = 61 ∨ y.2.1 = 62
    · have q5 : z1 5 = nI y.2.1 := by
        rcases c1 with c1 | c1 | c1
        · rw [c1]; exact e60.mpr c1
        · rw [c1]; exact e61.mpr c1
        · rw [c1]; exact e62.mpr c1
      have eo : 8 + z1 5 - 61 = nI (y.2.1 - 53) := by
        rw [q5]
        rcases c1 with c1 | c1 | c1 <;> rw [c1] <;> decide
      obtain ⟨z2, s1, s2, s3⟩ := pstep b2 (by omega) (d + 2)
      have k2 := psum_c d s2 (by omega) (by omega)
      -- one of three, all alike
      have fin : ∀ res, (∃ (r3 : Int32) (z3 : Nat → Int32) (f3 : Nat → FA), pcall (d + 4) 130 [vR 0] (LPr z2 f1) = some (some (vI r3), LPr z3 f3) ∧ ((¬ r3 = 0 → ∃ (z4 : Nat → Int32) (f4 : Nat → FA), pcall (d + 4) 121 [vR 0, vI (8 + z1 5 - 61), vI 0] (LPr z3 f3) = some (none, LPr z4 f4) ∧ res = (some (vI 1), LPr z4 f4)) ∧ (r3 = 0 → res = (some (vI 0), LPr z3 f3)))) → pcall (d + 5) 132 [vR 0, vI (nI op)] (LPr z f) = some res := by
        intro res H
        refine go _ ⟨fun _ => ⟨fun _ => ⟨_, _, _, b1, fun _ => ⟨fun _ => ⟨z2, f1, s1, H⟩, fun q60 => ⟨fun _ => ⟨z2, f1, s1, H⟩, fun q61 => ⟨fun _ => ⟨z2, f1, s1, H⟩, fun q62 => ?_⟩⟩⟩, fun q => absurd q one_n⟩, fun q => absurd q n40⟩, fun q => absurd q n316⟩
        rcases c1 with c1 | c1 | c1
        · exact absurd (e60.mpr c1) q60
        · exact absurd (e61.mpr c1) q61
        · exact absurd (e62.mpr c1) q62
      cases h2 : pxf q 0 0 with
      | inl e =>
        rw [pC_3 h1 c1 h2]
        rw [h2] at k2
        obtain ⟨z3, f3, g1, g2⟩ := k2
        exact ⟨z3, f3, fin _ ⟨_, _, _, g1, fun q => absurd rfl q, fun _ => rfl⟩, (b3.tr (PKZ.st s3)).tr g2⟩
      | inr p2 =>
        obtain ⟨c', r'⟩ := p2
        rw [pC_4 h1 c1 h2]
        rw [h2] at k2
        obtain ⟨z3, f3, g1, g2, g3⟩ := k2
        obtain ⟨l3, l4⟩ := pxf_len _ q (Nat.le_refl _) 0 0 c' _ (Or.inl rfl) h2
        have l3 : prl c' + r'.length ≤ q.length + 0 + 0 := l3
        have hc' := prl_le c'
        have hr' : 0 < r'.length := by
          obtain ⟨y', q', e', -⟩ := pcR_hd g2
          rw [e']
          exact Nat.succ_pos _
        obtain ⟨z4, f4, m1, m2, m3, m4⟩ := pemit g2 (o := y.2.1 - 53) (a := 0) (by omega) (by decide) (by rw [List.length_append]; omega) (d + 3)
        refine ⟨z4, f4, fin _ ⟨_, _, _, g1, fun _ => ⟨z4, f4, by rw [eo]; exact m1, rfl⟩, fun q => absurd q one_n⟩, ?_, ((b3.tr (PKZ.st s3)).tr g3).tr m3⟩
        rw [← List.append_assoc, ← List.append_assoc]
        exact m2
    · rw [pC_2 h1 c1]
      have q60 : ¬ z1 5 = 60 := fun q => c1 (Or.inl (e60.mp q))
      have q61 : ¬ z1 5 = 61 := fun q => c1 (Or.inr (Or.inl (e61.mp q)))
      have q62 : ¬ z1 5 = 62 := fun q => c1 (Or.inr (Or.inr (e62.mp q)))
      exact ⟨z1, f1, go _ ⟨fun _ => ⟨fun _ => ⟨_, _, _, b1, fun _ => ⟨fun q => absurd q q60, fun _ => ⟨fun q => absurd q q61, fun _ => ⟨fun q => absurd q q62, fun _ => by rw [y1]; rfl⟩⟩⟩, fun q => absurd q one_n⟩, fun q => absurd q n40⟩, fun q => absurd q n316⟩, b3⟩
/-- C and B, under op that are open -/
theorem ptest {t : FA} {n : Nat} : ∀ (m : Nat), (∀ (q d op : Nat) (ts : List TT) (C : List TK) (z : Nat → Int32) (f : Nat → FA), op + q = 8 → pcR t n ts C z f → C.length + ts.length ≤ 401 → 2 * ts.length + 1 ≤ m → PRs (fun res => pcall (d + 2 * q + 5) 132 [vR 0, vI (nI op)] (LPr z f) = some res) t n C z f (pB m 0 op false false ts)) ∧ (∀ (q d op i : Nat) (ei bo : Bool) (ts : List TT) (C : List TK) (z : Nat → Int32) (f : Nat → FA), op + q = 8 → pcR t n ts C z f → C.length + ts.length + pb1 ei + pb1 bo ≤ 401 → 2 * i + ts.length ≤ 402 → 2 * ts.length + 2 ≤ m → PRs (fun res => RC (pcall (d + 2 * q + 5)) (mP 129) 6 [some (vR 0), some (vI (nI op)), some (vI (nI (pb1 ei))), some (vI (nI (pb1 bo))), some (vI (nI i))] [] (LPr z f) res) t n C z f (pB m 1 op ei bo ts)) := by
  intro m
  induction m with
  | zero => exact ⟨fun q d op ts C z f _ _ _ hm => by omega, fun q d op i ei bo ts C z f _ _ _ _ hm => by omega⟩
  | succ m ih =>
    constructor
    · intro q d op ts C z f ho h hb hm
      obtain ⟨x, r, rfl, -⟩ := pcR_hd h
      obtain ⟨a1, a2, a3, a4⟩ := pcR_hd2 h
      have hb' : C.length + (r.length + 1) ≤ 401 := hb
      have hm : 2 * (r.length + 1) + 1 ≤ m + 1 := hm
      by_cases c1 : x.2.1 = 316 ∨ x.2.1 = 40
      · have w : ∀ (a : Int32) (z : Nat → Int32) (f : Nat → FA), pcall (d + 2 * q + 4) 138 [vR 0, vI a] (LPr z f) = some (some (vI 0), LPr (uZ (uZ z 7 a) 8 (z 3)) f) := pWrong (d + 2 * q + 3)
        have go : ∀ res, _ → pcall (d + 2 * q + 5) 132 [vR 0, vI (nI op)] (LPr z f) = some res := fun res H => pcall_i (by decide) (mq132 (cu := [])).2.2 rfl (vcp132_0 (pcall (d + 2 * q + 4)) w (nI op) none none z f res H)
        have e316 := pcT_eq a2 a4 316 (by decide) (by decide)
        have e40 := pcT_eq a2 a4 40 (by decide) (by decide)
        have io : I (nI op) = op := I_nI (by omega)
        have o1 : nI op + 1 = nI (op + 1) := nI_add op 1
        by_cases c8 : 8 ≤ op
        · rw [pT_8 c1 c8]
          refine ⟨z, f, go _ ⟨fun q1 => ⟨fun q2 => ?_, fun _ => ⟨fun q3 => by omega, fun _ => by rw [a1]; rfl⟩⟩, fun _ => ⟨fun q3 => by omega, fun _ => by rw [a1]; rfl⟩⟩, PKZ.rf⟩
          rcases c1 with c1 | c1
          · exact absurd (e316.mpr c1) q1
          · exact absurd (e40.mpr c1) q2
        · obtain ⟨q, rfl⟩ : ∃ q', q = q' + 1 := ⟨q - 1, by omega⟩
          obtain ⟨z1, s1, s2, s3⟩ := pstep h (by omega) (d + 2 * q + 4)
          by_cases c2 : x.2.1 = 316
          · have z5 := e316.mpr c2
            have k := ih.1 q (d + 1) (op + 1) r C z1 f (by omega) s2 (by omega) (by omega)
            cases h1 : pB m 0 (op + 1) false false r with
            | inl e =>
              rw [pT_ne c2 c8 h1]
              rw [h1] at k
              obtain ⟨z2, f2, b1, b2⟩ := k
              refine ⟨z2, f2, go _ ⟨fun q1 => absurd z5 q1, fun _ => ⟨fun _ => ⟨z1, f, s1, _, _, _, ?_, fun q => absurd rfl q, fun _ => rfl⟩, fun q => by omega⟩⟩, (PKZ.st s3).tr b2⟩
              rw [o1, show d + 2 * (q + 1) + 4 = d + 1 + 2 * q + 5 by omega]
              exact b1
            | inr p =>
              obtain ⟨c, r'⟩ := p
              rw [pT_n c2 c8 h1]
              rw [h1] at k
              obtain ⟨z2, f2, b1, b2, b3⟩ := k
              obtain ⟨l1, l2⟩ := (pB_len _).1 _ _ _ _ _ _ h1
              have hc := prl_le c
              have hr' : 0 < r'.length := by
                obtain ⟨y', q', e', -⟩ := pcR_hd b2
                rw [e']
                exact Nat.succ_pos _
              obtain ⟨z3, f3, m1, m2, m3, m4⟩ := pemit b2 (o := 3) (a := 0) (by decide) (by decide) (by rw [List.length_append]; omega) (d + 2 * (q + 1) + 3)
              refine ⟨z3, f3, go _ ⟨fun q1 => absurd z5 q1, fun _ => ⟨fun _ => ⟨z1, f, s1, _, _, _, ?_, fun _ => ⟨z3, f3, m1, rfl⟩, fun q => absurd q one_n⟩, fun q => by omega⟩⟩, ?_, ((PKZ.st s3).tr b3).tr m3⟩
              · rw [o1, show d + 2 * (q + 1) + 4 = d + 1 + 2 * q + 5 by omega]
                exact b1
              · rw [← List.append_assoc]
                exact m2
          · have c3 : x.2.1 = 40 := by omega
            have n5 : ¬ z 5 = 316 := fun q => c2 (e316.mp q)
            have z5 := e40.mpr c3
            have k := ih.2 q d (op + 1) 0 false false r C z1 f (by omega) s2 (by show C.length + r.length + 0 + 0 ≤ 401; omega) (by omega) (by omega)
            have call : ∀ res, RC (pcall (d + 2 * q + 5)) (mP 129) 6 [some (vR 0), some (vI (nI (op + 1))), some (vI (nI (pb1 false))), some (vI (nI (pb1 false))), some (vI (nI 0))] [] (LPr z1 f) res → pcall (d + 2 * (q + 1) + 4) 129 [vR 0, vI (nI op + 1)] (LPr z1 f) = some res := fun res hr => by
              rw [o1, show d + 2 * (q + 1) + 4 = (d + 2 * q + 5) + 1 by omega]
              exact pcall_i (by decide) (mq129 (cu := [])).2.2 rfl (vcp129_0 (pcall (d + 2 * q + 5)) (nI (op + 1)) none none none z1 f res hr)
            cases h1 : pB m 1 (op + 1) false false r with
            | inl e =>
              rw [pT_be c3 c8 h1]
              rw [h1] at k
              obtain ⟨z2, f2, b1, b2⟩ := k
              exact ⟨z2, f2, go _ ⟨fun _ => ⟨fun q => absurd z5 q, fun _ => ⟨fun _ => ⟨z1, f, s1, _, _, _, call _ b1, fun _ => rfl, fun q => absurd rfl q⟩, fun q => by omega⟩⟩, fun q => absurd q n5⟩, (PKZ.st s3).tr b2⟩
            | inr p =>
              obtain ⟨c, r'⟩ := p
              rw [h1] at k
              obtain ⟨z2, f2, b1, b2, b3⟩ := k
              obtain ⟨y, r', rfl, -⟩ := pcR_hd b2
              have sg := psign b2 41 (by decide) (by decide) (by decide) (d + 2 * (q + 1) + 1)
              by_cases c4 : y.2.1 = 41
              · rw [pT_b1 c3 c8 h1 c4]
                rw [if_pos c4] at sg
                obtain ⟨z3, f3, g1, g2, g3⟩ := sg
                rw [List.append_nil] at g2
                exact ⟨z3, f3, go _ ⟨fun _ => ⟨fun q => absurd z5 q, fun _ => ⟨fun _ => ⟨z1, f, s1, _, _, _, call _ b1, fun q => absurd q one_n, fun _ => ⟨_, _, _, g1, fun q => absurd q one_n, fun _ => rfl⟩⟩, fun q => by omega⟩⟩, fun q => absurd q n5⟩, g2, ((PKZ.st s3).tr b3).tr g3⟩
              · rw [pT_b2 c3 c8 h1 c4]
                rw [if_neg c4] at sg
                obtain ⟨z3, f3, g1, g2⟩ := sg
                exact ⟨z3, f3, go _ ⟨fun _ => ⟨fun q => absurd z5 q, fun _ => ⟨fun _ => ⟨z1, f, s1, _, _, _, call _ b1, fun q => absurd q one_n, fun _ => ⟨_, _, _, g1, fun _ => rfl, fun q => absurd rfl q⟩⟩, fun q => by omega⟩⟩, fun q => absurd q n5⟩, ((PKZ.st s3).tr b3).tr g2⟩
      · rw [pT_c c1]
        exact pcmpr h hb c1 (d + 2 * q)
    · intro q d op i ei bo ts C z f ho h hb hi hm
      have p1 := pb1_le ei
      have p2 := pb1_le bo
      have w : ∀ (a : Int32) (z : Nat → Int32) (f : Nat → FA), pcall (d + 2 * q + 5) 138 [vR 0, vI a] (LPr z f) = some (some (vI 0), LPr (uZ (uZ z 7 a) 8 (z 3)) f) := pWrong (d + 2 * q + 4)
      have i4 : I (nI i) = i := I_nI (by omega)
      have i1 : nI i + 1 = nI (i + 1) := nI_add i 1
      have li : I (nI i) < 400 := by
        obtain ⟨x, r, rfl, -⟩ := pcR_hd h
        have hi : 2 * i + (r.length + 1) ≤ 402 := hi
        omega
      have go : ∀ res, _ → RC (pcall (d + 2 * q + 5)) (mP 129) 6 [some (vR 0), some (vI (nI op)), some (vI (nI (pb1 ei))), some (vI (nI (pb1 bo))), some (vI (nI i))] [] (LPr z f) res := fun res H => vcpc6_129_6 (pcall (d + 2 * q + 5)) w (nI op) (nI (pb1 ei)) (nI (pb1 bo)) (nI i) z f res H
      have k := ih.1 q d op ts C z f ho h (by omega) (by omega)
      cases h1 : pB m 0 op false false ts with
      | inl e =>
        rw [pL_e h1]
        rw [h1] at k
        obtain ⟨z1, f1, b1, b2⟩ := k
        exact ⟨z1, f1, go _ ⟨fun q => by omega, fun _ => ⟨_, _, _, b1, fun q => absurd rfl q, fun _ => rfl⟩⟩, b2⟩
      | inr p =>
        obtain ⟨c, r⟩ := p
        rw [h1] at k
        obtain ⟨z1, f1, b1, b2, b3⟩ := k
        obtain ⟨y, r, rfl, -⟩ := pcR_hd b2
        obtain ⟨l1, l2⟩ := (pB_len _).1 _ _ _ _ _ _ h1
        have l1 : prl c + (r.length + 1) ≤ ts.length := l1
        have l2 : r.length + 1 < ts.length := l2
        have hc := prl_le c
        have lc : (C ++ c).length = C.length + c.length := List.length_append
        -- an and that waits
        have an : ∃ z2 f2, pcR t n (y :: r) (C ++ (c ++ pbA bo)) z2 f2 ∧ PKZ z f z2 f2 ∧ (bo = false → z2 = z1 ∧ f2 = f1) ∧ (bo = true → pcall (d + 2 * q + 5) 121 [vR 0, vI 10, vI 0] (LPr z1 f1) = some (none, LPr z2 f2)) := by
          cases bo with
          | false => exact ⟨z1, f1, by rw [show pbA false = [] from rfl, List.append_nil]; exact b2, b3, fun _ => ⟨rfl, rfl⟩, fun q => (by cases q)⟩
          | true =>
            have hb : C.length + ts.length + pb1 ei + 1 ≤ 401 := hb
            obtain ⟨z2, f2, g1, g2, g3, g4⟩ := pemit b2 (o := 10) (a := 0) (by decide) (by decide) (by omega) (d + 2 * q + 4)
            exact ⟨z2, f2, by rw [show pbA true = [(10, 0)] from rfl, ← List.append_assoc]; exact g2, b3.tr g3, fun q => (by cases q), fun _ => g1⟩
        obtain ⟨z2, f2, n1, n2, n3, n4⟩ := an
        obtain ⟨y1, y2, y3, y4⟩ := pcR_hd2 n1
        have la : (C ++ (c ++ pbA bo)).length ≤ C.length + c.length + pb1 bo := by
          rw [List.length_append, List.length_append]
          have := prl_le (pbA bo)
          rw [pbA_len] at this
          omega
        have e315 := pcT_eq y2 y4 315 (by decide) (by decide)
        have e314 := pcT_eq y2 y4 314 (by decide) (by decide)
        -- from the and on
        have sA : ∀ res, ((¬ z2 5 = 315 → ((nI (pb1 ei) = 0 → (¬ z2 5 = 314 → res = (some (vI 1), LPr z2 f2)) ∧ (z2 5 = 314 → ∃ (z3 : Nat → Int32) (f3 : Nat → FA), pcall (d + 2 * q + 5) 135 [vR 0] (LPr z2 f2) = some (none, LPr z3 f3) ∧ RC (pcall (d + 2 * q + 5)) (mP 129) 6 [some (vR 0), some (vI (nI op)), some (vI 1), some (vI 0), some (vI (nI i + 1))] [] (LPr z3 f3) res)) ∧ (¬ nI (pb1 ei) = 0 → ∃ (z3 : Nat → Int32) (f3 : Nat → FA), pcall (d + 2 * q + 5) 121 [vR 0, vI 11, vI 0] (LPr z2 f2) = some (none, LPr z3 f3) ∧ (¬ z3 5 = 314 → res = (some (vI 1), LPr z3 f3)) ∧ (z3 5 = 314 → ∃ (z4 : Nat → Int32) (f4 : Nat → FA), pcall (d + 2 * q + 5) 135 [vR 0] (LPr z3 f3) = some (none, LPr z4 f4) ∧ RC (pcall (d + 2 * q + 5)) (mP 129) 6 [some (vR 0), some (vI (nI op)), some (vI 1), some (vI 0), some (vI (nI i + 1))] [] (LPr z4 f4) res)))) ∧ (z2 5 = 315 → ∃ (z3 : Nat → Int32) (f3 : Nat → FA), pcall (d + 2 * q + 5) 135 [vR 0] (LPr z2 f2) = some (none, LPr z3 f3) ∧ RC (pcall (d + 2 * q + 5)) (mP 129) 6 [some (vR 0), some (vI (nI op)), some (vI (nI (pb1 ei))), some (vI 1), some (vI (nI i + 1))] [] (LPr z3 f3) res)) → RC (pcall (d + 2 * q + 5)) (mP 129) 6 [some (vR 0), some (vI (nI op)), some (vI (nI (pb1 ei))), some (vI (nI (pb1 bo))), some (vI (nI i))] [] (LPr z f) res := by
          intro res H
          cases bo with
          | false =>
            obtain ⟨e1, e2⟩ := n3 rfl
            rw [e1, e2] at H
            exact go _ ⟨fun q => by omega, fun _ => ⟨_, _, _, b1, fun _ => ⟨fun _ => H, fun q => absurd rfl q⟩, fun q => absurd q one_n⟩⟩
          | true => exact go _ ⟨fun q => by omega, fun _ => ⟨_, _, _, b1, fun _ => ⟨fun q => absurd q one_n, fun _ => ⟨z2, f2, n4 rfl, H⟩⟩, fun q => absurd q one_n⟩⟩
        by_cases c1 : y.2.1 = 315
        · rw [pL_a h1 c1]
          obtain ⟨z3, s1, s2, s3⟩ := pstep n1 (by omega) (d + 2 * q + 3)
          have k2 := ih.2 q d op (i + 1) ei true r (C ++ (c ++ pbA bo)) z3 f2 ho s2 (by have : pb1 true = 1 := rfl; omega) (by omega) (by omega)
          refine k2.pre (fun res hr => sA res ⟨fun q => absurd (e315.mpr c1) q, fun _ => ⟨z3, f2, s1, ?_⟩⟩) (n2.tr (PKZ.st s3))
          rw [i1]
          exact hr
        · have q315 : ¬ z2 5 = 315 := fun q => c1 (e315.mp q)
          -- an or that waits
          have orr : ∃ z3 f3, pcR t n (y :: r) (C ++ (c ++ pbA bo ++ pbO ei)) z3 f3 ∧ PKZ z f z3 f3 ∧ (ei = false → z3 = z2 ∧ f3 = f2) ∧ (ei = true → pcall (d + 2 * q + 5) 121 [vR 0, vI 11, vI 0] (LPr z2 f2) = some (none, LPr z3 f3)) := by
            cases ei with
            | false => exact ⟨z2, f2, by rw [show pbO false = [] from rfl, List.append_nil]; exact n1, n2, fun _ => ⟨rfl, rfl⟩, fun q => (by cases q)⟩
            | true =>
              have hb : C.length + ts.length + 1 + pb1 bo ≤ 401 := hb
              obtain ⟨z3, f3, g1, g2, g3, g4⟩ := pemit n1 (o := 11) (a := 0) (by decide) (by decide) (by omega) (d + 2 * q + 4)
              exact ⟨z3, f3, by rw [show pbO true = [(11, 0)] from rfl, ← List.append_assoc]; exact g2, n2.tr g3, fun q => (by cases q), fun _ => g1⟩
          obtain ⟨z3, f3, o1, o2, o3, o4⟩ := orr
          obtain ⟨x1, x2, x3, x4⟩ := pcR_hd2 o1
          have e314 := pcT_eq x2 x4 314 (by decide) (by decide)
          have sO : ∀ res, ((¬ z3 5 = 314 → res = (some (vI 1), LPr z3 f3)) ∧ (z3 5 = 314 → ∃ (z4 : Nat → Int32) (f4 : Nat → FA), pcall (d + 2 * q + 5) 135 [vR 0] (LPr z3 f3) = some (none, LPr z4 f4) ∧ RC (pcall (d + 2 * q + 5)) (mP 129) 6 [some (vR 0), some (vI (nI op)), some (vI 1), some (vI 0), some (vI (nI i + 1))] [] (LPr z4 f4) res)) → RC (pcall (d + 2 * q + 5)) (mP 129) 6 [some (vR 0), some (vI (nI op)), some (vI (nI (pb1 ei))), some (vI (nI (pb1 bo))), some (vI (nI i))] [] (LPr z f) res := by
            intro res H
            cases ei with
            | false =>
              obtain ⟨e1, e2⟩ := o3 rfl
              rw [e1, e2] at H
              exact sA res ⟨fun _ => ⟨fun _ => H, fun q => absurd rfl q⟩, fun q => absurd q q315⟩
            | true => exact sA res ⟨fun _ => ⟨fun q => absurd q one_n, fun _ => ⟨z3, f3, o4 rfl, H⟩⟩, fun q => absurd q q315⟩
          have lo : (C ++ (c ++ pbA bo ++ pbO ei)).length ≤ C.length + c.length + pb1 bo + pb1 ei := by
            rw [List.length_append, List.length_append, List.length_append]
            have h1 := prl_le (pbA bo)
            have h2 := prl_le (pbO ei)
            rw [pbA_len] at h1
            rw [pbO_len] at h2
            omega
          by_cases c2 : y.2.1 = 314
          · rw [pL_o h1 c2]
            obtain ⟨z4, s1, s2, s3⟩ := pstep o1 (by omega) (d + 2 * q + 3)
            have k2 := ih.2 q d op (i + 1) true false r (C ++ (c ++ pbA bo ++ pbO ei)) z4 f3 ho s2 (by have : pb1 true = 1 := rfl; have : pb1 false = 0 := rfl; omega) (by omega) (by omega)
            refine k2.pre (fun res hr => sO res ⟨fun q => absurd (e314.mpr c2) q, fun _ => ⟨z4, f3, s1, ?_⟩⟩) (o2.tr (PKZ.st s3))
            rw [i1]
            exact hr
          · rw [pL_z h1 c1 c2]
            exact ⟨z3, f3, sO _ ⟨fun _ => rfl, fun q => absurd (e314.mp q) c2⟩, o1, o2⟩
theorem pchoice {t : FA} {n : Nat} (d : Nat) {ts : List TT} {C : List TK} {z : Nat → Int32} {f : Nat → FA} (h : pcR t n ts C z f) (hb : C.length + ts.length ≤ 401) : PRs (fun res => pcall (d + 22) 129 [vR 0, vI 0] (LPr z f) = some res) t n C z f (pB (2 * ts.length + 2) 1 0 false false ts) := by
  have k := (ptest (t := t) (n := n) (2 * ts.length + 2)).2 8 d 0 0 false false ts C z f rfl h (by show C.length + ts.length + 0 + 0 ≤ 401; omega) (by omega) (Nat.le_refl _)
  refine k.mono (fun res hr => ?_) PKZ.rf
  exact pcall_i (by decide) (mq129 (cu := [])).2.2 rfl (vcp129_0 (pcall (d + 2 * 8 + 5)) 0 none none none z f res hr)
