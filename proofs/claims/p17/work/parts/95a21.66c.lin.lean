/-! the class's reader: lines -/
set_option maxRecDepth 100000 in
theorem bp119_1 (call : QC FA) (x1 : Int32) (x2 : Int32) (z : Nat → Int32) (f : Nat → FA) (F : Nat) : rnG call 119 (F + 3) 0 [some (vR 0), some (vI x1), some (vI x2)] [] (LPr z f) = rnG call 119 F 3 [some (vR 0), some (vI x1), some (vI x2)] [vI 1, vI (z 5)] (LPr z f) := rfl
set_option maxRecDepth 100000 in
theorem bp119_2 (call : QC FA) (x y : Int32) (ls : List (Option PV)) (L : QH FA) (F : Nat) : rnG call 119 (F + 1) 3 ls [vI y, vI x] L = bif pcmp 0 x y then rnG call 119 F 8 ls [] L else rnG call 119 F 4 ls [] L := rfl
set_option maxRecDepth 100000 in
theorem bp119_3 (call : QC FA) (x1 : Int32) (x2 : Int32) (z : Nat → Int32) (f : Nat → FA) (F : Nat) : rnG call 119 (F + 3) 8 [some (vR 0), some (vI x1), some (vI x2)] [] (LPr z f) = rnG call 119 F 11 [some (vR 0), some (vI x1), some (vI x2)] [vI x2, vI (z 6)] (LPr z f) := rfl
set_option maxRecDepth 100000 in
theorem bp119_4 (call : QC FA) (x y : Int32) (ls : List (Option PV)) (L : QH FA) (F : Nat) : rnG call 119 (F + 1) 11 ls [vI y, vI x] L = bif pcmp 5 x y then rnG call 119 F 16 ls [] L else rnG call 119 F 12 ls [] L := rfl
set_option maxRecDepth 100000 in
theorem bp119_5 (call : QC FA) (x1 : Int32) (x2 : Int32) (z : Nat → Int32) (f : Nat → FA) (F : Nat) : rnG call 119 (F + 4) 16 [some (vR 0), some (vI x1), some (vI x2)] [] (LPr z f) = rnG call 119 F 20 [some (vR 0), some (vI x1), some (vI x2)] [vI (z 6), vI x1, vR 0] (LPr z f) := rfl
set_option maxRecDepth 100000 in
theorem bp119_6 (call : QC FA) (a0 : Int32) (a1 : Int32) (ls : List (Option PV)) (z : Nat → Int32) (f : Nat → FA) (F : Nat) : rnG call 119 (F + 1) 20 ls [vI a1, vI a0, vR 0] (LPr z f) = cbd (call 128 [vR 0, vI a0, vI a1] (LPr z f)) (fun r L' => rnG call 119 F 21 ls (r.toList ++ []) L') := pcY (ih := rnG call 119 F) (call := call) (a := 128) (b := 2) (v := 5) (t := 21) (x := 0) (ls := ls) (As := [vI a0, vI a1]) (st' := []) (L := LPr z f) rfl rfl rfl
set_option maxRecDepth 100000 in
theorem bp119_7 (call : QC FA) (x1 : Int32) (x2 : Int32) (L : QH FA) (F : Nat) : rnG call 119 (F + 1) 21 [some (vR 0), some (vI x1), some (vI x2)] [] L = rnG call 119 F 22 [some (vR 0), some (vI x1), some (vI x2)] [vR 0] L := rfl
set_option maxRecDepth 100000 in
theorem bp119_8 (call : QC FA) (ls : List (Option PV)) (z : Nat → Int32) (f : Nat → FA) (F : Nat) : rnG call 119 (F + 1) 22 ls [vR 0] (LPr z f) = cbd (call 135 [vR 0] (LPr z f)) (fun r L' => rnG call 119 F 23 ls (r.toList ++ []) L') := pcY (ih := rnG call 119 F) (call := call) (a := 135) (b := 0) (v := 5) (t := 23) (x := 0) (ls := ls) (As := []) (st' := []) (L := LPr z f) rfl rfl rfl
set_option maxRecDepth 100000 in
theorem bp119_9 (call : QC FA) (x1 : Int32) (x2 : Int32) (L : QH FA) (F : Nat) : rnG call 119 (F + 1) 23 [some (vR 0), some (vI x1), some (vI x2)] [] L = rnG call 119 F 24 [some (vR 0), some (vI x1), some (vI x2)] [vI 1] L := rfl
set_option maxRecDepth 100000 in
theorem bp119_10 (call : QC FA) (ls : List (Option PV)) (L : QH FA) (F : Nat) : rnG call 119 (F + 1) 24 ls [vI 1] L = some (some (vI 1), L) := rfl
set_option maxRecDepth 100000 in
theorem bp119_11 (call : QC FA) (x1 : Int32) (x2 : Int32) (L : QH FA) (F : Nat) : rnG call 119 (F + 2) 12 [some (vR 0), some (vI x1), some (vI x2)] [] L = rnG call 119 F 14 [some (vR 0), some (vI x1), some (vI x2)] [vI 2, vR 0] L := rfl
set_option maxRecDepth 100000 in
theorem bp119_12 (call : QC FA) (a0 : Int32) (ls : List (Option PV)) (z : Nat → Int32) (f : Nat → FA) (F : Nat) : rnG call 119 (F + 1) 14 ls [vI a0, vR 0] (LPr z f) = cbd (call 138 [vR 0, vI a0] (LPr z f)) (fun r L' => rnG call 119 F 15 ls (r.toList ++ []) L') := pcY (ih := rnG call 119 F) (call := call) (a := 138) (b := 1) (v := 5) (t := 15) (x := 0) (ls := ls) (As := [vI a0]) (st' := []) (L := LPr z f) rfl rfl rfl
set_option maxRecDepth 100000 in
theorem bp119_13 (call : QC FA) (ls : List (Option PV)) (L : QH FA) (F : Nat) : rnG call 119 (F + 1) 15 ls [vI 0] L = some (some (vI 0), L) := rfl
set_option maxRecDepth 100000 in
theorem bp119_14 (call : QC FA) (x1 : Int32) (x2 : Int32) (L : QH FA) (F : Nat) : rnG call 119 (F + 2) 4 [some (vR 0), some (vI x1), some (vI x2)] [] L = rnG call 119 F 6 [some (vR 0), some (vI x1), some (vI x2)] [vI 1, vR 0] L := rfl
set_option maxRecDepth 100000 in
theorem bp119_15 (call : QC FA) (a0 : Int32) (ls : List (Option PV)) (z : Nat → Int32) (f : Nat → FA) (F : Nat) : rnG call 119 (F + 1) 6 ls [vI a0, vR 0] (LPr z f) = cbd (call 138 [vR 0, vI a0] (LPr z f)) (fun r L' => rnG call 119 F 7 ls (r.toList ++ []) L') := pcY (ih := rnG call 119 F) (call := call) (a := 138) (b := 1) (v := 5) (t := 7) (x := 0) (ls := ls) (As := [vI a0]) (st' := []) (L := LPr z f) rfl rfl rfl
set_option maxRecDepth 100000 in
theorem bp119_16 (call : QC FA) (ls : List (Option PV)) (L : QH FA) (F : Nat) : rnG call 119 (F + 1) 7 ls [vI 0] L = some (some (vI 0), L) := rfl
theorem vcp119_0 (call : QC FA) (hw : ∀ (a : Int32) (z : Nat → Int32) (f : Nat → FA), call 138 [vR 0, vI a] (LPr z f) = some (some (vI 0), LPr (uZ (uZ z 7 a) 8 (z 3)) f)) (x1 : Int32) (x2 : Int32) (z : Nat → Int32) (f : Nat → FA) (res : Option PV × QH FA) (H : ((z 5 = 1 → ((I (z 6) ≤ I x2 → (∃ (z1 : Nat → Int32) (f1 : Nat → FA), call 128 [vR 0, vI x1, vI (z 6)] (LPr z f) = some (none, LPr z1 f1) ∧ (∃ (z2 : Nat → Int32) (f2 : Nat → FA), call 135 [vR 0] (LPr z1 f1) = some (none, LPr z2 f2) ∧ res = (some (vI 1), LPr z2 f2)))) ∧ (I x2 < I (z 6) → res = (some (vI 0), LPr (uZ (uZ z 7 2) 8 (z 3)) f)))) ∧ (¬ z 5 = 1 → res = (some (vI 0), LPr (uZ (uZ z 7 1) 8 (z 3)) f)))) : RC call (mP 119) 0 [some (vR 0), some (vI x1), some (vI x2)] [] (LPr z f) res := by
  refine rc_b (i' := 3) (ls' := [some (vR 0), some (vI x1), some (vI x2)]) (st' := [vI 1, vI (z 5)]) (L' := LPr z f) 3 (bp119_1 call x1 x2 z f) ?_
  refine rc_if (it := 8) (ie := 4) (ls' := [some (vR 0), some (vI x1), some (vI x2)]) (st' := []) (bp119_2 call (z 5) 1 _ _) (fun q1 => ?_) (fun q1 => ?_)
  · have H := H.1 (cI0t q1)
    refine rc_b (i' := 11) (ls' := [some (vR 0), some (vI x1), some (vI x2)]) (st' := [vI x2, vI (z 6)]) (L' := LPr z f) 3 (bp119_3 call x1 x2 z f) ?_
    refine rc_if (it := 16) (ie := 12) (ls' := [some (vR 0), some (vI x1), some (vI x2)]) (st' := []) (bp119_4 call (z 6) x2 _ _) (fun q2 => ?_) (fun q2 => ?_)
    · have H := H.1 (cI5t q2 rfl rfl)
      refine rc_b (i' := 20) (ls' := [some (vR 0), some (vI x1), some (vI x2)]) (st' := [vI (z 6), vI x1, vR 0]) (L' := LPr z f) 4 (bp119_5 call x1 x2 z f) ?_
      obtain ⟨z1, f1, hc, H⟩ := H
      refine rc_call (t := 21) (ls' := [some (vR 0), some (vI x1), some (vI x2)]) (st' := []) (bp119_6 call x1 (z 6) _ z f) hc ?_
      show RC call (mP 119) 21 [some (vR 0), some (vI x1), some (vI x2)] [] (LPr z1 f1) res
      refine rc_b (i' := 22) (ls' := [some (vR 0), some (vI x1), some (vI x2)]) (st' := [vR 0]) (L' := LPr z1 f1) 1 (bp119_7 call x1 x2 _) ?_
      obtain ⟨z2, f2, hc, H⟩ := H
      refine rc_call (t := 23) (ls' := [some (vR 0), some (vI x1), some (vI x2)]) (st' := []) (bp119_8 call _ z1 f1) hc ?_
      show RC call (mP 119) 23 [some (vR 0), some (vI x1), some (vI x2)] [] (LPr z2 f2) res
      refine rc_b (i' := 24) (ls' := [some (vR 0), some (vI x1), some (vI x2)]) (st' := [vI 1]) (L' := LPr z2 f2) 1 (bp119_9 call x1 x2 _) ?_
      subst H
      exact rc_ret (bp119_10 call _ _)
    · have H := H.2 (cI5f q2 rfl rfl)
      refine rc_b (i' := 14) (ls' := [some (vR 0), some (vI x1), some (vI x2)]) (st' := [vI 2, vR 0]) (L' := LPr z f) 2 (bp119_11 call x1 x2 _) ?_
      refine rc_call (t := 15) (ls' := [some (vR 0), some (vI x1), some (vI x2)]) (st' := []) (bp119_12 call 2 _ z f) (hw 2 z f) ?_
      show RC call (mP 119) 15 [some (vR 0), some (vI x1), some (vI x2)] [vI 0] (LPr (uZ (uZ z 7 2) 8 (z 3)) f) res
      subst H
      exact rc_ret (bp119_13 call _ _)
  · have H := H.2 (cI0f q1)
    refine rc_b (i' := 6) (ls' := [some (vR 0), some (vI x1), some (vI x2)]) (st' := [vI 1, vR 0]) (L' := LPr z f) 2 (bp119_14 call x1 x2 _) ?_
    refine rc_call (t := 7) (ls' := [some (vR 0), some (vI x1), some (vI x2)]) (st' := []) (bp119_15 call 1 _ z f) (hw 1 z f) ?_
    show RC call (mP 119) 7 [some (vR 0), some (vI x1), some (vI x2)] [vI 0] (LPr (uZ (uZ z 7 1) 8 (z 3)) f) res
    subst H
    exact rc_ret (bp119_16 call _ _)
set_option maxRecDepth 100000 in
theorem bp125_1 (call : QC FA) (o1 : Option PV) (z : Nat → Int32) (f : Nat → FA) (F : Nat) : rnG call 125 (F + 3) 0 [some (vR 0), o1] [] (LPr z f) = rnG call 125 F 3 [some (vR 0), o1] [vI 322, vI (z 5)] (LPr z f) := rfl
set_option maxRecDepth 100000 in
theorem bp125_2 (call : QC FA) (x y : Int32) (ls : List (Option PV)) (L : QH FA) (F : Nat) : rnG call 125 (F + 1) 3 ls [vI y, vI x] L = bif pcmp 0 x y then rnG call 125 F 16 ls [] L else rnG call 125 F 4 ls [] L := rfl
set_option maxRecDepth 100000 in
theorem bp125_3 (call : QC FA) (o1 : Option PV) (z : Nat → Int32) (f : Nat → FA) (F : Nat) : rnG call 125 (F + 3) 16 [some (vR 0), o1] [] (LPr z f) = rnG call 125 F 19 [some (vR 0), o1] [vI 322, vI (z 5)] (LPr z f) := rfl
set_option maxRecDepth 100000 in
theorem bp125_4 (call : QC FA) (x y : Int32) (ls : List (Option PV)) (L : QH FA) (F : Nat) : rnG call 125 (F + 1) 19 ls [vI y, vI x] L = bif pcmp 1 x y then rnG call 125 F 22 ls [] L else rnG call 125 F 20 ls [] L := rfl
set_option maxRecDepth 100000 in
theorem bp125_5 (call : QC FA) (o1 : Option PV) (z : Nat → Int32) (f : Nat → FA) (F : Nat) : rnG call 125 (F + 8) 20 [some (vR 0), o1] [] (LPr z f) = rnG call 125 F 29 [some (vR 0), some (vI 1)] [vI 323, vI (z 5), vI 4, vR 0] (LPr z f) := rfl
set_option maxRecDepth 100000 in
theorem bp125_6 (call : QC FA) (x y : Int32) (s0 : Int32) (ls : List (Option PV)) (L : QH FA) (F : Nat) : rnG call 125 (F + 1) 29 ls [vI y, vI x, vI s0, vR 0] L = bif pcmp 1 x y then rnG call 125 F 32 ls [vI s0, vR 0] L else rnG call 125 F 30 ls [vI s0, vR 0] L := rfl
set_option maxRecDepth 100000 in
theorem bp125_7 (call : QC FA) (x1 : Int32) (s0 : Int32) (L : QH FA) (F : Nat) : rnG call 125 (F + 1) 32 [some (vR 0), some (vI x1)] [vI s0, vR 0] L = rnG call 125 F 33 [some (vR 0), some (vI x1)] [vI x1, vI s0, vR 0] L := rfl
set_option maxRecDepth 100000 in
theorem bp125_8 (call : QC FA) (a0 : Int32) (a1 : Int32) (ls : List (Option PV)) (z : Nat → Int32) (f : Nat → FA) (F : Nat) : rnG call 125 (F + 1) 33 ls [vI a1, vI a0, vR 0] (LPr z f) = cbd (call 128 [vR 0, vI a0, vI a1] (LPr z f)) (fun r L' => rnG call 125 F 34 ls (r.toList ++ []) L') := pcY (ih := rnG call 125 F) (call := call) (a := 128) (b := 2) (v := 5) (t := 34) (x := 0) (ls := ls) (As := [vI a0, vI a1]) (st' := []) (L := LPr z f) rfl rfl rfl
set_option maxRecDepth 100000 in
theorem bp125_9 (call : QC FA) (x1 : Int32) (L : QH FA) (F : Nat) : rnG call 125 (F + 1) 34 [some (vR 0), some (vI x1)] [] L = rnG call 125 F 35 [some (vR 0), some (vI x1)] [vR 0] L := rfl
set_option maxRecDepth 100000 in
theorem bp125_10 (call : QC FA) (ls : List (Option PV)) (z : Nat → Int32) (f : Nat → FA) (F : Nat) : rnG call 125 (F + 1) 35 ls [vR 0] (LPr z f) = cbd (call 135 [vR 0] (LPr z f)) (fun r L' => rnG call 125 F 36 ls (r.toList ++ []) L') := pcY (ih := rnG call 125 F) (call := call) (a := 135) (b := 0) (v := 5) (t := 36) (x := 0) (ls := ls) (As := []) (st' := []) (L := LPr z f) rfl rfl rfl
set_option maxRecDepth 100000 in
theorem bp125_11 (call : QC FA) (x1 : Int32) (L : QH FA) (F : Nat) : rnG call 125 (F + 1) 36 [some (vR 0), some (vI x1)] [] L = rnG call 125 F 37 [some (vR 0), some (vI x1)] [vI 1] L := rfl
set_option maxRecDepth 100000 in
theorem bp125_12 (call : QC FA) (ls : List (Option PV)) (L : QH FA) (F : Nat) : rnG call 125 (F + 1) 37 ls [vI 1] L = some (some (vI 1), L) := rfl
set_option maxRecDepth 100000 in
theorem bp125_13 (call : QC FA) (x1 : Int32) (s0 : Int32) (L : QH FA) (F : Nat) : rnG call 125 (F + 2) 30 [some (vR 0), some (vI x1)] [vI s0, vR 0] L = rnG call 125 F 33 [some (vR 0), some (vI x1)] [vI ((-1)), vI s0, vR 0] L := rfl
set_option maxRecDepth 100000 in
theorem bp125_14 (call : QC FA) (o1 : Option PV) (z : Nat → Int32) (f : Nat → FA) (F : Nat) : rnG call 125 (F + 3) 4 [some (vR 0), o1] [] (LPr z f) = rnG call 125 F 7 [some (vR 0), o1] [vI 323, vI (z 5)] (LPr z f) := rfl
set_option maxRecDepth 100000 in
theorem bp125_15 (call : QC FA) (x y : Int32) (ls : List (Option PV)) (L : QH FA) (F : Nat) : rnG call 125 (F + 1) 7 ls [vI y, vI x] L = bif pcmp 0 x y then rnG call 125 F 16 ls [] L else rnG call 125 F 8 ls [] L := rfl
set_option maxRecDepth 100000 in
theorem bp125_16 (call : QC FA) (o1 : Option PV) (z : Nat → Int32) (f : Nat → FA) (F : Nat) : rnG call 125 (F + 7) 22 [some (vR 0), o1] [] (LPr z f) = rnG call 125 F 29 [some (vR 0), some (vI 0)] [vI 323, vI (z 5), vI 4, vR 0] (LPr z f) := rfl
set_option maxRecDepth 100000 in
theorem bp125_17 (call : QC FA) (o1 : Option PV) (z : Nat → Int32) (f : Nat → FA) (F : Nat) : rnG call 125 (F + 3) 8 [some (vR 0), o1] [] (LPr z f) = rnG call 125 F 11 [some (vR 0), o1] [vI 324, vI (z 5)] (LPr z f) := rfl
set_option maxRecDepth 100000 in
theorem bp125_18 (call : QC FA) (x y : Int32) (ls : List (Option PV)) (L : QH FA) (F : Nat) : rnG call 125 (F + 1) 11 ls [vI y, vI x] L = bif pcmp 0 x y then rnG call 125 F 16 ls [] L else rnG call 125 F 12 ls [] L := rfl
set_option maxRecDepth 100000 in
theorem bp125_19 (call : QC FA) (o1 : Option PV) (L : QH FA) (F : Nat) : rnG call 125 (F + 2) 12 [some (vR 0), o1] [] L = rnG call 125 F 14 [some (vR 0), o1] [vI 1, vR 0] L := rfl
set_option maxRecDepth 100000 in
theorem bp125_20 (call : QC FA) (a0 : Int32) (ls : List (Option PV)) (z : Nat → Int32) (f : Nat → FA) (F : Nat) : rnG call 125 (F + 1) 14 ls [vI a0, vR 0] (LPr z f) = cbd (call 138 [vR 0, vI a0] (LPr z f)) (fun r L' => rnG call 125 F 15 ls (r.toList ++ []) L') := pcY (ih := rnG call 125 F) (call := call) (a := 138) (b := 1) (v := 5) (t := 15) (x := 0) (ls := ls) (As := [vI a0]) (st' := []) (L := LPr z f) rfl rfl rfl
set_option maxRecDepth 100000 in
theorem bp125_21 (call : QC FA) (ls : List (Option PV)) (L : QH FA) (F : Nat) : rnG call 125 (F + 1) 15 ls [vI 0] L = some (some (vI 0), L) := rfl
theorem vcp125_0 (call : QC FA) (hw : ∀ (a : Int32) (z : Nat → Int32) (f : Nat → FA), call 138 [vR 0, vI a] (LPr z f) = some (some (vI 0), LPr (uZ (uZ z 7 a) 8 (z 3)) f)) (o1 : Option PV) (z : Nat → Int32) (f : Nat → FA) (res : Option PV × QH FA) (H : ((z 5 = 322 → ((¬ z 5 = 323 → (∃ (z1 : Nat → Int32) (f1 : Nat → FA), call 128 [vR 0, vI 4, vI 1] (LPr z f) = some (none, LPr z1 f1) ∧ (∃ (z2 : Nat → Int32) (f2 : Nat → FA), call 135 [vR 0] (LPr z1 f1) = some (none, LPr z2 f2) ∧ res = (some (vI 1), LPr z2 f2)))) ∧ (z 5 = 323 → (∃ (z3 : Nat → Int32) (f3 : Nat → FA), call 128 [vR 0, vI 4, vI ((-1))] (LPr z f) = some (none, LPr z3 f3) ∧ (∃ (z4 : Nat → Int32) (f4 : Nat → FA), call 135 [vR 0] (LPr z3 f3) = some (none, LPr z4 f4) ∧ res = (some (vI 1), LPr z4 f4)))))) ∧ (¬ z 5 = 322 → ((z 5 = 323 → (∃ (z5 : Nat → Int32) (f5 : Nat → FA), call 128 [vR 0, vI 4, vI ((-1))] (LPr z f) = some (none, LPr z5 f5) ∧ (∃ (z6 : Nat → Int32) (f6 : Nat → FA), call 135 [vR 0] (LPr z5 f5) = some (none, LPr z6 f6) ∧ res = (some (vI 1), LPr z6 f6)))) ∧ (¬ z 5 = 323 → ((z 5 = 324 → (∃ (z7 : Nat → Int32) (f7 : Nat → FA), call 128 [vR 0, vI 4, vI 0] (LPr z f) = some (none, LPr z7 f7) ∧ (∃ (z8 : Nat → Int32) (f8 : Nat → FA), call 135 [vR 0] (LPr z7 f7) = some (none, LPr z8 f8) ∧ res = (some (vI 1), LPr z8 f8)))) ∧ (¬ z 5 = 324 → res = (some (vI 0), LPr (uZ (uZ z 7 1) 8 (z 3)) f)))))))) : RC call (mP 125) 0 [some (vR 0), o1] [] (LPr z f) res := by
  refine rc_b (i' := 3) (ls' := [some (vR 0), o1]) (st' := [vI 322, vI (z 5)]) (L' := LPr z f) 3 (bp125_1 call o1 z f) ?_
  refine rc_if (it := 16) (ie := 4) (ls' := [some (vR 0), o1]) (st' := []) (bp125_2 call (z 5) 322 _ _) (fun q1 => ?_) (fun q1 => ?_)
  · have H := H.1 (cI0t q1)
    refine rc_b (i' := 19) (ls' := [some (vR 0), o1]) (st' := [vI 322, vI (z 5)]) (L' := LPr z f) 3 (bp125_3 call o1 z f) ?_
    refine rc_f (it := 22) (ie := 20) (ls' := [some (vR 0), o1]) (st' := []) (bp125_4 call (z 5) 322 _ _) (pNf (cI0t q1)) ?_
    refine rc_b (i' := 29) (ls' := [some (vR 0), some (vI 1)]) (st' := [vI 323, vI (z 5), vI 4, vR 0]) (L' := LPr z f) 8 (bp125_5 call o1 z f) ?_
    refine rc_if (it := 32) (ie := 30) (ls' := [some (vR 0), some (vI 1)]) (st' := [vI 4, vR 0]) (bp125_6 call (z 5) 323 4 _ _) (fun q2 => ?_) (fun q2 => ?_)
    · have H := H.1 (cI1t q2)
      refine rc_b (i' := 33) (ls' := [some (vR 0), some (vI 1)]) (st' := [vI 1, vI 4, vR 0]) (L' := LPr z f) 1 (bp125_7 call 1 4 _) ?_
      obtain ⟨z1, f1, hc, H⟩ := H
      refine rc_call (t := 34) (ls' := [some (vR 0), some (vI 1)]) (st' := []) (bp125_8 call 4 1 _ z f) hc ?_
      show RC call (mP 125) 34 [some (vR 0), some (vI 1)] [] (LPr z1 f1) res
      refine rc_b (i' := 35) (ls' := [some (vR 0), some (vI 1)]) (st' := [vR 0]) (L' := LPr z1 f1) 1 (bp125_9 call 1 _) ?_
      obtain ⟨z2, f2, hc, H⟩ := H
      refine rc_call (t := 36) (ls' := [some (vR 0), some (vI 1)]) (st' := []) (bp125_10 call _ z1 f1) hc ?_
      show RC call (mP 125) 36 [some (vR 0), some (vI 1)] [] (LPr z2 f2) res
      refine rc_b (i' := 37) (ls' := [some (vR 0), some (vI 1)]) (st' := [vI 1]) (L' := LPr z2 f2) 1 (bp125_11 call 1 _) ?_
      subst H
      exact rc_ret (bp125_12 call _ _)
    · have H := H.2 (cI1f q2)
      refine rc_b (i' := 33) (ls' := [some (vR 0), some (vI 1)]) (st' := [vI ((-1)), vI 4, vR 0]) (L' := LPr z f) 2 (bp125_13 call 1 4 _) ?_
      obtain ⟨z3, f3, hc, H⟩ := H
      refine rc_call (t := 34) (ls' := [some (vR 0), some (vI 1)]) (st' := []) (bp125_8 call 4 ((-1)) _ z f) hc ?_
      show RC call (mP 125) 34 [some (vR 0), some (vI 1)] [] (LPr z3 f3) res
      refine rc_b (i' := 35) (ls' := [some (vR 0), some (vI 1)]) (st' := [vR 0]) (L' := LPr z3 f3) 1 (bp125_9 call 1 _) ?_
      obtain ⟨z4, f4, hc, H⟩ := H
      refine rc_call (t := 36) (ls' := [some (vR 0), some (vI 1)]) (st' := []) (bp125_10 call _ z3 f3) hc ?_
      show RC call (mP 125) 36 [some (vR 0), some (vI 1)] [] (LPr z4 f4) res
      refine rc_b (i' := 37) (ls' := [some (vR 0), some (vI 1)]) (st' := [vI 1]) (L' := LPr z4 f4) 1 (bp125_11 call 1 _) ?_
      subst H
      exact rc_ret (bp125_12 call _ _)
  · have H := H.2 (cI0f q1)
    refine rc_b (i' := 7) (ls' := [some (vR 0), o1]) (st' := [vI 323, vI (z 5)]) (L' := LPr z f) 3 (bp125_14 call o1 z f) ?_
    refine rc_if (it := 16) (ie := 8) (ls' := [some (vR 0), o1]) (st' := []) (bp125_15 call (z 5) 323 _ _) (fun q3 => ?_) (fun q3 => ?_)
    · have H := H.1 (cI0t q3)
      refine rc_b (i' := 19) (ls' := [some (vR 0), o1]) (st' := [vI 322, vI (z 5)]) (L' := LPr z f) 3 (bp125_3 call o1 z f) ?_
      refine rc_t (it := 22) (ie := 20) (ls' := [some (vR 0), o1]) (st' := []) (bp125_4 call (z 5) 322 _ _) (pNt (cI0f q1)) ?_
      refine rc_b (i' := 29) (ls' := [some (vR 0), some (vI 0)]) (st' := [vI 323, vI (z 5), vI 4, vR 0]) (L' := LPr z f) 7 (bp125_16 call o1 z f) ?_
      refine rc_f (it := 32) (ie := 30) (ls' := [some (vR 0), some (vI 0)]) (st' := [vI 4, vR 0]) (bp125_6 call (z 5) 323 4 _ _) (pNf (cI0t q3)) ?_
      refine rc_b (i' := 33) (ls' := [some (vR 0), some (vI 0)]) (st' := [vI ((-1)), vI 4, vR 0]) (L' := LPr z f) 2 (bp125_13 call 0 4 _) ?_
      obtain ⟨z5, f5, hc, H⟩ := H
      refine rc_call (t := 34) (ls' := [some (vR 0), some (vI 0)]) (st' := []) (bp125_8 call 4 ((-1)) _ z f) hc ?_
      show RC call (mP 125) 34 [some (vR 0), some (vI 0)] [] (LPr z5 f5) res
      refine rc_b (i' := 35) (ls' := [some (vR 0), some (vI 0)]) (st' := [vR 0]) (L' := LPr z5 f5) 1 (bp125_9 call 0 _) ?_
      obtain ⟨z6, f6, hc, H⟩ := H
      refine rc_call (t := 36) (ls' := [some (vR 0), some (vI 0)]) (st' := []) (bp125_10 call _ z5 f5) hc ?_
      show RC call (mP 125) 36 [some (vR 0), some (vI 0)] [] (LPr z6 f6) res
      refine rc_b (i' := 37) (ls' := [some (vR 0), some (vI 0)]) (st' := [vI 1]) (L' := LPr z6 f6) 1 (bp125_11 call 0 _) ?_
      subst H
      exact rc_ret (bp125_12 call _ _)
    · have H := H.2 (cI0f q3)
      refine rc_b (i' := 11) (ls' := [some (vR 0), o1]) (st' := [vI 324, vI (z 5)]) (L' := LPr z f) 3 (bp125_17 call o1 z f) ?_
      refine rc_if (it := 16) (ie := 12) (ls' := [some (vR 0), o1]) (st' := []) (bp125_18 call (z 5) 324 _ _) (fun q4 => ?_) (fun q4 => ?_)
      · have H := H.1 (cI0t q4)
        refine rc_b (i' := 19) (ls' := [some (vR 0), o1]) (st' := [vI 322, vI (z 5)]) (L' := LPr z f) 3 (bp125_3 call o1 z f) ?_
        refine rc_t (it := 22) (ie := 20) (ls' := [some (vR 0), o1]) (st' := []) (bp125_4 call (z 5) 322 _ _) (pNt (cI0f q1)) ?_
        refine rc_b (i' := 29) (ls' := [some (vR 0), some (vI 0)]) (st' := [vI 323, vI (z 5), vI 4, vR 0]) (L' := LPr z f) 7 (bp125_16 call o1 z f) ?_
        refine rc_t (it := 32) (ie := 30) (ls' := [some (vR 0), some (vI 0)]) (st' := [vI 4, vR 0]) (bp125_6 call (z 5) 323 4 _ _) (pNt (cI0f q3)) ?_
        refine rc_b (i' := 33) (ls' := [some (vR 0), some (vI 0)]) (st' := [vI 0, vI 4, vR 0]) (L' := LPr z f) 1 (bp125_7 call 0 4 _) ?_
        obtain ⟨z7, f7, hc, H⟩ := H
        refine rc_call (t := 34) (ls' := [some (vR 0), some (vI 0)]) (st' := []) (bp125_8 call 4 0 _ z f) hc ?_
        show RC call (mP 125) 34 [some (vR 0), some (vI 0)] [] (LPr z7 f7) res
        refine rc_b (i' := 35) (ls' := [some (vR 0), some (vI 0)]) (st' := [vR 0]) (L' := LPr z7 f7) 1 (bp125_9 call 0 _) ?_
        obtain ⟨z8, f8, hc, H⟩ := H
        refine rc_call (t := 36) (ls' := [some (vR 0), some (vI 0)]) (st' := []) (bp125_10 call _ z7 f7) hc ?_
        show RC call (mP 125) 36 [some (vR 0), some (vI 0)] [] (LPr z8 f8) res
        refine rc_b (i' := 37) (ls' := [some (vR 0), some (vI 0)]) (st' := [vI 1]) (L' := LPr z8 f8) 1 (bp125_11 call 0 _) ?_
        subst H
        exact rc_ret (bp125_12 call _ _)
      · have H := H.2 (cI0f q4)
        refine rc_b (i' := 14) (ls' := [some (vR 0), o1]) (st' := [vI 1, vR 0]) (L' := LPr z f) 2 (bp125_19 call o1 _) ?_
        refine rc_call (t := 15) (ls' := [some (vR 0), o1]) (st' := []) (bp125_20 call 1 _ z f) (hw 1 z f) ?_
        show RC call (mP 125) 15 [some (vR 0), o1] [vI 0] (LPr (uZ (uZ z 7 1) 8 (z 3)) f) res
        subst H
        exact rc_ret (bp125_21 call _ _)
set_option maxRecDepth 100000 in
theorem bp134_1 (call : QC FA) (z : Nat → Int32) (f : Nat → FA) (F : Nat) : rnG call 134 (F + 4) 0 [some (vR 0)] [] (LPr z f) = rnG call 134 F 4 [some (vR 0)] [vI (z 5), vI 1, vR 0] (LPr z f) := rfl
set_option maxRecDepth 100000 in
theorem bp134_2 (call : QC FA) (a0 : Int32) (a1 : Int32) (ls : List (Option PV)) (z : Nat → Int32) (f : Nat → FA) (F : Nat) : rnG call 134 (F + 1) 4 ls [vI a1, vI a0, vR 0] (LPr z f) = cbd (call 128 [vR 0, vI a0, vI a1] (LPr z f)) (fun r L' => rnG call 134 F 5 ls (r.toList ++ []) L') := pcY (ih := rnG call 134 F) (call := call) (a := 128) (b := 2) (v := 5) (t := 5) (x := 0) (ls := ls) (As := [vI a0, vI a1]) (st' := []) (L := LPr z f) rfl rfl rfl
set_option maxRecDepth 100000 in
theorem bp134_3 (call : QC FA) (z : Nat → Int32) (f : Nat → FA) (F : Nat) : rnG call 134 (F + 3) 5 [some (vR 0)] [] (LPr z f) = rnG call 134 F 8 [some (vR 0)] [vI 307, vI (z 5)] (LPr z f) := rfl
set_option maxRecDepth 100000 in
theorem bp134_4 (call : QC FA) (x y : Int32) (ls : List (Option PV)) (L : QH FA) (F : Nat) : rnG call 134 (F + 1) 8 ls [vI y, vI x] L = bif pcmp 1 x y then rnG call 134 F 29 ls [] L else rnG call 134 F 9 ls [] L := rfl
set_option maxRecDepth 100000 in
theorem bp134_5 (call : QC FA) (z : Nat → Int32) (f : Nat → FA) (F : Nat) : rnG call 134 (F + 3) 29 [some (vR 0)] [] (LPr z f) = rnG call 134 F 32 [some (vR 0)] [vI 321, vI (z 5)] (LPr z f) := rfl
set_option maxRecDepth 100000 in
theorem bp134_6 (call : QC FA) (x y : Int32) (ls : List (Option PV)) (L : QH FA) (F : Nat) : rnG call 134 (F + 1) 32 ls [vI y, vI x] L = bif pcmp 1 x y then rnG call 134 F 58 ls [] L else rnG call 134 F 33 ls [] L := rfl
set_option maxRecDepth 100000 in
theorem bp134_7 (call : QC FA) (z : Nat → Int32) (f : Nat → FA) (F : Nat) : rnG call 134 (F + 3) 58 [some (vR 0)] [] (LPr z f) = rnG call 134 F 61 [some (vR 0)] [vI 303, vI (z 5)] (LPr z f) := rfl
set_option maxRecDepth 100000 in
theorem bp134_8 (call : QC FA) (x y : Int32) (ls : List (Option PV)) (L : QH FA) (F : Nat) : rnG call 134 (F + 1) 61 ls [vI y, vI x] L = bif pcmp 1 x y then rnG call 134 F 83 ls [] L else rnG call 134 F 62 ls [] L := rfl
set_option maxRecDepth 100000 in
theorem bp134_9 (call : QC FA) (L : QH FA) (F : Nat) : rnG call 134 (F + 2) 83 [some (vR 0)] [] L = rnG call 134 F 85 [some (vR 0)] [vI 1, vR 0] L := rfl
set_option maxRecDepth 100000 in
theorem bp134_10 (call : QC FA) (a0 : Int32) (ls : List (Option PV)) (z : Nat → Int32) (f : Nat → FA) (F : Nat) : rnG call 134 (F + 1) 85 ls [vI a0, vR 0] (LPr z f) = cbd (call 138 [vR 0, vI a0] (LPr z f)) (fun r L' => rnG call 134 F 86 ls (r.toList ++ []) L') := pcY (ih := rnG call 134 F) (call := call) (a := 138) (b := 1) (v := 5) (t := 86) (x := 0) (ls := ls) (As := [vI a0]) (st' := []) (L := LPr z f) rfl rfl rfl
set_option maxRecDepth 100000 in
theorem bp134_11 (call : QC FA) (ls : List (Option PV)) (L : QH FA) (F : Nat) : rnG call 134 (F + 1) 86 ls [vI 0] L = some (some (vI 0), L) := rfl
set_option maxRecDepth 100000 in
theorem bp134_12 (call : QC FA) (L : QH FA) (F : Nat) : rnG call 134 (F + 1) 62 [some (vR 0)] [] L = rnG call 134 F 63 [some (vR 0)] [vR 0] L := rfl
set_option maxRecDepth 100000 in
theorem bp134_13 (call : QC FA) (ls : List (Option PV)) (z : Nat → Int32) (f : Nat → FA) (F : Nat) : rnG call 134 (F + 1) 63 ls [vR 0] (LPr z f) = cbd (call 135 [vR 0] (LPr z f)) (fun r L' => rnG call 134 F 64 ls (r.toList ++ []) L') := pcY (ih := rnG call 134 F) (call := call) (a := 135) (b := 0) (v := 5) (t := 64) (x := 0) (ls := ls) (As := []) (st' := []) (L := LPr z f) rfl rfl rfl
set_option maxRecDepth 100000 in
theorem bp134_14 (call : QC FA) (L : QH FA) (F : Nat) : rnG call 134 (F + 3) 64 [some (vR 0)] [] L = rnG call 134 F 67 [some (vR 0)] [vI 0, vI 2, vR 0] L := rfl
set_option maxRecDepth 100000 in
theorem bp134_15 (call : QC FA) (a0 : Int32) (a1 : Int32) (ls : List (Option PV)) (z : Nat → Int32) (f : Nat → FA) (F : Nat) : rnG call 134 (F + 1) 67 ls [vI a1, vI a0, vR 0] (LPr z f) = cbd (call 128 [vR 0, vI a0, vI a1] (LPr z f)) (fun r L' => rnG call 134 F 68 ls (r.toList ++ []) L') := pcY (ih := rnG call 134 F) (call := call) (a := 128) (b := 2) (v := 5) (t := 68) (x := 0) (ls := ls) (As := [vI a0, vI a1]) (st' := []) (L := LPr z f) rfl rfl rfl
set_option maxRecDepth 100000 in
theorem bp134_16 (call : QC FA) (z : Nat → Int32) (f : Nat → FA) (F : Nat) : rnG call 134 (F + 6) 68 [some (vR 0)] [] (LPr z f) = rnG call 134 F 74 [some (vR 0)] [vI ((z 9) - 1), vI 3, vR 0] (LPr z f) := rfl
set_option maxRecDepth 100000 in
theorem bp134_17 (call : QC FA) (a0 : Int32) (a1 : Int32) (ls : List (Option PV)) (z : Nat → Int32) (f : Nat → FA) (F : Nat) : rnG call 134 (F + 1) 74 ls [vI a1, vI a0, vR 0] (LPr z f) = cbd (call 119 [vR 0, vI a0, vI a1] (LPr z f)) (fun r L' => rnG call 134 F 75 ls (r.toList ++ []) L') := pcY (ih := rnG call 134 F) (call := call) (a := 119) (b := 2) (v := 5) (t := 75) (x := 0) (ls := ls) (As := [vI a0, vI a1]) (st' := []) (L := LPr z f) rfl rfl rfl
set_option maxRecDepth 100000 in
theorem bp134_18 (call : QC FA) (x : Int32) (ls : List (Option PV)) (L : QH FA) (F : Nat) : rnG call 134 (F + 1) 75 ls [vI x] L = bif pcmp 0 x 0 then rnG call 134 F 81 ls [] L else rnG call 134 F 76 ls [] L := rfl
set_option maxRecDepth 100000 in
theorem bp134_19 (call : QC FA) (L : QH FA) (F : Nat) : rnG call 134 (F + 1) 81 [some (vR 0)] [] L = rnG call 134 F 82 [some (vR 0)] [vI 0] L := rfl
set_option maxRecDepth 100000 in
theorem bp134_20 (call : QC FA) (ls : List (Option PV)) (L : QH FA) (F : Nat) : rnG call 134 (F + 1) 82 ls [vI 0] L = some (some (vI 0), L) := rfl
set_option maxRecDepth 100000 in
theorem bp134_21 (call : QC FA) (L : QH FA) (F : Nat) : rnG call 134 (F + 1) 76 [some (vR 0)] [] L = rnG call 134 F 77 [some (vR 0)] [vR 0] L := rfl
set_option maxRecDepth 100000 in
theorem bp134_22 (call : QC FA) (ls : List (Option PV)) (z : Nat → Int32) (f : Nat → FA) (F : Nat) : rnG call 134 (F + 1) 77 ls [vR 0] (LPr z f) = cbd (call 125 [vR 0] (LPr z f)) (fun r L' => rnG call 134 F 78 ls (r.toList ++ []) L') := pcY (ih := rnG call 134 F) (call := call) (a := 125) (b := 0) (v := 5) (t := 78) (x := 0) (ls := ls) (As := []) (st' := []) (L := LPr z f) rfl rfl rfl
set_option maxRecDepth 100000 in
theorem bp134_23 (call : QC FA) (x : Int32) (ls : List (Option PV)) (L : QH FA) (F : Nat) : rnG call 134 (F + 1) 78 ls [vI x] L = bif pcmp 0 x 0 then rnG call 134 F 81 ls [] L else rnG call 134 F 79 ls [] L := rfl
set_option maxRecDepth 100000 in
theorem bp134_24 (call : QC FA) (L : QH FA) (F : Nat) : rnG call 134 (F + 2) 79 [some (vR 0)] [] L = rnG call 134 F 82 [some (vR 0)] [vI 1] L := rfl
set_option maxRecDepth 100000 in
theorem bp134_25 (call : QC FA) (ls : List (Option PV)) (L : QH FA) (F : Nat) : rnG call 134 (F + 1) 82 ls [vI 1] L = some (some (vI 1), L) := rfl
set_option maxRecDepth 100000 in
theorem bp134_26 (call : QC FA) (L : QH FA) (F : Nat) : rnG call 134 (F + 1) 33 [some (vR 0)] [] L = rnG call 134 F 34 [some (vR 0)] [vR 0] L := rfl
set_option maxRecDepth 100000 in
theorem bp134_27 (call : QC FA) (ls : List (Option PV)) (z : Nat → Int32) (f : Nat → FA) (F : Nat) : rnG call 134 (F + 1) 34 ls [vR 0] (LPr z f) = cbd (call 135 [vR 0] (LPr z f)) (fun r L' => rnG call 134 F 35 ls (r.toList ++ []) L') := pcY (ih := rnG call 134 F) (call := call) (a := 135) (b := 0) (v := 5) (t := 35) (x := 0) (ls := ls) (As := []) (st' := []) (L := LPr z f) rfl rfl rfl
set_option maxRecDepth 100000 in
theorem bp134_28 (call : QC FA) (L : QH FA) (F : Nat) : rnG call 134 (F + 2) 35 [some (vR 0)] [] L = rnG call 134 F 37 [some (vR 0)] [vI 318, vR 0] L := rfl
set_option maxRecDepth 100000 in
theorem bp134_29 (call : QC FA) (a0 : Int32) (ls : List (Option PV)) (z : Nat → Int32) (f : Nat → FA) (F : Nat) : rnG call 134 (F + 1) 37 ls [vI a0, vR 0] (LPr z f) = cbd (call 133 [vR 0, vI a0] (LPr z f)) (fun r L' => rnG call 134 F 38 ls (r.toList ++ []) L') := pcY (ih := rnG call 134 F) (call := call) (a := 133) (b := 1) (v := 5) (t := 38) (x := 0) (ls := ls) (As := [vI a0]) (st' := []) (L := LPr z f) rfl rfl rfl
set_option maxRecDepth 100000 in
theorem bp134_30 (call : QC FA) (x : Int32) (ls : List (Option PV)) (L : QH FA) (F : Nat) : rnG call 134 (F + 1) 38 ls [vI x] L = bif pcmp 0 x 0 then rnG call 134 F 56 ls [] L else rnG call 134 F 39 ls [] L := rfl
set_option maxRecDepth 100000 in
theorem bp134_31 (call : QC FA) (L : QH FA) (F : Nat) : rnG call 134 (F + 1) 56 [some (vR 0)] [] L = rnG call 134 F 57 [some (vR 0)] [vI 0] L := rfl
set_option maxRecDepth 100000 in
theorem bp134_32 (call : QC FA) (ls : List (Option PV)) (L : QH FA) (F : Nat) : rnG call 134 (F + 1) 57 ls [vI 0] L = some (some (vI 0), L) := rfl
set_option maxRecDepth 100000 in
theorem bp134_33 (call : QC FA) (L : QH FA) (F : Nat) : rnG call 134 (F + 3) 39 [some (vR 0)] [] L = rnG call 134 F 42 [some (vR 0)] [vI 11, vI 2, vR 0] L := rfl
set_option maxRecDepth 100000 in
theorem bp134_34 (call : QC FA) (a0 : Int32) (a1 : Int32) (ls : List (Option PV)) (z : Nat → Int32) (f : Nat → FA) (F : Nat) : rnG call 134 (F + 1) 42 ls [vI a1, vI a0, vR 0] (LPr z f) = cbd (call 119 [vR 0, vI a0, vI a1] (LPr z f)) (fun r L' => rnG call 134 F 43 ls (r.toList ++ []) L') := pcY (ih := rnG call 134 F) (call := call) (a := 119) (b := 2) (v := 5) (t := 43) (x := 0) (ls := ls) (As := [vI a0, vI a1]) (st' := []) (L := LPr z f) rfl rfl rfl
set_option maxRecDepth 100000 in
theorem bp134_35 (call : QC FA) (x : Int32) (ls : List (Option PV)) (L : QH FA) (F : Nat) : rnG call 134 (F + 1) 43 ls [vI x] L = bif pcmp 0 x 0 then rnG call 134 F 56 ls [] L else rnG call 134 F 44 ls [] L := rfl
set_option maxRecDepth 100000 in
theorem bp134_36 (call : QC FA) (L : QH FA) (F : Nat) : rnG call 134 (F + 3) 44 [some (vR 0)] [] L = rnG call 134 F 47 [some (vR 0)] [vI 11, vI 3, vR 0] L := rfl
set_option maxRecDepth 100000 in
theorem bp134_37 (call : QC FA) (a0 : Int32) (a1 : Int32) (ls : List (Option PV)) (z : Nat → Int32) (f : Nat → FA) (F : Nat) : rnG call 134 (F + 1) 47 ls [vI a1, vI a0, vR 0] (LPr z f) = cbd (call 119 [vR 0, vI a0, vI a1] (LPr z f)) (fun r L' => rnG call 134 F 48 ls (r.toList ++ []) L') := pcY (ih := rnG call 134 F) (call := call) (a := 119) (b := 2) (v := 5) (t := 48) (x := 0) (ls := ls) (As := [vI a0, vI a1]) (st' := []) (L := LPr z f) rfl rfl rfl
set_option maxRecDepth 100000 in
theorem bp134_38 (call : QC FA) (x : Int32) (ls : List (Option PV)) (L : QH FA) (F : Nat) : rnG call 134 (F + 1) 48 ls [vI x] L = bif pcmp 0 x 0 then rnG call 134 F 56 ls [] L else rnG call 134 F 49 ls [] L := rfl
set_option maxRecDepth 100000 in
theorem bp134_39 (call : QC FA) (L : QH FA) (F : Nat) : rnG call 134 (F + 3) 49 [some (vR 0)] [] L = rnG call 134 F 52 [some (vR 0)] [vI 11, vI 4, vR 0] L := rfl
set_option maxRecDepth 100000 in
theorem bp134_40 (call : QC FA) (a0 : Int32) (a1 : Int32) (ls : List (Option PV)) (z : Nat → Int32) (f : Nat → FA) (F : Nat) : rnG call 134 (F + 1) 52 ls [vI a1, vI a0, vR 0] (LPr z f) = cbd (call 119 [vR 0, vI a0, vI a1] (LPr z f)) (fun r L' => rnG call 134 F 53 ls (r.toList ++ []) L') := pcY (ih := rnG call 134 F) (call := call) (a := 119) (b := 2) (v := 5) (t := 53) (x := 0) (ls := ls) (As := [vI a0, vI a1]) (st' := []) (L := LPr z f) rfl rfl rfl
set_option maxRecDepth 100000 in
theorem bp134_41 (call : QC FA) (x : Int32) (ls : List (Option PV)) (L : QH FA) (F : Nat) : rnG call 134 (F + 1) 53 ls [vI x] L = bif pcmp 0 x 0 then rnG call 134 F 56 ls [] L else rnG call 134 F 54 ls [] L := rfl
set_option maxRecDepth 100000 in
theorem bp134_42 (call : QC FA) (L : QH FA) (F : Nat) : rnG call 134 (F + 2) 54 [some (vR 0)] [] L = rnG call 134 F 57 [some (vR 0)] [vI 1] L := rfl
set_option maxRecDepth 100000 in
theorem bp134_43 (call : QC FA) (ls : List (Option PV)) (L : QH FA) (F : Nat) : rnG call 134 (F + 1) 57 ls [vI 1] L = some (some (vI 1), L) := rfl
set_option maxRecDepth 100000 in
theorem bp134_44 (call : QC FA) (L : QH FA) (F : Nat) : rnG call 134 (F + 1) 9 [some (vR 0)] [] L = rnG call 134 F 10 [some (vR 0)] [vR 0] L := rfl
set_option maxRecDepth 100000 in
theorem bp134_45 (call : QC FA) (ls : List (Option PV)) (z : Nat → Int32) (f : Nat → FA) (F : Nat) : rnG call 134 (F + 1) 10 ls [vR 0] (LPr z f) = cbd (call 135 [vR 0] (LPr z f)) (fun r L' => rnG call 134 F 11 ls (r.toList ++ []) L') := pcY (ih := rnG call 134 F) (call := call) (a := 135) (b := 0) (v := 5) (t := 11) (x := 0) (ls := ls) (As := []) (st' := []) (L := LPr z f) rfl rfl rfl
set_option maxRecDepth 100000 in
theorem bp134_46 (call : QC FA) (L : QH FA) (F : Nat) : rnG call 134 (F + 3) 11 [some (vR 0)] [] L = rnG call 134 F 14 [some (vR 0)] [vI 9, vI 3, vR 0] L := rfl
set_option maxRecDepth 100000 in
theorem bp134_47 (call : QC FA) (a0 : Int32) (a1 : Int32) (ls : List (Option PV)) (z : Nat → Int32) (f : Nat → FA) (F : Nat) : rnG call 134 (F + 1) 14 ls [vI a1, vI a0, vR 0] (LPr z f) = cbd (call 119 [vR 0, vI a0, vI a1] (LPr z f)) (fun r L' => rnG call 134 F 15 ls (r.toList ++ []) L') := pcY (ih := rnG call 134 F) (call := call) (a := 119) (b := 2) (v := 5) (t := 15) (x := 0) (ls := ls) (As := [vI a0, vI a1]) (st' := []) (L := LPr z f) rfl rfl rfl
set_option maxRecDepth 100000 in
theorem bp134_48 (call : QC FA) (x : Int32) (ls : List (Option PV)) (L : QH FA) (F : Nat) : rnG call 134 (F + 1) 15 ls [vI x] L = bif pcmp 0 x 0 then rnG call 134 F 27 ls [] L else rnG call 134 F 16 ls [] L := rfl
set_option maxRecDepth 100000 in
theorem bp134_49 (call : QC FA) (L : QH FA) (F : Nat) : rnG call 134 (F + 1) 27 [some (vR 0)] [] L = rnG call 134 F 28 [some (vR 0)] [vI 0] L := rfl
set_option maxRecDepth 100000 in
theorem bp134_50 (call : QC FA) (ls : List (Option PV)) (L : QH FA) (F : Nat) : rnG call 134 (F + 1) 28 ls [vI 0] L = some (some (vI 0), L) := rfl
set_option maxRecDepth 100000 in
theorem bp134_51 (call : QC FA) (L : QH FA) (F : Nat) : rnG call 134 (F + 2) 16 [some (vR 0)] [] L = rnG call 134 F 18 [some (vR 0)] [vI 318, vR 0] L := rfl
set_option maxRecDepth 100000 in
theorem bp134_52 (call : QC FA) (a0 : Int32) (ls : List (Option PV)) (z : Nat → Int32) (f : Nat → FA) (F : Nat) : rnG call 134 (F + 1) 18 ls [vI a0, vR 0] (LPr z f) = cbd (call 133 [vR 0, vI a0] (LPr z f)) (fun r L' => rnG call 134 F 19 ls (r.toList ++ []) L') := pcY (ih := rnG call 134 F) (call := call) (a := 133) (b := 1) (v := 5) (t := 19) (x := 0) (ls := ls) (As := [vI a0]) (st' := []) (L := LPr z f) rfl rfl rfl
set_option maxRecDepth 100000 in
theorem bp134_53 (call : QC FA) (x : Int32) (ls : List (Option PV)) (L : QH FA) (F : Nat) : rnG call 134 (F + 1) 19 ls [vI x] L = bif pcmp 0 x 0 then rnG call 134 F 27 ls [] L else rnG call 134 F 20 ls [] L := rfl
set_option maxRecDepth 100000 in
theorem bp134_54 (call : QC FA) (L : QH FA) (F : Nat) : rnG call 134 (F + 3) 20 [some (vR 0)] [] L = rnG call 134 F 23 [some (vR 0)] [vI 11, vI 2, vR 0] L := rfl
set_option maxRecDepth 100000 in
theorem bp134_55 (call : QC FA) (a0 : Int32) (a1 : Int32) (ls : List (Option PV)) (z : Nat → Int32) (f : Nat → FA) (F : Nat) : rnG call 134 (F + 1) 23 ls [vI a1, vI a0, vR 0] (LPr z f) = cbd (call 119 [vR 0, vI a0, vI a1] (LPr z f)) (fun r L' => rnG call 134 F 24 ls (r.toList ++ []) L') := pcY (ih := rnG call 134 F) (call := call) (a := 119) (b := 2) (v := 5) (t := 24) (x := 0) (ls := ls) (As := [vI a0, vI a1]) (st' := []) (L := LPr z f) rfl rfl rfl
set_option maxRecDepth 100000 in
theorem bp134_56 (call : QC FA) (x : Int32) (ls : List (Option PV)) (L : QH FA) (F : Nat) : rnG call 134 (F + 1) 24 ls [vI x] L = bif pcmp 0 x 0 then rnG call 134 F 27 ls [] L else rnG call 134 F 25 ls [] L := rfl
set_option maxRecDepth 100000 in
theorem bp134_57 (call : QC FA) (L : QH FA) (F : Nat) : rnG call 134 (F + 2) 25 [some (vR 0)] [] L = rnG call 134 F 28 [some (vR 0)] [vI 1] L := rfl
set_option maxRecDepth 100000 in
theorem bp134_58 (call : QC FA) (ls : List (Option PV)) (L : QH FA) (F : Nat) : rnG call 134 (F + 1) 28 ls [vI 1] L = some (some (vI 1), L) := rfl
theorem vcp134_0 (call : QC FA) (hw : ∀ (a : Int32) (z : Nat → Int32) (f : Nat → FA), call 138 [vR 0, vI a] (LPr z f) = some (some (vI 0), LPr (uZ (uZ z 7 a) 8 (z 3)) f)) (z : Nat → Int32) (f : Nat → FA) (res : Option PV × QH FA) (H : (∃ (z1 : Nat → Int32) (f1 : Nat → FA), call 128 [vR 0, vI 1, vI (z 5)] (LPr z f) = some (none, LPr z1 f1) ∧ ((¬ z1 5 = 307 → ((¬ z1 5 = 321 → ((¬ z1 5 = 303 → res = (some (vI 0), LPr (uZ (uZ z1 7 1) 8 (z1 3)) f1)) ∧ (z1 5 = 303 → (∃ (z2 : Nat → Int32) (f2 : Nat → FA), call 135 [vR 0] (LPr z1 f1) = some (none, LPr z2 f2) ∧ (∃ (z3 : Nat → Int32) (f3 : Nat → FA), call 128 [vR 0, vI 2, vI 0] (LPr z2 f2) = some (none, LPr z3 f3) ∧ (∃ (r4 : Int32) (z4 : Nat → Int32) (f4 : Nat → FA), call 119 [vR 0, vI 3, vI ((z3 9) - 1)] (LPr z3 f3) = some (some (vI r4), LPr z4 f4) ∧ ((r4 = 0 → res = (some (vI 0), LPr z4 f4)) ∧ (¬ r4 = 0 → (∃ (r5 : Int32) (z5 : Nat → Int32) (f5 : Nat → FA), call 125 [vR 0] (LPr z4 f4) = some (some (vI r5), LPr z5 f5) ∧ ((r5 = 0 → res = (some (vI 0), LPr z5 f5)) ∧ (¬ r5 = 0 → res = (some (vI 1), LPr z5 f5)))))))))))) ∧ (z1 5 = 321 → (∃ (z6 : Nat → Int32) (f6 : Nat → FA), call 135 [vR 0] (LPr z1 f1) = some (none, LPr z6 f6) ∧ (∃ (r7 : Int32) (z7 : Nat → Int32) (f7 : Nat → FA), call 133 [vR 0, vI 318] (LPr z6 f6) = some (some (vI r7), LPr z7 f7) ∧ ((r7 = 0 → res = (some (vI 0), LPr z7 f7)) ∧ (¬ r7 = 0 → (∃ (r8 : Int32) (z8 : Nat → Int32) (f8 : Nat → FA), call 119 [vR 0, vI 2, vI 11] (LPr z7 f7) = some (some (vI r8), LPr z8 f8) ∧ ((r8 = 0 → res = (some (vI 0), LPr z8 f8)) ∧ (¬ r8 = 0 → (∃ (r9 : Int32) (z9 : Nat → Int32) (f9 : Nat → FA), call 119 [vR 0, vI 3, vI 11] (LPr z8 f8) = some (some (vI r9), LPr z9 f9) ∧ ((r9 = 0 → res = (some (vI 0), LPr z9 f9)) ∧ (¬ r9 = 0 → (∃ (r10 : Int32) (z10 : Nat → Int32) (f10 : Nat → FA), call 119 [vR 0, vI 4, vI 11] (LPr z9 f9) = some (some (vI r10), LPr z10 f10) ∧ ((r10 = 0 → res = (some (vI 0), LPr z10 f10)) ∧ (¬ r10 = 0 → res = (some (vI 1), LPr z10 f10))))))))))))))))) ∧ (z1 5 = 307 → (∃ (z11 : Nat → Int32) (f11 : Nat → FA), call 135 [vR 0] (LPr z1 f1) = some (none, LPr z11 f11) ∧ (∃ (r12 : Int32) (z12 : Nat → Int32) (f12 : Nat → FA), call 119 [vR 0, vI 3, vI 9] (LPr z11 f11) = some (some (vI r12), LPr z12 f12) ∧ ((r12 = 0 → res = (some (vI 0), LPr z12 f12)) ∧ (¬ r12 = 0 → (∃ (r13 : Int32) (z13 : Nat → Int32) (f13 : Nat → FA), call 133 [vR 0, vI 318] (LPr z12 f12) = some (some (vI r13), LPr z13 f13) ∧ ((r13 = 0 → res = (some (vI 0), LPr z13 f13)) ∧ (¬ r13 = 0 → (∃ (r14 : Int32) (z14 : Nat → Int32) (f14 : Nat → FA), call 119 [vR 0, vI 2, vI 11] (LPr z13 f13) = some (some (vI r14), LPr z14 f14) ∧ ((r14 = 0 → res = (some (vI 0), LPr z14 f14)) ∧ (¬ r14 = 0 → res = (some (vI 1), LPr z14 f14))))))))))))))) : RC call (mP 134) 0 [some (vR 0)] [] (LPr z f) res := by
  refine rc_b (i' := 4) (ls' := [some (vR 0)]) (st' := [vI (z 5), vI 1, vR 0]) (L' := LPr z f) 4 (bp134_1 call z f) ?_
  obtain ⟨z1, f1, hc, H⟩ := H
  refine rc_call (t := 5) (ls' := [some (vR 0)]) (st' := []) (bp134_2 call 1 (z 5) _ z f) hc ?_
  show RC call (mP 134) 5 [some (vR 0)] [] (LPr z1 f1) res
  refine rc_b (i' := 8) (ls' := [some (vR 0)]) (st' := [vI 307, vI (z1 5)]) (L' := LPr z1 f1) 3 (bp134_3 call z1 f1) ?_
  refine rc_if (it := 29) (ie := 9) (ls' := [some (vR 0)]) (st' := []) (bp134_4 call (z1 5) 307 _ _) (fun q1 => ?_) (fun q1 => ?_)
  · have H := H.1 (cI1t q1)
    refine rc_b (i' := 32) (ls' := [some (vR 0)]) (st' := [vI 321, vI (z1 5)]) (L' := LPr z1 f1) 3 (bp134_5 call z1 f1) ?_
    refine rc_if (it := 58) (ie := 33) (ls' := [some (vR 0)]) (st' := []) (bp134_6 call (z1 5) 321 _ _) (fun q2 => ?_) (fun q2 => ?_)
    · have H := H.1 (cI1t q2)
      refine rc_b (i' := 61) (ls' := [some (vR 0)]) (st' := [vI 303, vI (z1 5)]) (L' := LPr z1 f1) 3 (bp134_7 call z1 f1) ?_
      refine rc_if (it := 83) (ie := 62) (ls' := [some (vR 0)]) (st' := []) (bp134_8 call (z1 5) 303 _ _) (fun q3 => ?_) (fun q3 => ?_)
      · have H := H.1 (cI1t q3)
        refine rc_b (i' := 85) (ls' := [some (vR 0)]) (st' := [vI 1, vR 0]) (L' := LPr z1 f1) 2 (bp134_9 call _) ?_
        refine rc_call (t := 86) (ls' := [some (vR 0)]) (st' := []) (bp134_10 call 1 _ z1 f1) (hw 1 z1 f1) ?_
        show RC call (mP 134) 86 [some (vR 0)] [vI 0] (LPr (uZ (uZ z1 7 1) 8 (z1 3)) f1) res
        subst H
        exact rc_ret (bp134_11 call _ _)
      · have H := H.2 (cI1f q3)
        refine rc_b (i' := 63) (ls' := [some (vR 0)]) (st' := [vR 0]) (L' := LPr z1 f1) 1 (bp134_12 call _) ?_
        obtain ⟨z2, f2, hc, H⟩ := H
        refine rc_call (t := 64) (ls' := [some (vR 0)]) (st' := []) (bp134_13 call _ z1 f1) hc ?_
        show RC call (mP 134) 64 [some (vR 0)] [] (LPr z2 f2) res
        refine rc_b (i' := 67) (ls' := [some (vR 0)]) (st' := [vI 0, vI 2, vR 0]) (L' := LPr z2 f2) 3 (bp134_14 call _) ?_
        obtain ⟨z3, f3, hc, H⟩ := H
        refine rc_call (t := 68) (ls' := [some (vR 0)]) (st' := []) (bp134_15 call 2 0 _ z2 f2) hc ?_
        show RC call (mP 134) 68 [some (vR 0)] [] (LPr z3 f3) res
        refine rc_b (i' := 74) (ls' := [some (vR 0)]) (st' := [vI ((z3 9) - 1), vI 3, vR 0]) (L' := LPr z3 f3) 6 (bp134_16 call z3 f3) ?_
        obtain ⟨r4, z4, f4, hc, H⟩ := H
        refine rc_call (t := 75) (ls' := [some (vR 0)]) (st' := []) (bp134_17 call 3 ((z3 9) - 1) _ z3 f3) hc ?_
        show RC call (mP 134) 75 [some (vR 0)] [vI r4] (LPr z4 f4) res
        refine rc_if (it := 81) (ie := 76) (ls' := [some (vR 0)]) (st' := []) (bp134_18 call r4 _ _) (fun q4 => ?_) (fun q4 => ?_)
        · have H := H.1 (cI0t q4)
          refine rc_b (i' := 82) (ls' := [some (vR 0)]) (st' := [vI 0]) (L' := LPr z4 f4) 1 (bp134_19 call _) ?_
          subst H
          exact rc_ret (bp134_20 call _ _)
        · have H := H.2 (cI0f q4)
          refine rc_b (i' := 77) (ls' := [some (vR 0)]) (st' := [vR 0]) (L' := LPr z4 f4) 1 (bp134_21 call _) ?_
          obtain ⟨r5, z5, f5, hc, H⟩ := H
          refine rc_call (t := 78) (ls' := [some (vR 0)]) (st' := []) (bp134_22 call _ z4 f4) hc ?_
          show RC call (mP 134) 78 [some (vR 0)] [vI r5] (LPr z5 f5) res
          refine rc_if (it := 81) (ie := 79) (ls' := [some (vR 0)]) (st' := []) (bp134_23 call r5 _ _) (fun q5 => ?_) (fun q5 => ?_)
          · have H := H.1 (cI0t q5)
            refine rc_b (i' := 82) (ls' := [some (vR 0)]) (st' := [vI 0]) (L' := LPr z5 f5) 1 (bp134_19 call _) ?_
            subst H
            exact rc_ret (bp134_20 call _ _)
          · have H := H.2 (cI0f q5)
            refine rc_b (i' := 82) (ls' := [some (vR 0)]) (st' := [vI 1]) (L' := LPr z5 f5) 2 (bp134_24 call _) ?_
            subst H
            exact rc_ret (bp134_25 call _ _)
    · have H := H.2 (cI1f q2)
      refine rc_b (i' := 34) (ls' := [some (vR 0)]) (st' := [vR 0]) (L' := LPr z1 f1) 1 (bp134_26 call _) ?_
      obtain ⟨z6, f6, hc, H⟩ := H
      refine rc_call (t := 35) (ls' := [some (vR 0)]) (st' := []) (bp134_27 call _ z1 f1) hc ?_
      show RC call (mP 134) 35 [some (vR 0)] [] (LPr z6 f6) res
      refine rc_b (i' := 37) (ls' := [some (vR 0)]) (st' := [vI 318, vR 0]) (L' := LPr z6 f6) 2 (bp134_28 call _) ?_
      obtain ⟨r7, z7, f7, hc, H⟩ := H
      refine rc_call (t := 38) (ls' := [some (vR 0)]) (st' := []) (bp134_29 call 318 _ z6 f6) hc ?_
      show RC call (mP 134) 38 [some (vR 0)] [vI r7] (LPr z7 f7) res
      refine rc_if (it := 56) (ie := 39) (ls' := [some (vR 0)]) (st' := []) (bp134_30 call r7 _ _) (fun q6 => ?_) (fun q6 => ?_)
      · have H := H.1 (cI0t q6)
        refine rc_b (i' := 57) (ls' := [some (vR 0)]) (st' := [vI 0]) (L' := LPr z7 f7) 1 (bp134_31 call _) ?_
        subst H
        exact rc_ret (bp134_32 call _ _)
      · have H := H.2 (cI0f q6)
        refine rc_b (i' := 42) (ls' := [some (vR 0)]) (st' := [vI 11, vI 2, vR 0]) (L' := LPr z7 f7) 3 (bp134_33 call _) ?_
        obtain ⟨r8, z8, f8, hc, H⟩ := H
        refine rc_call (t := 43) (ls' := [some (vR 0)]) (st' := []) (bp134_34 call 2 11 _ z7 f7) hc ?_
        show RC call (mP 134) 43 [some (vR 0)] [vI r8] (LPr z8 f8) res
        refine rc_if (it := 56) (ie := 44) (ls' := [some (vR 0)]) (st' := []) (bp134_35 call r8 _ _) (fun q7 => ?_) (fun q7 => ?_)
        · have H := H.1 (cI0t q7)
          refine rc_b (i' := 57) (ls' := [some (vR 0)]) (st' := [vI 0]) (L' := LPr z8 f8) 1 (bp134_31 call _) ?_
          subst H
          exact rc_ret (bp134_32 call _ _)
        · have H := H.2 (cI0f q7)
          refine rc_b (i' := 47) (ls' := [some (vR 0)]) (st' := [vI 11, vI 3, vR 0]) (L' := LPr z8 f8) 3 (bp134_36 call _) ?_
          obtain ⟨r9, z9, f9, hc, H⟩ := H
          refine rc_call (t := 48) (ls' := [some (vR 0)]) (st' := []) (bp134_37 call 3 11 _ z8 f8) hc ?_
          show RC call (mP 134) 48 [some (vR 0)] [vI r9] (LPr z9 f9) res
          refine rc_if (it := 56) (ie := 49) (ls' := [some (vR 0)]) (st' := []) (bp134_38 call r9 _ _) (fun q8 => ?_) (fun q8 => ?_)
          · have H := H.1 (cI0t q8)
            refine rc_b (i' := 57) (ls' := [some (vR 0)]) (st' := [vI 0]) (L' := LPr z9 f9) 1 (bp134_31 call _) ?_
            subst H
            exact rc_ret (bp134_32 call _ _)
          · have H := H.2 (cI0f q8)
            refine rc_b (i' := 52) (ls' := [some (vR 0)]) (st' := [vI 11, vI 4, vR 0]) (L' := LPr z9 f9) 3 (bp134_39 call _) ?_
            obtain ⟨r10, z10, f10, hc, H⟩ := H
            refine rc_call (t := 53) (ls' := [some (vR 0)]) (st' := []) (bp134_40 call 4 11 _ z9 f9) hc ?_
            show RC call (mP 134) 53 [some (vR 0)] [vI r10] (LPr z10 f10) res
            refine rc_if (it := 56) (ie := 54) (ls' := [some (vR 0)]) (st' := []) (bp134_41 call r10 _ _) (fun q9 => ?_) (fun q9 => ?_)
            · have H := H.1 (cI0t q9)
              refine rc_b (i' := 57) (ls' := [some (vR 0)]) (st' := [vI 0]) (L' := LPr z10 f10) 1 (bp134_31 call _) ?_
              subst H
              exact rc_ret (bp134_32 call _ _)
            · have H := H.2 (cI0f q9)
              refine rc_b (i' := 57) (ls' := [some (vR 0)]) (st' := [vI 1]) (L' := LPr z10 f10) 2 (bp134_42 call _) ?_
              subst H
              exact rc_ret (bp134_43 call _ _)
  · have H := H.2 (cI1f q1)
    refine rc_b (i' := 10) (ls' := [some (vR 0)]) (st' := [vR 0]) (L' := LPr z1 f1) 1 (bp134_44 call _) ?_
    obtain ⟨z11, f11, hc, H⟩ := H
    refine rc_call (t := 11) (ls' := [some (vR 0)]) (st' := []) (bp134_45 call _ z1 f1) hc ?_
    show RC call (mP 134) 11 [some (vR 0)] [] (LPr z11 f11) res
    refine rc_b (i' := 14) (ls' := [some (vR 0)]) (st' := [vI 9, vI 3, vR 0]) (L' := LPr z11 f11) 3 (bp134_46 call _) ?_
    obtain ⟨r12, z12, f12, hc, H⟩ := H
    refine rc_call (t := 15) (ls' := [some (vR 0)]) (st' := []) (bp134_47 call 3 9 _ z11 f11) hc ?_
    show RC call (mP 134) 15 [some (vR 0)] [vI r12] (LPr z12 f12) res
    refine rc_if (it := 27) (ie := 16) (ls' := [some (vR 0)]) (st' := []) (bp134_48 call r12 _ _) (fun q10 => ?_) (fun q10 => ?_)
    · have H := H.1 (cI0t q10)
      refine rc_b (i' := 28) (ls' := [some (vR 0)]) (st' := [vI 0]) (L' := LPr z12 f12) 1 (bp134_49 call _) ?_
      subst H
      exact rc_ret (bp134_50 call _ _)
    · have H := H.2 (cI0f q10)
      refine rc_b (i' := 18) (ls' := [some (vR 0)]) (st' := [vI 318, vR 0]) (L' := LPr z12 f12) 2 (bp134_51 call _) ?_
      obtain ⟨r13, z13, f13, hc, H⟩ := H
      refine rc_call (t := 19) (ls' := [some (vR 0)]) (st' := []) (bp134_52 call 318 _ z12 f12) hc ?_
      show RC call (mP 134) 19 [some (vR 0)] [vI r13] (LPr z13 f13) res
      refine rc_if (it := 27) (ie := 20) (ls' := [some (vR 0)]) (st' := []) (bp134_53 call r13 _ _) (fun q11 => ?_) (fun q11 => ?_)
      · have H := H.1 (cI0t q11)
        refine rc_b (i' := 28) (ls' := [some (vR 0)]) (st' := [vI 0]) (L' := LPr z13 f13) 1 (bp134_49 call _) ?_
        subst H
        exact rc_ret (bp134_50 call _ _)
      · have H := H.2 (cI0f q11)
        refine rc_b (i' := 23) (ls' := [some (vR 0)]) (st' := [vI 11, vI 2, vR 0]) (L' := LPr z13 f13) 3 (bp134_54 call _) ?_
        obtain ⟨r14, z14, f14, hc, H⟩ := H
        refine rc_call (t := 24) (ls' := [some (vR 0)]) (st' := []) (bp134_55 call 2 11 _ z13 f13) hc ?_
        show RC call (mP 134) 24 [some (vR 0)] [vI r14] (LPr z14 f14) res
        refine rc_if (it := 27) (ie := 25) (ls' := [some (vR 0)]) (st' := []) (bp134_56 call r14 _ _) (fun q12 => ?_) (fun q12 => ?_)
        · have H := H.1 (cI0t q12)
          refine rc_b (i' := 28) (ls' := [some (vR 0)]) (st' := [vI 0]) (L' := LPr z14 f14) 1 (bp134_49 call _) ?_
          subst H
          exact rc_ret (bp134_50 call _ _)
        · have H := H.2 (cI0f q12)
          refine rc_b (i' := 28) (ls' := [some (vR 0)]) (st' := [vI 1]) (L' := LPr z14 f14) 2 (bp134_57 call _) ?_
          subst H
          exact rc_ret (bp134_58 call _ _)
set_option maxRecDepth 100000 in
theorem bp127_1 (call : QC FA) (x1 : Int32) (o2 : Option PV) (L : QH FA) (F : Nat) : rnG call 127 (F + 2) 0 [some (vR 0), some (vI x1), o2] [] L = rnG call 127 F 2 [some (vR 0), some (vI x1), o2] [vI 2, vI x1] L := rfl
set_option maxRecDepth 100000 in
theorem bp127_2 (call : QC FA) (x y : Int32) (ls : List (Option PV)) (L : QH FA) (F : Nat) : rnG call 127 (F + 1) 2 ls [vI y, vI x] L = bif pcmp 1 x y then rnG call 127 F 15 ls [] L else rnG call 127 F 3 ls [] L := rfl
set_option maxRecDepth 100000 in
theorem bp127_3 (call : QC FA) (x1 : Int32) (o2 : Option PV) (z : Nat → Int32) (f : Nat → FA) (F : Nat) : rnG call 127 (F + 9) 15 [some (vR 0), some (vI x1), o2] [] (LPr z f) = rnG call 127 F 24 [some (vR 0), some (vI x1), some (vI (z 6))] [vI ((z 9) - 1), vI 0, vR 0] (LPr z f) := rfl
set_option maxRecDepth 100000 in
theorem bp127_4 (call : QC FA) (a0 : Int32) (a1 : Int32) (ls : List (Option PV)) (z : Nat → Int32) (f : Nat → FA) (F : Nat) : rnG call 127 (F + 1) 24 ls [vI a1, vI a0, vR 0] (LPr z f) = cbd (call 119 [vR 0, vI a0, vI a1] (LPr z f)) (fun r L' => rnG call 127 F 25 ls (r.toList ++ []) L') := pcY (ih := rnG call 127 F) (call := call) (a := 119) (b := 2) (v := 5) (t := 25) (x := 0) (ls := ls) (As := [vI a0, vI a1]) (st' := []) (L := LPr z f) rfl rfl rfl
set_option maxRecDepth 100000 in
theorem bp127_5 (call : QC FA) (x : Int32) (ls : List (Option PV)) (L : QH FA) (F : Nat) : rnG call 127 (F + 1) 25 ls [vI x] L = bif pcmp 1 x 0 then rnG call 127 F 28 ls [] L else rnG call 127 F 26 ls [] L := rfl
set_option maxRecDepth 100000 in
theorem bp127_6 (call : QC FA) (x1 : Int32) (x2 : Int32) (L : QH FA) (F : Nat) : rnG call 127 (F + 2) 28 [some (vR 0), some (vI x1), some (vI x2)] [] L = rnG call 127 F 30 [some (vR 0), some (vI x1), some (vI x2)] [vI 1, vI x1] L := rfl
set_option maxRecDepth 100000 in
theorem bp127_7 (call : QC FA) (x y : Int32) (ls : List (Option PV)) (L : QH FA) (F : Nat) : rnG call 127 (F + 1) 30 ls [vI y, vI x] L = bif pcmp 1 x y then rnG call 127 F 53 ls [] L else rnG call 127 F 31 ls [] L := rfl
set_option maxRecDepth 100000 in
theorem bp127_8 (call : QC FA) (x1 : Int32) (x2 : Int32) (L : QH FA) (F : Nat) : rnG call 127 (F + 2) 53 [some (vR 0), some (vI x1), some (vI x2)] [] L = rnG call 127 F 55 [some (vR 0), some (vI x1), some (vI x2)] [vI 325, vR 0] L := rfl
set_option maxRecDepth 100000 in
theorem bp127_9 (call : QC FA) (a0 : Int32) (ls : List (Option PV)) (z : Nat → Int32) (f : Nat → FA) (F : Nat) : rnG call 127 (F + 1) 55 ls [vI a0, vR 0] (LPr z f) = cbd (call 133 [vR 0, vI a0] (LPr z f)) (fun r L' => rnG call 127 F 56 ls (r.toList ++ []) L') := pcY (ih := rnG call 127 F) (call := call) (a := 133) (b := 1) (v := 5) (t := 56) (x := 0) (ls := ls) (As := [vI a0]) (st' := []) (L := LPr z f) rfl rfl rfl
set_option maxRecDepth 100000 in
theorem bp127_10 (call : QC FA) (x : Int32) (ls : List (Option PV)) (L : QH FA) (F : Nat) : rnG call 127 (F + 1) 56 ls [vI x] L = bif pcmp 1 x 0 then rnG call 127 F 59 ls [] L else rnG call 127 F 57 ls [] L := rfl
set_option maxRecDepth 100000 in
theorem bp127_11 (call : QC FA) (x1 : Int32) (x2 : Int32) (z : Nat → Int32) (f : Nat → FA) (F : Nat) : rnG call 127 (F + 3) 59 [some (vR 0), some (vI x1), some (vI x2)] [] (LPr z f) = rnG call 127 F 62 [some (vR 0), some (vI x1), some (vI x2)] [vI 1, vI (z 5)] (LPr z f) := rfl
set_option maxRecDepth 100000 in
theorem bp127_12 (call : QC FA) (x y : Int32) (ls : List (Option PV)) (L : QH FA) (F : Nat) : rnG call 127 (F + 1) 62 ls [vI y, vI x] L = bif pcmp 1 x y then rnG call 127 F 71 ls [] L else rnG call 127 F 63 ls [] L := rfl
set_option maxRecDepth 100000 in
theorem bp127_13 (call : QC FA) (x1 : Int32) (x2 : Int32) (z : Nat → Int32) (f : Nat → FA) (F : Nat) : rnG call 127 (F + 6) 71 [some (vR 0), some (vI x1), some (vI x2)] [] (LPr z f) = rnG call 127 F 77 [some (vR 0), some (vI x1), some (vI x2)] [vI ((z 9) - 1), vI 1, vR 0] (LPr z f) := rfl
set_option maxRecDepth 100000 in
theorem bp127_14 (call : QC FA) (a0 : Int32) (a1 : Int32) (ls : List (Option PV)) (z : Nat → Int32) (f : Nat → FA) (F : Nat) : rnG call 127 (F + 1) 77 ls [vI a1, vI a0, vR 0] (LPr z f) = cbd (call 119 [vR 0, vI a0, vI a1] (LPr z f)) (fun r L' => rnG call 127 F 78 ls (r.toList ++ []) L') := pcY (ih := rnG call 127 F) (call := call) (a := 119) (b := 2) (v := 5) (t := 78) (x := 0) (ls := ls) (As := [vI a0, vI a1]) (st' := []) (L := LPr z f) rfl rfl rfl
set_option maxRecDepth 100000 in
theorem bp127_15 (call : QC FA) (x : Int32) (ls : List (Option PV)) (L : QH FA) (F : Nat) : rnG call 127 (F + 1) 78 ls [vI x] L = bif (pcmp 0 x 0 || pcmp 0 x 1) then some (some (vI x), L) else none := rfl
set_option maxRecDepth 100000 in
theorem bp127_16 (call : QC FA) (x1 : Int32) (x2 : Int32) (z : Nat → Int32) (f : Nat → FA) (F : Nat) : rnG call 127 (F + 3) 63 [some (vR 0), some (vI x1), some (vI x2)] [] (LPr z f) = rnG call 127 F 66 [some (vR 0), some (vI x1), some (vI x2)] [vI x2, vI (z 6)] (LPr z f) := rfl
set_option maxRecDepth 100000 in
theorem bp127_17 (call : QC FA) (x y : Int32) (ls : List (Option PV)) (L : QH FA) (F : Nat) : rnG call 127 (F + 1) 66 ls [vI y, vI x] L = bif pcmp 1 x y then rnG call 127 F 71 ls [] L else rnG call 127 F 67 ls [] L := rfl
set_option maxRecDepth 100000 in
theorem bp127_18 (call : QC FA) (x1 : Int32) (x2 : Int32) (L : QH FA) (F : Nat) : rnG call 127 (F + 2) 67 [some (vR 0), some (vI x1), some (vI x2)] [] L = rnG call 127 F 69 [some (vR 0), some (vI x1), some (vI x2)] [vI 2, vR 0] L := rfl
set_option maxRecDepth 100000 in
theorem bp127_19 (call : QC FA) (a0 : Int32) (ls : List (Option PV)) (z : Nat → Int32) (f : Nat → FA) (F : Nat) : rnG call 127 (F + 1) 69 ls [vI a0, vR 0] (LPr z f) = cbd (call 138 [vR 0, vI a0] (LPr z f)) (fun r L' => rnG call 127 F 70 ls (r.toList ++ []) L') := pcY (ih := rnG call 127 F) (call := call) (a := 138) (b := 1) (v := 5) (t := 70) (x := 0) (ls := ls) (As := [vI a0]) (st' := []) (L := LPr z f) rfl rfl rfl
set_option maxRecDepth 100000 in
theorem bp127_20 (call : QC FA) (ls : List (Option PV)) (L : QH FA) (F : Nat) : rnG call 127 (F + 1) 70 ls [vI 0] L = some (some (vI 0), L) := rfl
set_option maxRecDepth 100000 in
theorem bp127_21 (call : QC FA) (x1 : Int32) (x2 : Int32) (L : QH FA) (F : Nat) : rnG call 127 (F + 1) 57 [some (vR 0), some (vI x1), some (vI x2)] [] L = rnG call 127 F 58 [some (vR 0), some (vI x1), some (vI x2)] [vI 0] L := rfl
set_option maxRecDepth 100000 in
theorem bp127_22 (call : QC FA) (ls : List (Option PV)) (L : QH FA) (F : Nat) : rnG call 127 (F + 1) 58 ls [vI 0] L = some (some (vI 0), L) := rfl
set_option maxRecDepth 100000 in
theorem bp127_23 (call : QC FA) (x1 : Int32) (x2 : Int32) (L : QH FA) (F : Nat) : rnG call 127 (F + 2) 31 [some (vR 0), some (vI x1), some (vI x2)] [] L = rnG call 127 F 33 [some (vR 0), some (vI x1), some (vI x2)] [vI 318, vR 0] L := rfl
set_option maxRecDepth 100000 in
theorem bp127_24 (call : QC FA) (a0 : Int32) (ls : List (Option PV)) (z : Nat → Int32) (f : Nat → FA) (F : Nat) : rnG call 127 (F + 1) 33 ls [vI a0, vR 0] (LPr z f) = cbd (call 133 [vR 0, vI a0] (LPr z f)) (fun r L' => rnG call 127 F 34 ls (r.toList ++ []) L') := pcY (ih := rnG call 127 F) (call := call) (a := 133) (b := 1) (v := 5) (t := 34) (x := 0) (ls := ls) (As := [vI a0]) (st' := []) (L := LPr z f) rfl rfl rfl
set_option maxRecDepth 100000 in
theorem bp127_25 (call : QC FA) (x : Int32) (ls : List (Option PV)) (L : QH FA) (F : Nat) : rnG call 127 (F + 1) 34 ls [vI x] L = bif pcmp 0 x 0 then rnG call 127 F 51 ls [] L else rnG call 127 F 35 ls [] L := rfl
set_option maxRecDepth 100000 in
theorem bp127_26 (call : QC FA) (x1 : Int32) (x2 : Int32) (L : QH FA) (F : Nat) : rnG call 127 (F + 1) 51 [some (vR 0), some (vI x1), some (vI x2)] [] L = rnG call 127 F 52 [some (vR 0), some (vI x1), some (vI x2)] [vI 0] L := rfl
set_option maxRecDepth 100000 in
theorem bp127_27 (call : QC FA) (ls : List (Option PV)) (L : QH FA) (F : Nat) : rnG call 127 (F + 1) 52 ls [vI 0] L = some (some (vI 0), L) := rfl
set_option maxRecDepth 100000 in
theorem bp127_28 (call : QC FA) (x1 : Int32) (x2 : Int32) (L : QH FA) (F : Nat) : rnG call 127 (F + 3) 35 [some (vR 0), some (vI x1), some (vI x2)] [] L = rnG call 127 F 38 [some (vR 0), some (vI x1), some (vI x2)] [vI 11, vI 1, vR 0] L := rfl
set_option maxRecDepth 100000 in
theorem bp127_29 (call : QC FA) (a0 : Int32) (a1 : Int32) (ls : List (Option PV)) (z : Nat → Int32) (f : Nat → FA) (F : Nat) : rnG call 127 (F + 1) 38 ls [vI a1, vI a0, vR 0] (LPr z f) = cbd (call 119 [vR 0, vI a0, vI a1] (LPr z f)) (fun r L' => rnG call 127 F 39 ls (r.toList ++ []) L') := pcY (ih := rnG call 127 F) (call := call) (a := 119) (b := 2) (v := 5) (t := 39) (x := 0) (ls := ls) (As := [vI a0, vI a1]) (st' := []) (L := LPr z f) rfl rfl rfl
set_option maxRecDepth 100000 in
theorem bp127_30 (call : QC FA) (x : Int32) (ls : List (Option PV)) (L : QH FA) (F : Nat) : rnG call 127 (F + 1) 39 ls [vI x] L = bif pcmp 0 x 0 then rnG call 127 F 51 ls [] L else rnG call 127 F 40 ls [] L := rfl
set_option maxRecDepth 100000 in
theorem bp127_31 (call : QC FA) (x1 : Int32) (x2 : Int32) (L : QH FA) (F : Nat) : rnG call 127 (F + 2) 40 [some (vR 0), some (vI x1), some (vI x2)] [] L = rnG call 127 F 42 [some (vR 0), some (vI x1), some (vI x2)] [vI 319, vR 0] L := rfl
set_option maxRecDepth 100000 in
theorem bp127_32 (call : QC FA) (a0 : Int32) (ls : List (Option PV)) (z : Nat → Int32) (f : Nat → FA) (F : Nat) : rnG call 127 (F + 1) 42 ls [vI a0, vR 0] (LPr z f) = cbd (call 133 [vR 0, vI a0] (LPr z f)) (fun r L' => rnG call 127 F 43 ls (r.toList ++ []) L') := pcY (ih := rnG call 127 F) (call := call) (a := 133) (b := 1) (v := 5) (t := 43) (x := 0) (ls := ls) (As := [vI a0]) (st' := []) (L := LPr z f) rfl rfl rfl
set_option maxRecDepth 100000 in
theorem bp127_33 (call : QC FA) (x : Int32) (ls : List (Option PV)) (L : QH FA) (F : Nat) : rnG call 127 (F + 1) 43 ls [vI x] L = bif pcmp 0 x 0 then rnG call 127 F 51 ls [] L else rnG call 127 F 44 ls [] L := rfl
set_option maxRecDepth 100000 in
theorem bp127_34 (call : QC FA) (x1 : Int32) (x2 : Int32) (L : QH FA) (F : Nat) : rnG call 127 (F + 3) 44 [some (vR 0), some (vI x1), some (vI x2)] [] L = rnG call 127 F 47 [some (vR 0), some (vI x1), some (vI x2)] [vI 11, vI 2, vR 0] L := rfl
set_option maxRecDepth 100000 in
theorem bp127_35 (call : QC FA) (a0 : Int32) (a1 : Int32) (ls : List (Option PV)) (z : Nat → Int32) (f : Nat → FA) (F : Nat) : rnG call 127 (F + 1) 47 ls [vI a1, vI a0, vR 0] (LPr z f) = cbd (call 119 [vR 0, vI a0, vI a1] (LPr z f)) (fun r L' => rnG call 127 F 48 ls (r.toList ++ []) L') := pcY (ih := rnG call 127 F) (call := call) (a := 119) (b := 2) (v := 5) (t := 48) (x := 0) (ls := ls) (As := [vI a0, vI a1]) (st' := []) (L := LPr z f) rfl rfl rfl
set_option maxRecDepth 100000 in
theorem bp127_36 (call : QC FA) (x : Int32) (ls : List (Option PV)) (L : QH FA) (F : Nat) : rnG call 127 (F + 1) 48 ls [vI x] L = bif pcmp 0 x 0 then rnG call 127 F 51 ls [] L else rnG call 127 F 49 ls [] L := rfl
set_option maxRecDepth 100000 in
theorem bp127_37 (call : QC FA) (x1 : Int32) (x2 : Int32) (L : QH FA) (F : Nat) : rnG call 127 (F + 2) 49 [some (vR 0), some (vI x1), some (vI x2)] [] L = rnG call 127 F 52 [some (vR 0), some (vI x1), some (vI x2)] [vI 1] L := rfl
set_option maxRecDepth 100000 in
theorem bp127_38 (call : QC FA) (ls : List (Option PV)) (L : QH FA) (F : Nat) : rnG call 127 (F + 1) 52 ls [vI 1] L = some (some (vI 1), L) := rfl
set_option maxRecDepth 100000 in
theorem bp127_39 (call : QC FA) (x1 : Int32) (x2 : Int32) (L : QH FA) (F : Nat) : rnG call 127 (F + 1) 26 [some (vR 0), some (vI x1), some (vI x2)] [] L = rnG call 127 F 27 [some (vR 0), some (vI x1), some (vI x2)] [vI 0] L := rfl
set_option maxRecDepth 100000 in
theorem bp127_40 (call : QC FA) (ls : List (Option PV)) (L : QH FA) (F : Nat) : rnG call 127 (F + 1) 27 ls [vI 0] L = some (some (vI 0), L) := rfl
set_option maxRecDepth 100000 in
theorem bp127_41 (call : QC FA) (x1 : Int32) (o2 : Option PV) (L : QH FA) (F : Nat) : rnG call 127 (F + 3) 3 [some (vR 0), some (vI x1), o2] [] L = rnG call 127 F 6 [some (vR 0), some (vI x1), o2] [vI 999, vI 0, vR 0] L := rfl
set_option maxRecDepth 100000 in
theorem bp127_42 (call : QC FA) (a0 : Int32) (a1 : Int32) (ls : List (Option PV)) (z : Nat → Int32) (f : Nat → FA) (F : Nat) : rnG call 127 (F + 1) 6 ls [vI a1, vI a0, vR 0] (LPr z f) = cbd (call 119 [vR 0, vI a0, vI a1] (LPr z f)) (fun r L' => rnG call 127 F 7 ls (r.toList ++ []) L') := pcY (ih := rnG call 127 F) (call := call) (a := 119) (b := 2) (v := 5) (t := 7) (x := 0) (ls := ls) (As := [vI a0, vI a1]) (st' := []) (L := LPr z f) rfl rfl rfl
set_option maxRecDepth 100000 in
theorem bp127_43 (call : QC FA) (x : Int32) (ls : List (Option PV)) (L : QH FA) (F : Nat) : rnG call 127 (F + 1) 7 ls [vI x] L = bif pcmp 0 x 0 then rnG call 127 F 13 ls [] L else rnG call 127 F 8 ls [] L := rfl
set_option maxRecDepth 100000 in
theorem bp127_44 (call : QC FA) (x1 : Int32) (o2 : Option PV) (L : QH FA) (F : Nat) : rnG call 127 (F + 1) 13 [some (vR 0), some (vI x1), o2] [] L = rnG call 127 F 14 [some (vR 0), some (vI x1), o2] [vI 0] L := rfl
set_option maxRecDepth 100000 in
theorem bp127_45 (call : QC FA) (ls : List (Option PV)) (L : QH FA) (F : Nat) : rnG call 127 (F + 1) 14 ls [vI 0] L = some (some (vI 0), L) := rfl
set_option maxRecDepth 100000 in
theorem bp127_46 (call : QC FA) (x1 : Int32) (o2 : Option PV) (L : QH FA) (F : Nat) : rnG call 127 (F + 1) 8 [some (vR 0), some (vI x1), o2] [] L = rnG call 127 F 9 [some (vR 0), some (vI x1), o2] [vR 0] L := rfl
set_option maxRecDepth 100000 in
theorem bp127_47 (call : QC FA) (ls : List (Option PV)) (z : Nat → Int32) (f : Nat → FA) (F : Nat) : rnG call 127 (F + 1) 9 ls [vR 0] (LPr z f) = cbd (call 134 [vR 0] (LPr z f)) (fun r L' => rnG call 127 F 10 ls (r.toList ++ []) L') := pcY (ih := rnG call 127 F) (call := call) (a := 134) (b := 0) (v := 5) (t := 10) (x := 0) (ls := ls) (As := []) (st' := []) (L := LPr z f) rfl rfl rfl
set_option maxRecDepth 100000 in
theorem bp127_48 (call : QC FA) (x : Int32) (ls : List (Option PV)) (L : QH FA) (F : Nat) : rnG call 127 (F + 1) 10 ls [vI x] L = bif pcmp 0 x 0 then rnG call 127 F 13 ls [] L else rnG call 127 F 11 ls [] L := rfl
set_option maxRecDepth 100000 in
theorem bp127_49 (call : QC FA) (x1 : Int32) (o2 : Option PV) (L : QH FA) (F : Nat) : rnG call 127 (F + 2) 11 [some (vR 0), some (vI x1), o2] [] L = rnG call 127 F 14 [some (vR 0), some (vI x1), o2] [vI 1] L := rfl
set_option maxRecDepth 100000 in
theorem bp127_50 (call : QC FA) (ls : List (Option PV)) (L : QH FA) (F : Nat) : rnG call 127 (F + 1) 14 ls [vI 1] L = some (some (vI 1), L) := rfl
theorem vcp127_0 (call : QC FA) (hw : ∀ (a : Int32) (z : Nat → Int32) (f : Nat → FA), call 138 [vR 0, vI a] (LPr z f) = some (some (vI 0), LPr (uZ (uZ z 7 a) 8 (z 3)) f)) (x1 : Int32) (o2 : Option PV) (z : Nat → Int32) (f : Nat → FA) (res : Option PV × QH FA) (H : ((¬ x1 = 2 → (∃ (r1 : Int32) (z1 : Nat → Int32) (f1 : Nat → FA), call 119 [vR 0, vI 0, vI ((z 9) - 1)] (LPr z f) = some (some (vI r1), LPr z1 f1) ∧ ((¬ r1 = 0 → ((¬ x1 = 1 → (∃ (r2 : Int32) (z2 : Nat → Int32) (f2 : Nat → FA), call 133 [vR 0, vI 325] (LPr z1 f1) = some (some (vI r2), LPr z2 f2) ∧ ((¬ r2 = 0 → ((¬ z2 5 = 1 → (∃ (r3 : Int32) (z3 : Nat → Int32) (f3 : Nat → FA), call 119 [vR 0, vI 1, vI ((z2 9) - 1)] (LPr z2 f2) = some (some (vI r3), LPr z3 f3) ∧ ((r3 = 0 ∨ r3 = 1) ∧ res = (some (vI r3), LPr z3 f3)))) ∧ (z2 5 = 1 → ((¬ z2 6 = z 6 → (∃ (r4 : Int32) (z4 : Nat → Int32) (f4 : Nat → FA), call 119 [vR 0, vI 1, vI ((z2 9) - 1)] (LPr z2 f2) = some (some (vI r4), LPr z4 f4) ∧ ((r4 = 0 ∨ r4 = 1) ∧ res = (some (vI r4), LPr z4 f4)))) ∧ (z2 6 = z 6 → res = (some (vI 0), LPr (uZ (uZ z2 7 2) 8 (z2 3)) f2)))))) ∧ (r2 = 0 → res = (some (vI 0), LPr z2 f2))))) ∧ (x1 = 1 → (∃ (r5 : Int32) (z5 : Nat → Int32) (f5 : Nat → FA), call 133 [vR 0, vI 318] (LPr z1 f1) = some (some (vI r5), LPr z5 f5) ∧ ((r5 = 0 → res = (some (vI 0), LPr z5 f5)) ∧ (¬ r5 = 0 → (∃ (r6 : Int32) (z6 : Nat → Int32) (f6 : Nat → FA), call 119 [vR 0, vI 1, vI 11] (LPr z5 f5) = some (some (vI r6), LPr z6 f6) ∧ ((r6 = 0 → res = (some (vI 0), LPr z6 f6)) ∧ (¬ r6 = 0 → (∃ (r7 : Int32) (z7 : Nat → Int32) (f7 : Nat → FA), call 133 [vR 0, vI 319] (LPr z6 f6) = some (some (vI r7), LPr z7 f7) ∧ ((r7 = 0 → res = (some (vI 0), LPr z7 f7)) ∧ (¬ r7 = 0 → (∃ (r8 : Int32) (z8 : Nat → Int32) (f8 : Nat → FA), call 119 [vR 0, vI 2, vI 11] (LPr z7 f7) = some (some (vI r8), LPr z8 f8) ∧ ((r8 = 0 → res = (some (vI 0), LPr z8 f8)) ∧ (¬ r8 = 0 → res = (some (vI 1), LPr z8 f8)))))))))))))))) ∧ (r1 = 0 → res = (some (vI 0), LPr z1 f1))))) ∧ (x1 = 2 → (∃ (r9 : Int32) (z9 : Nat → Int32) (f9 : Nat → FA), call 119 [vR 0, vI 0, vI 999] (LPr z f) = some (some (vI r9), LPr z9 f9) ∧ ((r9 = 0 → res = (some (vI 0), LPr z9 f9)) ∧ (¬ r9 = 0 → (∃ (r10 : Int32) (z10 : Nat → Int32) (f10 : Nat → FA), call 134 [vR 0] (LPr z9 f9) = some (some (vI r10), LPr z10 f10) ∧ ((r10 = 0 → res = (some (vI 0), LPr z10 f10)) ∧ (¬ r10 = 0 → res = (some (vI 1), LPr z10 f10)))))))))) : RC call (mP 127) 0 [some (vR 0), some (vI x1), o2] [] (LPr z f) res := by
  refine rc_b (i' := 2) (ls' := [some (vR 0), some (vI x1), o2]) (st' := [vI 2, vI x1]) (L' := LPr z f) 2 (bp127_1 call x1 o2 _) ?_
  refine rc_if (it := 15) (ie := 3) (ls' := [some (vR 0), some (vI x1), o2]) (st' := []) (bp127_2 call x1 2 _ _) (fun q1 => ?_) (fun q1 => ?_)
  · have H := H.1 (cI1t q1)
    refine rc_b (i' := 24) (ls' := [some (vR 0), some (vI x1), some (vI (z 6))]) (st' := [vI ((z 9) - 1), vI 0, vR 0]) (L' := LPr z f) 9 (bp127_3 call x1 o2 z f) ?_
    obtain ⟨r1, z1, f1, hc, H⟩ := H
    refine rc_call (t := 25) (ls' := [some (vR 0), some (vI x1), some (vI (z 6))]) (st' := []) (bp127_4 call 0 ((z 9) - 1) _ z f) hc ?_
    show RC call (mP 127) 25 [some (vR 0), some (vI x1), some (vI (z 6))] [vI r1] (LPr z1 f1) res
    refine rc_if (it := 28) (ie := 26) (ls' := [some (vR 0), some (vI x1), some (vI (z 6))]) (st' := []) (bp127_5 call r1 _ _) (fun q2 => ?_) (fun q2 => ?_)
    · have H := H.1 (cI1t q2)
      refine rc_b (i' := 30) (ls' := [some (vR 0), some (vI x1), some (vI (z 6))]) (st' := [vI 1, vI x1]) (L' := LPr z1 f1) 2 (bp127_6 call x1 (z 6) _) ?_
      refine rc_if (it := 53) (ie := 31) (ls' := [some (vR 0), some (vI x1), some (vI (z 6))]) (st' := []) (bp127_7 call x1 1 _ _) (fun q3 => ?_) (fun q3 => ?_)
      · have H := H.1 (cI1t q3)
        refine rc_b (i' := 55) (ls' := [some (vR 0), some (vI x1), some (vI (z 6))]) (st' := [vI 325, vR 0]) (L' := LPr z1 f1) 2 (bp127_8 call x1 (z 6) _) ?_
        obtain ⟨r2, z2, f2, hc, H⟩ := H
        refine rc_call (t := 56) (ls' := [some (vR 0), some (vI x1), some (vI (z 6))]) (st' := []) (bp127_9 call 325 _ z1 f1) hc ?_
        show RC call (mP 127) 56 [some (vR 0), some (vI x1), some (vI (z 6))] [vI r2] (LPr z2 f2) res
        refine rc_if (it := 59) (ie := 57) (ls' := [some (vR 0), some (vI x1), some (vI (z 6))]) (st' := []) (bp127_10 call r2 _ _) (fun q4 => ?_) (fun q4 => ?_)
        · have H := H.1 (cI1t q4)
          refine rc_b (i' := 62) (ls' := [some (vR 0), some (vI x1), some (vI (z 6))]) (st' := [vI 1, vI (z2 5)]) (L' := LPr z2 f2) 3 (bp127_11 call x1 (z 6) z2 f2) ?_
          refine rc_if (it := 71) (ie := 63) (ls' := [some (vR 0), some (vI x1), some (vI (z 6))]) (st' := []) (bp127_12 call (z2 5) 1 _ _) (fun q5 => ?_) (fun q5 => ?_)
          · have H := H.1 (cI1t q5)
            refine rc_b (i' := 77) (ls' := [some (vR 0), some (vI x1), some (vI (z 6))]) (st' := [vI ((z2 9) - 1), vI 1, vR 0]) (L' := LPr z2 f2) 6 (bp127_13 call x1 (z 6) z2 f2) ?_
            obtain ⟨r3, z3, f3, hc, H⟩ := H
            refine rc_call (t := 78) (ls' := [some (vR 0), some (vI x1), some (vI (z 6))]) (st' := []) (bp127_14 call 1 ((z2 9) - 1) _ z2 f2) hc ?_
            show RC call (mP 127) 78 [some (vR 0), some (vI x1), some (vI (z 6))] [vI r3] (LPr z3 f3) res
            obtain ⟨g1, H⟩ := H
            subst H
            exact rc_ret (fun F => (bp127_15 call _ _ _ F).trans (by rw [zG g1]; rfl))
          · have H := H.2 (cI1f q5)
            refine rc_b (i' := 66) (ls' := [some (vR 0), some (vI x1), some (vI (z 6))]) (st' := [vI (z 6), vI (z2 6)]) (L' := LPr z2 f2) 3 (bp127_16 call x1 (z 6) z2 f2) ?_
            refine rc_if (it := 71) (ie := 67) (ls' := [some (vR 0), some (vI x1), some (vI (z 6))]) (st' := []) (bp127_17 call (z2 6) (z 6) _ _) (fun q6 => ?_) (fun q6 => ?_)
            · have H := H.1 (cI1t q6)
              refine rc_b (i' := 77) (ls' := [some (vR 0), some (vI x1), some (vI (z 6))]) (st' := [vI ((z2 9) - 1), vI 1, vR 0]) (L' := LPr z2 f2) 6 (bp127_13 call x1 (z 6) z2 f2) ?_
              obtain ⟨r4, z4, f4, hc, H⟩ := H
              refine rc_call (t := 78) (ls' := [some (vR 0), some (vI x1), some (vI (z 6))]) (st' := []) (bp127_14 call 1 ((z2 9) - 1) _ z2 f2) hc ?_
              show RC call (mP 127) 78 [some (vR 0), some (vI x1), some (vI (z 6))] [vI r4] (LPr z4 f4) res
              obtain ⟨g1, H⟩ := H
              subst H
              exact rc_ret (fun F => (bp127_15 call _ _ _ F).trans (by rw [zG g1]; rfl))
            · have H := H.2 (cI1f q6)
              refine rc_b (i' := 69) (ls' := [some (vR 0), some (vI x1), some (vI (z 6))]) (st' := [vI 2, vR 0]) (L' := LPr z2 f2) 2 (bp127_18 call x1 (z 6) _) ?_
              refine rc_call (t := 70) (ls' := [some (vR 0), some (vI x1), some (vI (z 6))]) (st' := []) (bp127_19 call 2 _ z2 f2) (hw 2 z2 f2) ?_
              show RC call (mP 127) 70 [some (vR 0), some (vI x1), some (vI (z 6))] [vI 0] (LPr (uZ (uZ z2 7 2) 8 (z2 3)) f2) res
              subst H
              exact rc_ret (bp127_20 call _ _)
        · have H := H.2 (cI1f q4)
          refine rc_b (i' := 58) (ls' := [some (vR 0), some (vI x1), some (vI (z 6))]) (st' := [vI 0]) (L' := LPr z2 f2) 1 (bp127_21 call x1 (z 6) _) ?_
          subst H
          exact rc_ret (bp127_22 call _ _)
      · have H := H.2 (cI1f q3)
        refine rc_b (i' := 33) (ls' := [some (vR 0), some (vI x1), some (vI (z 6))]) (st' := [vI 318, vR 0]) (L' := LPr z1 f1) 2 (bp127_23 call x1 (z 6) _) ?_
        obtain ⟨r5, z5, f5, hc, H⟩ := H
        refine rc_call (t := 34) (ls' := [some (vR 0), some (vI x1), some (vI (z 6))]) (st' := []) (bp127_24 call 318 _ z1 f1) hc ?_
        show RC call (mP 127) 34 [some (vR 0), some (vI x1), some (vI (z 6))] [vI r5] (LPr z5 f5) res
        refine rc_if (it := 51) (ie := 35) (ls' := [some (vR 0), some (vI x1), some (vI (z 6))]) (st' := []) (bp127_25 call r5 _ _) (fun q7 => ?_) (fun q7 => ?_)
        · have H := H.1 (cI0t q7)
          refine rc_b (i' := 52) (ls' := [some (vR 0), some (vI x1), some (vI (z 6))]) (st' := [vI 0]) (L' := LPr z5 f5) 1 (bp127_26 call x1 (z 6) _) ?_
          subst H
          exact rc_ret (bp127_27 call _ _)
        · have H := H.2 (cI0f q7)
          refine rc_b (i' := 38) (ls' := [some (vR 0), some (vI x1), some (vI (z 6))]) (st' := [vI 11, vI 1, vR 0]) (L' := LPr z5 f5) 3 (bp127_28 call x1 (z 6) _) ?_
          obtain ⟨r6, z6, f6, hc, H⟩ := H
          refine rc_call (t := 39) (ls' := [some (vR 0), some (vI x1), some (vI (z 6))]) (st' := []) (bp127_29 call 1 11 _ z5 f5) hc ?_
          show RC call (mP 127) 39 [some (vR 0), some (vI x1), some (vI (z 6))] [vI r6] (LPr z6 f6) res
          refine rc_if (it := 51) (ie := 40) (ls' := [some (vR 0), some (vI x1), some (vI (z 6))]) (st' := []) (bp127_30 call r6 _ _) (fun q8 => ?_) (fun q8 => ?_)
          · have H := H.1 (cI0t q8)
            refine rc_b (i' := 52) (ls' := [some (vR 0), some (vI x1), some (vI (z 6))]) (st' := [vI 0]) (L' := LPr z6 f6) 1 (bp127_26 call x1 (z 6) _) ?_
            subst H
            exact rc_ret (bp127_27 call _ _)
          · have H := H.2 (cI0f q8)
            refine rc_b (i' := 42) (ls' := [some (vR 0), some (vI x1), some (vI (z 6))]) (st' := [vI 319, vR 0]) (L' := LPr z6 f6) 2 (bp127_31 call x1 (z 6) _) ?_
            obtain ⟨r7, z7, f7, hc, H⟩ := H
            refine rc_call (t := 43) (ls' := [some (vR 0), some (vI x1), some (vI (z 6))]) (st' := []) (bp127_32 call 319 _ z6 f6) hc ?_
            show RC call (mP 127) 43 [some (vR 0), some (vI x1), some (vI (z 6))] [vI r7] (LPr z7 f7) res
            refine rc_if (it := 51) (ie := 44) (ls' := [some (vR 0), some (vI x1), some (vI (z 6))]) (st' := []) (bp127_33 call r7 _ _) (fun q9 => ?_) (fun q9 => ?_)
            · have H := H.1 (cI0t q9)
              refine rc_b (i' := 52) (ls' := [some (vR 0), some (vI x1), some (vI (z 6))]) (st' := [vI 0]) (L' := LPr z7 f7) 1 (bp127_26 call x1 (z 6) _) ?_
              subst H
              exact rc_ret (bp127_27 call _ _)
            · have H := H.2 (cI0f q9)
              refine rc_b (i' := 47) (ls' := [some (vR 0), some (vI x1), some (vI (z 6))]) (st' := [vI 11, vI 2, vR 0]) (L' := LPr z7 f7) 3 (bp127_34 call x1 (z 6) _) ?_
              obtain ⟨r8, z8, f8, hc, H⟩ := H
              refine rc_call (t := 48) (ls' := [some (vR 0), some (vI x1), some (vI (z 6))]) (st' := []) (bp127_35 call 2 11 _ z7 f7) hc ?_
              show RC call (mP 127) 48 [some (vR 0), some (vI x1), some (vI (z 6))] [vI r8] (LPr z8 f8) res
              refine rc_if (it := 51) (ie := 49) (ls' := [some (vR 0), some (vI x1), some (vI (z 6))]) (st' := []) (bp127_36 call r8 _ _) (fun q10 => ?_) (fun q10 => ?_)
              · have H := H.1 (cI0t q10)
                refine rc_b (i' := 52) (ls' := [some (vR 0), some (vI x1), some (vI (z 6))]) (st' := [vI 0]) (L' := LPr z8 f8) 1 (bp127_26 call x1 (z 6) _) ?_
                subst H
                exact rc_ret (bp127_27 call _ _)
              · have H := H.2 (cI0f q10)
                refine rc_b (i' := 52) (ls' := [some (vR 0), some (vI x1), some (vI (z 6))]) (st' := [vI 1]) (L' := LPr z8 f8) 2 (bp127_37 call x1 (z 6) _) ?_
                subst H
                exact rc_ret (bp127_38 call _ _)
    · have H := H.2 (cI1f q2)
      refine rc_b (i' := 27) (ls' := [some (vR 0), some (vI x1), some (vI (z 6))]) (st' := [vI 0]) (L' := LPr z1 f1) 1 (bp127_39 call x1 (z 6) _) ?_
      subst H
      exact rc_ret (bp127_40 call _ _)
  · have H := H.2 (cI1f q1)
    refine rc_b (i' := 6) (ls' := [some (vR 0), some (vI x1), o2]) (st' := [vI 999, vI 0, vR 0]) (L' := LPr z f) 3 (bp127_41 call x1 o2 _) ?_
    obtain ⟨r9, z9, f9, hc, H⟩ := H
    refine rc_call (t := 7) (ls' := [some (vR 0), some (vI x1), o2]) (st' := []) (bp127_42 call 0 999 _ z f) hc ?_
    show RC call (mP 127) 7 [some (vR 0), some (vI x1), o2] [vI r9] (LPr z9 f9) res
    refine rc_if (it := 13) (ie := 8) (ls' := [some (vR 0), some (vI x1), o2]) (st' := []) (bp127_43 call r9 _ _) (fun q11 => ?_) (fun q11 => ?_)
    · have H := H.1 (cI0t q11)
      refine rc_b (i' := 14) (ls' := [some (vR 0), some (vI x1), o2]) (st' := [vI 0]) (L' := LPr z9 f9) 1 (bp127_44 call x1 o2 _) ?_
      subst H
      exact rc_ret (bp127_45 call _ _)
    · have H := H.2 (cI0f q11)
      refine rc_b (i' := 9) (ls' := [some (vR 0), some (vI x1), o2]) (st' := [vR 0]) (L' := LPr z9 f9) 1 (bp127_46 call x1 o2 _) ?_
      obtain ⟨r10, z10, f10, hc, H⟩ := H
      refine rc_call (t := 10) (ls' := [some (vR 0), some (vI x1), o2]) (st' := []) (bp127_47 call _ z9 f9) hc ?_
      show RC call (mP 127) 10 [some (vR 0), some (vI x1), o2] [vI r10] (LPr z10 f10) res
      refine rc_if (it := 13) (ie := 11) (ls' := [some (vR 0), some (vI x1), o2]) (st' := []) (bp127_48 call r10 _ _) (fun q12 => ?_) (fun q12 => ?_)
      · have H := H.1 (cI0t q12)
        refine rc_b (i' := 14) (ls' := [some (vR 0), some (vI x1), o2]) (st' := [vI 0]) (L' := LPr z10 f10) 1 (bp127_44 call x1 o2 _) ?_
        subst H
        exact rc_ret (bp127_45 call _ _)
      · have H := H.2 (cI0f q12)
        refine rc_b (i' := 14) (ls' := [some (vR 0), some (vI x1), o2]) (st' := [vI 1]) (L' := LPr z10 f10) 2 (bp127_49 call x1 o2 _) ?_
        subst H
        exact rc_ret (bp127_50 call _ _)
/-- a number of the line that is read -/
def ptW (g : FA) (i w : Nat) (v : Int32) : FA := upd g (5 * i + w) v
theorem pput (d : Nat) {z : Nat → Int32} {f : Nat → FA} {i w : Nat} (v : Int32) (h11 : z 11 = nI i) (hi : i < 16) (hw : w < 5) : pcall (d + 1) 128 [vR 0, vI (nI w), vI v] (LPr z f) = some (none, LPr z (uA f 2 (ptW (f 2) i w v))) := by
  have i11 : I (z 11) = i := by rw [h11]; exact I_nI (by omega)
  have iw : I (nI w) = w := I_nI (by omega)
  have e : z 11 * 5 + nI w = nI (5 * i + w) := by rw [h11, show (5 : Int32) = nI 5 from rfl, mul_nI, nI_add, Nat.mul_comm]
  refine pcall_i (by decide) (mq128 (cu := [])).2.2 rfl (vcp128_0 (pcall d) (nI w) v z f _ ⟨fun q => by omega, fun _ => ⟨fun q => by omega, fun _ => ⟨fun q => by omega, fun _ => ⟨fun q => by omega, fun _ => ?_⟩⟩⟩⟩)
  rw [e, ix_nI (j := 5 * i + w) (by omega)]
  exact ⟨pin_nI (by omega) (by omega), rfl⟩
/-- what reading a line leaves alone -/
def PLZ (z : Nat → Int32) (f : Nat → FA) (z' : Nat → Int32) (f' : Nat → FA) : Prop := (∀ j, j ≠ 3 → j ≠ 4 → j ≠ 5 → j ≠ 6 → j ≠ 13 → z' j = z j) ∧ (∀ k, k ≠ 3 → k ≠ 2 → f' k = f k)
theorem PLZ.rf {z : Nat → Int32} {f : Nat → FA} : PLZ z f z f := ⟨fun _ _ _ _ _ _ => rfl, fun _ _ _ => rfl⟩
theorem PLZ.tr {z1 z2 z3 : Nat → Int32} {f1 f2 f3 : Nat → FA} (h1 : PLZ z1 f1 z2 f2) (h2 : PLZ z2 f2 z3 f3) : PLZ z1 f1 z3 f3 := ⟨fun j a b c e g => (h2.1 j a b c e g).trans (h1.1 j a b c e g), fun k a b => (h2.2 k a b).trans (h1.2 k a b)⟩
theorem PKZ.l {z z' : Nat → Int32} {f f' : Nat → FA} (h : PKZ z f z' f') : PLZ z f z' f' := ⟨h.1, fun k a _ => h.2 k a⟩
theorem PLZ.pt {z : Nat → Int32} {f : Nat → FA} {g : FA} : PLZ z f z (uA f 2 g) := ⟨fun _ _ _ _ _ _ => rfl, fun k _ b => uA_ne b⟩
theorem pcR_pt {t : FA} {n : Nat} {ts : List TT} {C : List TK} {z : Nat → Int32} {f : Nat → FA} {g : FA} (h : pcR t n ts C z f) : pcR t n ts C z (uA f 2 g) := by
  obtain ⟨⟨g1, g2, g3⟩, g4, g5, g6⟩ := h
  refine ⟨⟨?_, g2, g3⟩, g4, g5, ?_⟩
  · rw [uA_ne (by decide)]; exact g1
  · rw [uA_ne (by decide)]; exact g6
/-- the first word of a line: i lines lie before it -/
def pOp (k : Nat) (tk : Nat) : Prop := (k = 0 ∧ (tk = 300 ∨ tk = 301 ∨ tk = 302)) ∨ (k = 2 ∧ tk = 320) ∨ ((k = 1 ∨ k = 3) ∧ tk = 317)
theorem popens {t : FA} {n i k : Nat} {x : TT} {r : List TT} {C : List TK} {z : Nat → Int32} {f : Nat → FA} (d : Nat) (h : pcR t n (x :: r) C z f) (hk : k < 4) (h11 : z 11 = nI i) (hi : i < 17) : (¬ pOp k x.2.1 → pcall (d + 3) 126 [vR 0, vI (nI k)] (LPr z f) = some (some (vI 0), LPr (uZ (uZ z 7 1) 8 (nI x.1)) f)) ∧ (pOp k x.2.1 → i = 16 → pcall (d + 3) 126 [vR 0, vI (nI k)] (LPr z f) = some (some (vI 0), LPr (uZ (uZ z 7 3) 8 (nI x.1)) f)) ∧ (pOp k x.2.1 → i < 16 → ∃ z', pcall (d + 3) 126 [vR 0, vI (nI k)] (LPr z f) = some (some (vI 1), LPr z' (uA f 2 (ptW (f 2) i 0 (nI x.2.1)))) ∧ pcR t n r C z' (uA f 2 (ptW (f 2) i 0 (nI x.2.1))) ∧ PDZ z z') := by
  obtain ⟨a1, a2, a3, a4⟩ := pcR_hd2 h
  have w : ∀ (a : Int32) (z : Nat → Int32) (f : Nat → FA), pcall (d + 2) 138 [vR 0, vI a] (LPr z f) = some (some (vI 0), LPr (uZ (uZ z 7 a) 8 (z 3)) f) := pWrong (d + 1)
  have go : ∀ res, _ → pcall (d + 3) 126 [vR 0, vI (nI k)] (LPr z f) = some res := fun res H => pcall_i (by decide) (mq126 (cu := [])).2.2 rfl (vcp126_0 (pcall (d + 2)) w (nI k) none z f res H)
  have e300 := pcT_eq a2 a4 300 (by decide) (by decide)
  have e301 := pcT_eq a2 a4 301 (by decide) (by decide)
  have e302 := pcT_eq a2 a4 302 (by decide) (by decide)
  have e317 := pcT_eq a2 a4 317 (by decide) (by decide)
  have e320 := pcT_eq a2 a4 320 (by decide) (by decide)
  have k0 : nI k = 0 ↔ k = 0 := ⟨fun q => nI_inj (a := k) (b := 0) (by omega) (by omega) q, fun q => by rw [q]; rfl⟩
  have k2 : nI k = 2 ↔ k = 2 := ⟨fun q => nI_inj (a := k) (b := 2) (by omega) (by omega) q, fun q => by rw [q]; rfl⟩
  have i11 : I (z 11) = i := by rw [h11]; exact I_nI (by omega)
  have core : ∀ res, (¬ pOp k x.2.1 → res = (some (vI 0), LPr (uZ (uZ z 7 1) 8 (z 3)) f)) → (pOp k x.2.1 → ((I (z 11) < 16 → (∃ (z1 : Nat → Int32) (f1 : Nat → FA), pcall (d + 2) 128 [vR 0, vI 0, vI (z 5)] (LPr z f) = some (none, LPr z1 f1) ∧ (∃ (z2 : Nat → Int32) (f2 : Nat → FA), pcall (d + 2) 135 [vR 0] (LPr z1 f1) = some (none, LPr z2 f2) ∧ res = (some (vI 1), LPr z2 f2)))) ∧ (16 ≤ I (z 11) → res = (some (vI 0), LPr (uZ (uZ z 7 3) 8 (z 3)) f)))) → pcall (d + 3) 126 [vR 0, vI (nI k)] (LPr z f) = some res := by
    intro res h1 h2
    refine go res ⟨fun q0 => ⟨fun q2 => ⟨fun q => h1 (fun p => ?_), fun q => h2 ?_⟩, fun q2 => ⟨fun q => h1 (fun p => ?_), fun q => h2 ?_⟩⟩, fun q0 => ⟨fun q => h2 ?_, fun q => ⟨fun q1 => h2 ?_, fun q1 => ⟨fun q2 => h1 (fun p => ?_), fun q2 => h2 ?_⟩⟩⟩⟩
    · rcases p with ⟨p1, p2⟩ | ⟨p1, p2⟩ | ⟨p1, p2⟩
      · exact q0 (k0.mpr p1)
      · exact q2 (k2.mpr p1)
      · exact q (e317.mpr p2)
    · refine Or.inr (Or.inr ⟨?_, e317.mp q⟩)
      have n0 : ¬ k = 0 := fun e => q0 (k0.mpr e)
      have n2 : ¬ k = 2 := fun e => q2 (k2.mpr e)
      omega
    · rcases p with ⟨p1, p2⟩ | ⟨p1, p2⟩ | ⟨p1, p2⟩
      · exact q0 (k0.mpr p1)
      · exact q (e320.mpr p2)
      · have := k2.mp q2
        omega
    · exact Or.inr (Or.inl ⟨k2.mp q2, e320.mp q⟩)
    · exact Or.inl ⟨k0.mp q0, Or.inl (e300.mp q)⟩
    · exact Or.inl ⟨k0.mp q0, Or.inr (Or.inl (e301.mp q1))⟩
    · have := k0.mp q0
      rcases p with ⟨p1, p2 | p2 | p2⟩ | ⟨p1, p2⟩ | ⟨p1, p2⟩
      · exact q (e300.mpr p2)
      · exact q1 (e301.mpr p2)
      · exact q2 (e302.mpr p2)
      · omega
      · omega
    · exact Or.inl ⟨k0.mp q0, Or.inr (Or.inr (e302.mp q2))⟩
  refine ⟨fun p => core _ (fun _ => by rw [a1]) (fun q => absurd q p), fun p e => core _ (fun q => absurd p q) (fun _ => ⟨fun q => by omega, fun _ => by rw [a1]⟩), fun p e => ?_⟩
  have pn : ¬ x.2.1 = 2 := fun q => by
    rcases p with ⟨p1, p2 | p2 | p2⟩ | ⟨p1, p2⟩ | ⟨p1, p2⟩ <;> omega
  have z5 : z 5 = nI x.2.1 := by
    rcases a2 with q | ⟨q, -⟩
    · exact q
    · rcases p with ⟨p1, p2 | p2 | p2⟩ | ⟨p1, p2⟩ | ⟨p1, p2⟩ <;> omega
  have hp := pput (d + 1) (z := z) (f := f) (i := i) (w := 0) (nI x.2.1) h11 e (by decide)
  obtain ⟨z', s1, s2, s3⟩ := pstep (pcR_pt (g := ptW (f 2) i 0 (nI x.2.1)) h) pn d
  exact ⟨z', core _ (fun q => absurd p q) (fun _ => ⟨fun _ => ⟨z, _, by rw [z5]; exact hp, z', _, s1, rfl⟩, fun q => by omega⟩), s2, s3⟩
theorem pcR_C {t : FA} {n : Nat} {ts : List TT} {C : List TK} {z : Nat → Int32} {f : Nat → FA} (h : pcR t n ts C z f) : z 13 = nI C.length := h.2.2.1
/-- a line of the law, behind its word -/
theorem plawline {t : FA} {n i : Nat} {ts : List TT} {C : List TK} {z : Nat → Int32} {f : Nat → FA} (d : Nat) (h : pcR t n ts C z f) (h11 : z 11 = nI i) (hi : i < 16) (hb : C.length + ts.length ≤ 401) : match pH ts with
    | .inl e => ∃ z' f', PLZ z f z' f' ∧ (pcall (d + 23) 123 [vR 0] (LPr z f) = some (some (vI 0), LPr (uZ (uZ z' 7 (nI e.1)) 8 (nI e.2)) f') ∨ ∃ z1 f1, pcall (d + 23) 123 [vR 0] (LPr z f) = some (some (vI 1), LPr z1 f1) ∧ pcall (d + 23) 133 [vR 0, vI 59] (LPr z1 f1) = some (some (vI 0), LPr (uZ (uZ z' 7 (nI e.1)) 8 (nI e.2)) f'))
    | .inr (a, b, r) => ∃ z1 f1 z' f', pcall (d + 23) 123 [vR 0] (LPr z f) = some (some (vI 1), LPr z1 f1) ∧ pcall (d + 23) 133 [vR 0, vI 59] (LPr z1 f1) = some (some (vI 1), LPr z' f') ∧ pcR t n r (C ++ a ++ b) z' f' ∧ PLZ z f z' f' ∧ f' 2 = ptW (ptW (ptW (f 2) i 1 (nI C.length)) i 2 (nI (C.length + a.length))) i 3 (nI (C.length + a.length + b.length)) := by
  have go : ∀ res, _ → pcall (d + 23) 123 [vR 0] (LPr z f) = some res := fun res H => pcall_i (by decide) (mq123 (cu := [])).2.2 rfl (vcp123_0 (pcall (d + 22)) z f res H)
  have p1 := pput (d + 21) (z := z) (f := f) (i := i) (w := 1) (nI C.length) h11 hi (by decide)
  have h1 : pcR t n ts C z (uA f 2 (ptW (f 2) i 1 (nI C.length))) := pcR_pt h
  have z13 := pcR_C h
  have k1 := psum_c (d + 18) h1 hb (by omega)
  unfold pH
  cases hs : pxf ts 0 0 with
  | inl e =>
    rw [hs] at k1
    obtain ⟨z2, f2, b1, b2⟩ := k1
    exact ⟨z2, f2, PLZ.pt.tr b2.l, Or.inl (go _ ⟨z, _, by rw [z13]; exact p1, _, _, _, b1, fun q => absurd rfl q, fun _ => rfl⟩)⟩
  | inr p =>
    obtain ⟨a, q⟩ := p
    rw [hs] at k1
    obtain ⟨z2, f2, b1, b2, b3⟩ := k1
    obtain ⟨y, q, rfl, -⟩ := pcR_hd b2
    obtain ⟨y1, y2, y3, y4⟩ := pcR_hd2 b2
    obtain ⟨l1, l2⟩ := pxf_len _ ts (Nat.le_refl _) 0 0 a _ (Or.inl rfl) hs
    have l1 : prl a + (q.length + 1) ≤ ts.length + 0 + 0 := l1
    have la := prl_le a
    have lc : (C ++ a).length = C.length + a.length := List.length_append
    have z213 : z2 13 = nI (C.length + a.length) := by rw [pcR_C b2, lc]
    have z211 : z2 11 = nI i := (b3.1 11 (by decide) (by decide) (by decide) (by decide) (by decide)).trans h11
    have f22 : f2 2 = ptW (f 2) i 1 (nI C.length) := by rw [b3.2 2 (by decide), uA_self]
    have p2 := pput (d + 21) (z := z2) (f := f2) (i := i) (w := 2) (nI (C.length + a.length)) z211 hi (by decide)
    have h2 := pcR_pt (g := ptW (f2 2) i 2 (nI (C.length + a.length))) b2
    have e313 := pcT_eq y2 y4 313 (by decide) (by decide)
    have pl := PLZ.tr (PLZ.tr (PLZ.pt (f := f) (g := ptW (f 2) i 1 (nI C.length))) b3.l) (PLZ.pt (f := f2) (g := ptW (f2 2) i 2 (nI (C.length + a.length))))
    show match (if y.2.1 = 313 then _ else _ : (Nat × Nat) ⊕ (List TK × List TK × List TT)) with
      | .inl e => _
      | .inr (a, b, r) => _
    by_cases c1 : y.2.1 = 313
    · have q313 := e313.mpr c1
      rw [if_pos c1]
      obtain ⟨z3, s1, s2, s3⟩ := pstep h2 (by omega) (d + 20)
      have k2 := pchoice d s2 (by rw [lc]; omega)
      cases hc : pB (2 * q.length + 2) 1 0 false false q with
      | inl e =>
        rw [hc] at k2
        obtain ⟨z4, f4, g1, g2⟩ := k2
        exact ⟨z4, f4, (pl.tr (PKZ.st s3).l).tr g2.l, Or.inl (go _ ⟨z, _, by rw [z13]; exact p1, _, _, _, b1, fun _ => ⟨z2, _, by rw [z213]; exact p2, fun q => absurd q313 q, fun _ => ⟨z3, _, s1, _, _, _, g1, fun q => absurd rfl q, fun _ => rfl⟩⟩, fun q => absurd q one_n⟩)⟩
      | inr p2' =>
        obtain ⟨b, q2⟩ := p2'
        rw [hc] at k2
        obtain ⟨z4, f4, g1, g2, g3⟩ := k2
        obtain ⟨x, q2, rfl, -⟩ := pcR_hd g2
        have z413 : z4 13 = nI (C.length + a.length + b.length) := by rw [pcR_C g2, List.length_append, lc]
        have z411 : z4 11 = nI i := (g3.1 11 (by decide) (by decide) (by decide) (by decide) (by decide)).trans ((s3 11 (by decide) (by decide) (by decide) (by decide)).trans z211)
        have p3 := pput (d + 21) (z := z4) (f := f4) (i := i) (w := 3) (nI (C.length + a.length + b.length)) z411 hi (by decide)
        have h3 := pcR_pt (g := ptW (f4 2) i 3 (nI (C.length + a.length + b.length))) g2
        have f42 : f4 2 = ptW (ptW (f 2) i 1 (nI C.length)) i 2 (nI (C.length + a.length)) := by rw [g3.2 2 (by decide), uA_self, f22]
        have pl4 := ((pl.tr (PKZ.st s3).l).tr g3.l).tr (PLZ.pt (f := f4) (g := ptW (f4 2) i 3 (nI (C.length + a.length + b.length))))
        have full := go _ ⟨z, _, by rw [z13]; exact p1, _, _, _, b1, fun _ => ⟨z2, _, by rw [z213]; exact p2, fun q => absurd q313 q, fun _ => ⟨z3, _, s1, _, _, _, g1, fun _ => ⟨z4, _, by rw [z413]; exact p3, rfl⟩, fun q => absurd q one_n⟩⟩, fun q => absurd q one_n⟩
        have sg := psign h3 59 (by decide) (by decide) (by decide) (d + 20)
        show match (if x.2.1 = 59 then _ else _ : (Nat × Nat) ⊕ (List TK × List TK × List TT)) with
          | .inl e => _
          | .inr (a, b, r) => _
        by_cases c2 : x.2.1 = 59
        · rw [if_pos c2] at sg ⊢
          obtain ⟨z5, f5, w1, w2, w3⟩ := sg
          rw [List.append_nil] at w2
          refine ⟨_, _, z5, f5, full, w1, w2, pl4.tr w3.l, ?_⟩
          rw [w3.2 2 (by decide), uA_self, f42]
        · rw [if_neg c2] at sg ⊢
          obtain ⟨z5, f5, w1, w2⟩ := sg
          exact ⟨z5, f5, pl4.tr w2.l, Or.inr ⟨_, _, full, w1⟩⟩
    · have q313 : ¬ z2 5 = 313 := fun q => c1 (e313.mp q)
      rw [if_neg c1]
      have p3 := pput (d + 21) (z := z2) (f := uA f2 2 (ptW (f2 2) i 2 (nI (C.length + a.length)))) (i := i) (w := 3) (nI (C.length + a.length)) z211 hi (by decide)
      rw [uA_self, uA_uA] at p3
      have h3 := pcR_pt (g := ptW (ptW (f2 2) i 2 (nI (C.length + a.length))) i 3 (nI (C.length + a.length))) b2
      have pl4 := PLZ.tr (PLZ.tr (PLZ.pt (f := f) (g := ptW (f 2) i 1 (nI C.length))) b3.l) (PLZ.pt (f := f2) (g := ptW (ptW (f2 2) i 2 (nI (C.length + a.length))) i 3 (nI (C.length + a.length))))
      have full := go _ ⟨z, _, by rw [z13]; exact p1, _, _, _, b1, fun _ => ⟨z2, _, by rw [z213]; exact p2, fun _ => ⟨z2, _, by rw [z213]; exact p3, rfl⟩, fun q => absurd q q313⟩, fun q => absurd q one_n⟩
      have sg := psign h3 59 (by decide) (by decide) (by decide) (d + 20)
      by_cases c2 : y.2.1 = 59
      · rw [if_pos c2] at sg ⊢
        obtain ⟨z5, f5, w1, w2, w3⟩ := sg
        rw [List.append_nil] at w2
        refine ⟨_, _, z5, f5, full, w1, ?_, pl4.tr w3.l, ?_⟩
        · rw [List.append_nil]
          exact w2
        · rw [w3.2 2 (by decide), uA_self, f22]
          rfl
      · rw [if_neg c2] at sg ⊢
        obtain ⟨z5, f5, w1, w2⟩ := sg
        exact ⟨z5, f5, pl4.tr w2.l, Or.inr ⟨_, _, full, w1⟩⟩
