/-! press, lift, hand, undo, hours: the reference -/
set_option maxRecDepth 100000 in
theorem b227_1 (call : QC FA) (x1 : Int32) (L : QH FA) (F : Nat) : rnG call 227 (F + 1) 0 [some (vR 0), some (vI x1)] [] L = rnG call 227 F 1 [some (vR 0), some (vI x1)] [vI x1] L := rfl
set_option maxRecDepth 100000 in
theorem b227_2 (call : QC FA) (x : Int32) (ls : List (Option PV)) (L : QH FA) (F : Nat) : rnG call 227 (F + 1) 1 ls [vI x] L = bif pcmp 2 x 0 then rnG call 227 F 8 ls [] L else rnG call 227 F 2 ls [] L := rfl
set_option maxRecDepth 100000 in
theorem b227_3 (call : QC FA) (x1 : Int32) (L : QH FA) (F : Nat) : rnG call 227 (F + 1) 8 [some (vR 0), some (vI x1)] [] L = rnG call 227 F 9 [some (vR 0), some (vI x1)] [vI 0] L := rfl
set_option maxRecDepth 100000 in
theorem b227_4 (call : QC FA) (ls : List (Option PV)) (L : QH FA) (F : Nat) : rnG call 227 (F + 1) 9 ls [vI 0] L = some (some (vI 0), L) := rfl
set_option maxRecDepth 100000 in
theorem b227_5 (call : QC FA) (x1 : Int32) (z : Nat → Int32) (f : Nat → FA) (F : Nat) : rnG call 227 (F + 3) 2 [some (vR 0), some (vI x1)] [] (LR z f) = rnG call 227 F 5 [some (vR 0), some (vI x1)] [vI (z 6), vI x1] (LR z f) := rfl
set_option maxRecDepth 100000 in
theorem b227_6 (call : QC FA) (x y : Int32) (ls : List (Option PV)) (L : QH FA) (F : Nat) : rnG call 227 (F + 1) 5 ls [vI y, vI x] L = bif pcmp 3 x y then rnG call 227 F 8 ls [] L else rnG call 227 F 6 ls [] L := rfl
set_option maxRecDepth 100000 in
theorem b227_7 (call : QC FA) (x1 : Int32) (L : QH FA) (F : Nat) : rnG call 227 (F + 2) 6 [some (vR 0), some (vI x1)] [] L = rnG call 227 F 9 [some (vR 0), some (vI x1)] [vI 1] L := rfl
set_option maxRecDepth 100000 in
theorem b227_8 (call : QC FA) (ls : List (Option PV)) (L : QH FA) (F : Nat) : rnG call 227 (F + 1) 9 ls [vI 1] L = some (some (vI 1), L) := rfl
theorem vc227_0 (call : QC FA) (x1 : Int32) (z : Nat → Int32) (f : Nat → FA) (res : Option PV × QH FA) (H : ((I x1 < 0 → res = (some (vI 0), LR z f)) ∧ (0 ≤ I x1 → ((I (z 6) ≤ I x1 → res = (some (vI 0), LR z f)) ∧ (I x1 < I (z 6) → res = (some (vI 1), LR z f)))))) : RC call (mP 227) 0 [some (vR 0), some (vI x1)] [] (LR z f) res := by
  refine rc_b (i' := 1) (ls' := [some (vR 0), some (vI x1)]) (st' := [vI x1]) (L' := LR z f) 1 (b227_1 call x1 _) ?_
  refine rc_if (it := 8) (ie := 2) (ls' := [some (vR 0), some (vI x1)]) (st' := []) (b227_2 call x1 _ _) (fun q1 => ?_) (fun q1 => ?_)
  · have H := H.1 (cI2t q1 rfl rfl)
    refine rc_b (i' := 9) (ls' := [some (vR 0), some (vI x1)]) (st' := [vI 0]) (L' := LR z f) 1 (b227_3 call x1 _) ?_
    subst H
    exact rc_ret (b227_4 call _ _)
  · have H := H.2 (cI2f q1 rfl rfl)
    refine rc_b (i' := 5) (ls' := [some (vR 0), some (vI x1)]) (st' := [vI (z 6), vI x1]) (L' := LR z f) 3 (b227_5 call x1 z f) ?_
    refine rc_if (it := 8) (ie := 6) (ls' := [some (vR 0), some (vI x1)]) (st' := []) (b227_6 call x1 (z 6) _ _) (fun q2 => ?_) (fun q2 => ?_)
    · have H := H.1 (cI3t q2 rfl rfl)
      refine rc_b (i' := 9) (ls' := [some (vR 0), some (vI x1)]) (st' := [vI 0]) (L' := LR z f) 1 (b227_3 call x1 _) ?_
      subst H
      exact rc_ret (b227_4 call _ _)
    · have H := H.2 (cI3f q2 rfl rfl)
      refine rc_b (i' := 9) (ls' := [some (vR 0), some (vI x1)]) (st' := [vI 1]) (L' := LR z f) 2 (b227_7 call x1 _) ?_
      subst H
      exact rc_ret (b227_8 call _ _)
set_option maxRecDepth 100000 in
theorem b248_1 (call : QC FA) (x1 : Int32) (x2 : Int32) (L : QH FA) (F : Nat) : rnG call 248 (F + 2) 0 [some (vR 0), some (vI x1), some (vI x2)] [] L = rnG call 248 F 2 [some (vR 0), some (vI x1), some (vI x2)] [vI 0, vR 0] L := rfl
set_option maxRecDepth 100000 in
theorem b248_2 (call : QC FA) (y : Int32) (ls : List (Option PV)) (z : Nat → Int32) (f : Nat → FA) (F : Nat) : rnG call 248 (F + 1) 2 ls [vI y, vR 0] (LR z f) = rnG call 248 F 3 ls [] (LR (uZ z 0 y) f) := rfl
set_option maxRecDepth 100000 in
theorem b248_3 (call : QC FA) (x1 : Int32) (x2 : Int32) (L : QH FA) (F : Nat) : rnG call 248 (F + 2) 3 [some (vR 0), some (vI x1), some (vI x2)] [] L = rnG call 248 F 5 [some (vR 0), some (vI x1), some (vI x2)] [vI x1, vR 0] L := rfl
set_option maxRecDepth 100000 in
theorem b248_4 (call : QC FA) (a0 : Int32) (ls : List (Option PV)) (z : Nat → Int32) (f : Nat → FA) (F : Nat) : rnG call 248 (F + 1) 5 ls [vI a0, vR 0] (LR z f) = cbd (call 227 [vR 0, vI a0] (LR z f)) (fun r L' => rnG call 248 F 6 ls (r.toList ++ []) L') := pcY (ih := rnG call 248 F) (call := call) (a := 227) (b := 1) (v := 12) (t := 6) (x := 0) (ls := ls) (As := [vI a0]) (st' := []) (L := LR z f) rfl rfl rfl
set_option maxRecDepth 100000 in
theorem b248_5 (call : QC FA) (x : Int32) (ls : List (Option PV)) (L : QH FA) (F : Nat) : rnG call 248 (F + 1) 6 ls [vI x] L = bif pcmp 0 x 0 then rnG call 248 F 17 ls [] L else rnG call 248 F 7 ls [] L := rfl
set_option maxRecDepth 100000 in
theorem b248_6 (call : QC FA) (x1 : Int32) (x2 : Int32) (L : QH FA) (F : Nat) : rnG call 248 (F + 1) 17 [some (vR 0), some (vI x1), some (vI x2)] [] L = rnG call 248 F 18 [some (vR 0), some (vI x1), some (vI x2)] [vI ((-1))] L := rfl
set_option maxRecDepth 100000 in
theorem b248_7 (call : QC FA) (x : Int32) (ls : List (Option PV)) (L : QH FA) (F : Nat) : rnG call 248 (F + 1) 18 ls [vI x] L = some (some (vI x), L) := rfl
set_option maxRecDepth 100000 in
theorem b248_8 (call : QC FA) (x1 : Int32) (x2 : Int32) (L : QH FA) (F : Nat) : rnG call 248 (F + 4) 7 [some (vR 0), some (vI x1), some (vI x2)] [] L = rnG call 248 F 11 [some (vR 0), some (vI x1), some (vI x2)] [vI 11, vI 0, vI x2, vR 0] L := rfl
set_option maxRecDepth 100000 in
theorem b248_9 (call : QC FA) (a0 : Int32) (a1 : Int32) (a2 : Int32) (ls : List (Option PV)) (z : Nat → Int32) (f : Nat → FA) (F : Nat) : rnG call 248 (F + 1) 11 ls [vI a2, vI a1, vI a0, vR 0] (LR z f) = cbd (call 47 [vR 0, vI a0, vI a1, vI a2] (LR z f)) (fun r L' => rnG call 248 F 12 ls (r.toList ++ []) L') := pcY (ih := rnG call 248 F) (call := call) (a := 47) (b := 3) (v := 12) (t := 12) (x := 0) (ls := ls) (As := [vI a0, vI a1, vI a2]) (st' := []) (L := LR z f) rfl rfl rfl
set_option maxRecDepth 100000 in
theorem b248_10 (call : QC FA) (x : Int32) (ls : List (Option PV)) (L : QH FA) (F : Nat) : rnG call 248 (F + 1) 12 ls [vI x] L = bif pcmp 0 x 0 then rnG call 248 F 17 ls [] L else rnG call 248 F 13 ls [] L := rfl
set_option maxRecDepth 100000 in
theorem b248_11 (call : QC FA) (x1 : Int32) (x2 : Int32) (L : QH FA) (F : Nat) : rnG call 248 (F + 2) 13 [some (vR 0), some (vI x1), some (vI x2)] [] L = rnG call 248 F 15 [some (vR 0), some (vI x1), some (vI x2)] [vI x1, vR 0] L := rfl
set_option maxRecDepth 100000 in
theorem b248_12 (call : QC FA) (a0 : Int32) (ls : List (Option PV)) (z : Nat → Int32) (f : Nat → FA) (F : Nat) : rnG call 248 (F + 1) 15 ls [vI a0, vR 0] (LR z f) = cbd (call 193 [vR 0, vI a0] (LR z f)) (fun r L' => rnG call 248 F 16 ls (r.toList ++ []) L') := pcY (ih := rnG call 248 F) (call := call) (a := 193) (b := 1) (v := 12) (t := 16) (x := 0) (ls := ls) (As := [vI a0]) (st' := []) (L := LR z f) rfl rfl rfl
set_option maxRecDepth 100000 in
theorem b248_13 (call : QC FA) (x : Int32) (ls : List (Option PV)) (L : QH FA) (F : Nat) : rnG call 248 (F + 1) 16 ls [vI x] L = bif pcmp 1 x 0 then rnG call 248 F 19 ls [] L else rnG call 248 F 17 ls [] L := rfl
set_option maxRecDepth 100000 in
theorem b248_14 (call : QC FA) (x1 : Int32) (x2 : Int32) (L : QH FA) (F : Nat) : rnG call 248 (F + 1) 19 [some (vR 0), some (vI x1), some (vI x2)] [] L = rnG call 248 F 20 [some (vR 0), some (vI x1), some (vI x2)] [vR 0] L := rfl
set_option maxRecDepth 100000 in
theorem b248_15 (call : QC FA) (ls : List (Option PV)) (z : Nat → Int32) (f : Nat → FA) (F : Nat) : rnG call 248 (F + 1) 20 ls [vR 0] (LR z f) = cbd (call 230 [vR 0] (LR z f)) (fun r L' => rnG call 248 F 21 ls (r.toList ++ []) L') := pcY (ih := rnG call 248 F) (call := call) (a := 230) (b := 0) (v := 12) (t := 21) (x := 0) (ls := ls) (As := []) (st' := []) (L := LR z f) rfl rfl rfl
set_option maxRecDepth 100000 in
theorem b248_16 (call : QC FA) (x1 : Int32) (x2 : Int32) (L : QH FA) (F : Nat) : rnG call 248 (F + 3) 21 [some (vR 0), some (vI x1), some (vI x2)] [] L = rnG call 248 F 24 [some (vR 0), some (vI x1), some (vI x2)] [vI x2, vI x1, vR 0] L := rfl
set_option maxRecDepth 100000 in
theorem b248_17 (call : QC FA) (a0 : Int32) (a1 : Int32) (ls : List (Option PV)) (z : Nat → Int32) (f : Nat → FA) (F : Nat) : rnG call 248 (F + 1) 24 ls [vI a1, vI a0, vR 0] (LR z f) = cbd (call 249 [vR 0, vI a0, vI a1] (LR z f)) (fun r L' => rnG call 248 F 25 ls (r.toList ++ []) L') := pcY (ih := rnG call 248 F) (call := call) (a := 249) (b := 2) (v := 12) (t := 25) (x := 0) (ls := ls) (As := [vI a0, vI a1]) (st' := []) (L := LR z f) rfl rfl rfl
set_option maxRecDepth 100000 in
theorem b248_18 (call : QC FA) (x : Int32) (ls : List (Option PV)) (L : QH FA) (F : Nat) : rnG call 248 (F + 1) 25 ls [vI x] L = some (some (vI x), L) := rfl
theorem vc248_0 (d : Nat) (x1 : Int32) (x2 : Int32) (z : Nat → Int32) (f : Nat → FA) (res : Option PV × QH FA) (H : (∃ (r1 : Int32) (z1 : Nat → Int32) (f1 : Nat → FA), (mcall (d + 4)) 227 [vR 0, vI x1] (LR (uZ z 0 0) f) = some (some (vI r1), LR z1 f1) ∧ ((r1 = 0 → res = (some (vI ((-1))), LR z1 f1)) ∧ (¬ r1 = 0 → (((0 ≤ I x2 ∧ I x2 ≤ 11) → (∃ (r2 : Int32) (z2 : Nat → Int32) (f2 : Nat → FA), (mcall (d + 4)) 193 [vR 0, vI x1] (LR z1 f1) = some (some (vI r2), LR z2 f2) ∧ ((¬ r2 = 0 → (∃ (z3 : Nat → Int32) (f3 : Nat → FA), (mcall (d + 4)) 230 [vR 0] (LR z2 f2) = some (none, LR z3 f3) ∧ (∃ (r4 : Int32) (z4 : Nat → Int32) (f4 : Nat → FA), (mcall (d + 4)) 249 [vR 0, vI x1, vI x2] (LR z3 f3) = some (some (vI r4), LR z4 f4) ∧ res = (some (vI r4), LR z4 f4)))) ∧ (r2 = 0 → res = (some (vI ((-1))), LR z2 f2))))) ∧ ((¬ (0 ≤ I x2 ∧ I x2 ≤ 11)) → res = (some (vI ((-1))), LR z1 f1))))))) : RC (mcall (d + 4)) (mP 248) 0 [some (vR 0), some (vI x1), some (vI x2)] [] (LR z f) res := by
  refine rc_b (i' := 2) (ls' := [some (vR 0), some (vI x1), some (vI x2)]) (st' := [vI 0, vR 0]) (L' := LR z f) 2 (b248_1 (mcall (d + 4)) x1 x2 _) ?_
  refine rc_b (i' := 3) (ls' := [some (vR 0), some (vI x1), some (vI x2)]) (st' := []) (L' := LR (uZ z 0 0) f) 1 (b248_2 (mcall (d + 4)) 0 _ z f) ?_
  refine rc_b (i' := 5) (ls' := [some (vR 0), some (vI x1), some (vI x2)]) (st' := [vI x1, vR 0]) (L' := LR (uZ z 0 0) f) 2 (b248_3 (mcall (d + 4)) x1 x2 _) ?_
  obtain ⟨r1, z1, f1, hc, H⟩ := H
  refine rc_call (t := 6) (ls' := [some (vR 0), some (vI x1), some (vI x2)]) (st' := []) (b248_4 (mcall (d + 4)) x1 _ (uZ z 0 0) f) hc ?_
  show RC (mcall (d + 4)) (mP 248) 6 [some (vR 0), some (vI x1), some (vI x2)] [vI r1] (LR z1 f1) res
  refine rc_if (it := 17) (ie := 7) (ls' := [some (vR 0), some (vI x1), some (vI x2)]) (st' := []) (b248_5 (mcall (d + 4)) r1 _ _) (fun q1 => ?_) (fun q1 => ?_)
  · have H := H.1 (cI0t q1)
    refine rc_b (i' := 18) (ls' := [some (vR 0), some (vI x1), some (vI x2)]) (st' := [vI ((-1))]) (L' := LR z1 f1) 1 (b248_6 (mcall (d + 4)) x1 x2 _) ?_
    subst H
    exact rc_ret (b248_7 (mcall (d + 4)) _ _ _)
  · have H := H.2 (cI0f q1)
    refine rc_b (i' := 11) (ls' := [some (vR 0), some (vI x1), some (vI x2)]) (st' := [vI 11, vI 0, vI x2, vR 0]) (L' := LR z1 f1) 4 (b248_8 (mcall (d + 4)) x1 x2 _) ?_
    refine rc_call (t := 12) (ls' := [some (vR 0), some (vI x1), some (vI x2)]) (st' := []) (b248_9 (mcall (d + 4)) x2 0 11 _ z1 f1) (isIn_r _ x2 0 11 z1 f1) ?_
    show RC (mcall (d + 4)) (mP 248) 12 [some (vR 0), some (vI x1), some (vI x2)] [vI (bI (0 ≤ I x2 ∧ I x2 ≤ 11))] (LR z1 f1) res
    refine rc_bz (it := 17) (ie := 13) (ls' := [some (vR 0), some (vI x1), some (vI x2)]) (st' := []) (b248_10 (mcall (d + 4)) (bI (0 ≤ I x2 ∧ I x2 ≤ 11)) _ _) (fun q2 => ?_) (fun q2 => ?_)
    · have H := H.2 q2
      refine rc_b (i' := 18) (ls' := [some (vR 0), some (vI x1), some (vI x2)]) (st' := [vI ((-1))]) (L' := LR z1 f1) 1 (b248_6 (mcall (d + 4)) x1 x2 _) ?_
      subst H
      exact rc_ret (b248_7 (mcall (d + 4)) _ _ _)
    · have H := H.1 q2
      refine rc_b (i' := 15) (ls' := [some (vR 0), some (vI x1), some (vI x2)]) (st' := [vI x1, vR 0]) (L' := LR z1 f1) 2 (b248_11 (mcall (d + 4)) x1 x2 _) ?_
      obtain ⟨r2, z2, f2, hc, H⟩ := H
      refine rc_call (t := 16) (ls' := [some (vR 0), some (vI x1), some (vI x2)]) (st' := []) (b248_12 (mcall (d + 4)) x1 _ z1 f1) hc ?_
      show RC (mcall (d + 4)) (mP 248) 16 [some (vR 0), some (vI x1), some (vI x2)] [vI r2] (LR z2 f2) res
      refine rc_if (it := 19) (ie := 17) (ls' := [some (vR 0), some (vI x1), some (vI x2)]) (st' := []) (b248_13 (mcall (d + 4)) r2 _ _) (fun q3 => ?_) (fun q3 => ?_)
      · have H := H.1 (cI1t q3)
        refine rc_b (i' := 20) (ls' := [some (vR 0), some (vI x1), some (vI x2)]) (st' := [vR 0]) (L' := LR z2 f2) 1 (b248_14 (mcall (d + 4)) x1 x2 _) ?_
        obtain ⟨z3, f3, hc, H⟩ := H
        refine rc_call (t := 21) (ls' := [some (vR 0), some (vI x1), some (vI x2)]) (st' := []) (b248_15 (mcall (d + 4)) _ z2 f2) hc ?_
        show RC (mcall (d + 4)) (mP 248) 21 [some (vR 0), some (vI x1), some (vI x2)] [] (LR z3 f3) res
        refine rc_b (i' := 24) (ls' := [some (vR 0), some (vI x1), some (vI x2)]) (st' := [vI x2, vI x1, vR 0]) (L' := LR z3 f3) 3 (b248_16 (mcall (d + 4)) x1 x2 _) ?_
        obtain ⟨r4, z4, f4, hc, H⟩ := H
        refine rc_call (t := 25) (ls' := [some (vR 0), some (vI x1), some (vI x2)]) (st' := []) (b248_17 (mcall (d + 4)) x1 x2 _ z3 f3) hc ?_
        show RC (mcall (d + 4)) (mP 248) 25 [some (vR 0), some (vI x1), some (vI x2)] [vI r4] (LR z4 f4) res
        subst H
        exact rc_ret (b248_18 (mcall (d + 4)) _ _ _)
      · have H := H.2 (cI1f q3)
        refine rc_b (i' := 18) (ls' := [some (vR 0), some (vI x1), some (vI x2)]) (st' := [vI ((-1))]) (L' := LR z2 f2) 1 (b248_6 (mcall (d + 4)) x1 x2 _) ?_
        subst H
        exact rc_ret (b248_7 (mcall (d + 4)) _ _ _)
set_option maxRecDepth 100000 in
theorem b235_1 (call : QC FA) (x1 : Int32) (x2 : Int32) (L : QH FA) (F : Nat) : rnG call 235 (F + 2) 0 [some (vR 0), some (vI x1), some (vI x2)] [] L = rnG call 235 F 2 [some (vR 0), some (vI x1), some (vI x2)] [vI 0, vR 0] L := rfl
set_option maxRecDepth 100000 in
theorem b235_2 (call : QC FA) (y : Int32) (ls : List (Option PV)) (z : Nat → Int32) (f : Nat → FA) (F : Nat) : rnG call 235 (F + 1) 2 ls [vI y, vR 0] (LR z f) = rnG call 235 F 3 ls [] (LR (uZ z 0 y) f) := rfl
set_option maxRecDepth 100000 in
theorem b235_3 (call : QC FA) (x1 : Int32) (x2 : Int32) (L : QH FA) (F : Nat) : rnG call 235 (F + 4) 3 [some (vR 0), some (vI x1), some (vI x2)] [] L = rnG call 235 F 7 [some (vR 0), some (vI x1), some (vI x2)] [vI 11, vI 0, vI x1, vR 0] L := rfl
set_option maxRecDepth 100000 in
theorem b235_4 (call : QC FA) (a0 : Int32) (a1 : Int32) (a2 : Int32) (ls : List (Option PV)) (z : Nat → Int32) (f : Nat → FA) (F : Nat) : rnG call 235 (F + 1) 7 ls [vI a2, vI a1, vI a0, vR 0] (LR z f) = cbd (call 47 [vR 0, vI a0, vI a1, vI a2] (LR z f)) (fun r L' => rnG call 235 F 8 ls (r.toList ++ []) L') := pcY (ih := rnG call 235 F) (call := call) (a := 47) (b := 3) (v := 12) (t := 8) (x := 0) (ls := ls) (As := [vI a0, vI a1, vI a2]) (st' := []) (L := LR z f) rfl rfl rfl
set_option maxRecDepth 100000 in
theorem b235_5 (call : QC FA) (x : Int32) (ls : List (Option PV)) (L : QH FA) (F : Nat) : rnG call 235 (F + 1) 8 ls [vI x] L = bif pcmp 0 x 0 then rnG call 235 F 23 ls [] L else rnG call 235 F 9 ls [] L := rfl
set_option maxRecDepth 100000 in
theorem b235_6 (call : QC FA) (x1 : Int32) (x2 : Int32) (L : QH FA) (F : Nat) : rnG call 235 (F + 1) 23 [some (vR 0), some (vI x1), some (vI x2)] [] L = rnG call 235 F 24 [some (vR 0), some (vI x1), some (vI x2)] [vI 0] L := rfl
set_option maxRecDepth 100000 in
theorem b235_7 (call : QC FA) (ls : List (Option PV)) (L : QH FA) (F : Nat) : rnG call 235 (F + 1) 24 ls [vI 0] L = some (some (vI 0), L) := rfl
set_option maxRecDepth 100000 in
theorem b235_8 (call : QC FA) (x1 : Int32) (x2 : Int32) (L : QH FA) (F : Nat) : rnG call 235 (F + 4) 9 [some (vR 0), some (vI x1), some (vI x2)] [] L = rnG call 235 F 13 [some (vR 0), some (vI x1), some (vI x2)] [vI 11, vI 0, vI x2, vR 0] L := rfl
set_option maxRecDepth 100000 in
theorem b235_9 (call : QC FA) (a0 : Int32) (a1 : Int32) (a2 : Int32) (ls : List (Option PV)) (z : Nat → Int32) (f : Nat → FA) (F : Nat) : rnG call 235 (F + 1) 13 ls [vI a2, vI a1, vI a0, vR 0] (LR z f) = cbd (call 47 [vR 0, vI a0, vI a1, vI a2] (LR z f)) (fun r L' => rnG call 235 F 14 ls (r.toList ++ []) L') := pcY (ih := rnG call 235 F) (call := call) (a := 47) (b := 3) (v := 12) (t := 14) (x := 0) (ls := ls) (As := [vI a0, vI a1, vI a2]) (st' := []) (L := LR z f) rfl rfl rfl
set_option maxRecDepth 100000 in
theorem b235_10 (call : QC FA) (x : Int32) (ls : List (Option PV)) (L : QH FA) (F : Nat) : rnG call 235 (F + 1) 14 ls [vI x] L = bif pcmp 0 x 0 then rnG call 235 F 23 ls [] L else rnG call 235 F 15 ls [] L := rfl
set_option maxRecDepth 100000 in
theorem b235_11 (call : QC FA) (x1 : Int32) (x2 : Int32) (L : QH FA) (F : Nat) : rnG call 235 (F + 6) 15 [some (vR 0), some (vI x1), some (vI x2)] [] L = rnG call 235 F 21 [some (vR 0), some (vI x1), some (vI x2)] [vI ((12 * x1) + x2), vR 0] L := rfl
set_option maxRecDepth 100000 in
theorem b235_12 (call : QC FA) (a0 : Int32) (ls : List (Option PV)) (z : Nat → Int32) (f : Nat → FA) (F : Nat) : rnG call 235 (F + 1) 21 ls [vI a0, vR 0] (LR z f) = cbd (call 49 [vR 0, vI a0] (LR z f)) (fun r L' => rnG call 235 F 22 ls (r.toList ++ []) L') := pcY (ih := rnG call 235 F) (call := call) (a := 49) (b := 1) (v := 12) (t := 22) (x := 0) (ls := ls) (As := [vI a0]) (st' := []) (L := LR z f) rfl rfl rfl
set_option maxRecDepth 100000 in
theorem b235_13 (call : QC FA) (x : Int32) (ls : List (Option PV)) (L : QH FA) (F : Nat) : rnG call 235 (F + 1) 22 ls [vI x] L = bif pcmp 1 x 0 then rnG call 235 F 25 ls [] L else rnG call 235 F 23 ls [] L := rfl
set_option maxRecDepth 100000 in
theorem b235_14 (call : QC FA) (x1 : Int32) (x2 : Int32) (L : QH FA) (F : Nat) : rnG call 235 (F + 1) 25 [some (vR 0), some (vI x1), some (vI x2)] [] L = rnG call 235 F 26 [some (vR 0), some (vI x1), some (vI x2)] [vR 0] L := rfl
set_option maxRecDepth 100000 in
theorem b235_15 (call : QC FA) (ls : List (Option PV)) (z : Nat → Int32) (f : Nat → FA) (F : Nat) : rnG call 235 (F + 1) 26 ls [vR 0] (LR z f) = cbd (call 230 [vR 0] (LR z f)) (fun r L' => rnG call 235 F 27 ls (r.toList ++ []) L') := pcY (ih := rnG call 235 F) (call := call) (a := 230) (b := 0) (v := 12) (t := 27) (x := 0) (ls := ls) (As := []) (st' := []) (L := LR z f) rfl rfl rfl
set_option maxRecDepth 100000 in
theorem b235_16 (call : QC FA) (x1 : Int32) (x2 : Int32) (L : QH FA) (F : Nat) : rnG call 235 (F + 6) 27 [some (vR 0), some (vI x1), some (vI x2)] [] L = rnG call 235 F 33 [some (vR 0), some (vI x1), some (vI x2)] [vI ((12 * x1) + x2), vR 0] L := rfl
set_option maxRecDepth 100000 in
theorem b235_17 (call : QC FA) (a0 : Int32) (ls : List (Option PV)) (z : Nat → Int32) (f : Nat → FA) (F : Nat) : rnG call 235 (F + 1) 33 ls [vI a0, vR 0] (LR z f) = cbd (call 223 [vR 0, vI a0] (LR z f)) (fun r L' => rnG call 235 F 34 ls (r.toList ++ []) L') := pcY (ih := rnG call 235 F) (call := call) (a := 223) (b := 1) (v := 12) (t := 34) (x := 0) (ls := ls) (As := [vI a0]) (st' := []) (L := LR z f) rfl rfl rfl
set_option maxRecDepth 100000 in
theorem b235_18 (call : QC FA) (x1 : Int32) (x2 : Int32) (L : QH FA) (F : Nat) : rnG call 235 (F + 1) 34 [some (vR 0), some (vI x1), some (vI x2)] [] L = rnG call 235 F 35 [some (vR 0), some (vI x1), some (vI x2)] [vI 1] L := rfl
set_option maxRecDepth 100000 in
theorem b235_19 (call : QC FA) (ls : List (Option PV)) (L : QH FA) (F : Nat) : rnG call 235 (F + 1) 35 ls [vI 1] L = some (some (vI 1), L) := rfl
theorem vc235_0 (d : Nat) (x1 : Int32) (x2 : Int32) (z : Nat → Int32) (f : Nat → FA) (res : Option PV × QH FA) (H : (((0 ≤ I x1 ∧ I x1 ≤ 11) → (((0 ≤ I x2 ∧ I x2 ≤ 11) → (∃ (r1 : Int32) (z1 : Nat → Int32) (f1 : Nat → FA), (mcall (d + 4)) 49 [vR 0, vI ((12 * x1) + x2)] (LR (uZ z 0 0) f) = some (some (vI r1), LR z1 f1) ∧ ((¬ r1 = 0 → (∃ (z2 : Nat → Int32) (f2 : Nat → FA), (mcall (d + 4)) 230 [vR 0] (LR z1 f1) = some (none, LR z2 f2) ∧ (∃ (z3 : Nat → Int32) (f3 : Nat → FA), (mcall (d + 4)) 223 [vR 0, vI ((12 * x1) + x2)] (LR z2 f2) = some (none, LR z3 f3) ∧ res = (some (vI 1), LR z3 f3)))) ∧ (r1 = 0 → res = (some (vI 0), LR z1 f1))))) ∧ ((¬ (0 ≤ I x2 ∧ I x2 ≤ 11)) → res = (some (vI 0), LR (uZ z 0 0) f)))) ∧ ((¬ (0 ≤ I x1 ∧ I x1 ≤ 11)) → res = (some (vI 0), LR (uZ z 0 0) f)))) : RC (mcall (d + 4)) (mP 235) 0 [some (vR 0), some (vI x1), some (vI x2)] [] (LR z f) res := by
  refine rc_b (i' := 2) (ls' := [some (vR 0), some (vI x1), some (vI x2)]) (st' := [vI 0, vR 0]) (L' := LR z f) 2 (b235_1 (mcall (d + 4)) x1 x2 _) ?_
  refine rc_b (i' := 3) (ls' := [some (vR 0), some (vI x1), some (vI x2)]) (st' := []) (L' := LR (uZ z 0 0) f) 1 (b235_2 (mcall (d + 4)) 0 _ z f) ?_
  refine rc_b (i' := 7) (ls' := [some (vR 0), some (vI x1), some (vI x2)]) (st' := [vI 11, vI 0, vI x1, vR 0]) (L' := LR (uZ z 0 0) f) 4 (b235_3 (mcall (d + 4)) x1 x2 _) ?_
  refine rc_call (t := 8) (ls' := [some (vR 0), some (vI x1), some (vI x2)]) (st' := []) (b235_4 (mcall (d + 4)) x1 0 11 _ (uZ z 0 0) f) (isIn_r _ x1 0 11 (uZ z 0 0) f) ?_
  show RC (mcall (d + 4)) (mP 235) 8 [some (vR 0), some (vI x1), some (vI x2)] [vI (bI (0 ≤ I x1 ∧ I x1 ≤ 11))] (LR (uZ z 0 0) f) res
  refine rc_bz (it := 23) (ie := 9) (ls' := [some (vR 0), some (vI x1), some (vI x2)]) (st' := []) (b235_5 (mcall (d + 4)) (bI (0 ≤ I x1 ∧ I x1 ≤ 11)) _ _) (fun q1 => ?_) (fun q1 => ?_)
  · have H := H.2 q1
    refine rc_b (i' := 24) (ls' := [some (vR 0), some (vI x1), some (vI x2)]) (st' := [vI 0]) (L' := LR (uZ z 0 0) f) 1 (b235_6 (mcall (d + 4)) x1 x2 _) ?_
    subst H
    exact rc_ret (b235_7 (mcall (d + 4)) _ _)
  · have H := H.1 q1
    refine rc_b (i' := 13) (ls' := [some (vR 0), some (vI x1), some (vI x2)]) (st' := [vI 11, vI 0, vI x2, vR 0]) (L' := LR (uZ z 0 0) f) 4 (b235_8 (mcall (d + 4)) x1 x2 _) ?_
    refine rc_call (t := 14) (ls' := [some (vR 0), some (vI x1), some (vI x2)]) (st' := []) (b235_9 (mcall (d + 4)) x2 0 11 _ (uZ z 0 0) f) (isIn_r _ x2 0 11 (uZ z 0 0) f) ?_
    show RC (mcall (d + 4)) (mP 235) 14 [some (vR 0), some (vI x1), some (vI x2)] [vI (bI (0 ≤ I x2 ∧ I x2 ≤ 11))] (LR (uZ z 0 0) f) res
    refine rc_bz (it := 23) (ie := 15) (ls' := [some (vR 0), some (vI x1), some (vI x2)]) (st' := []) (b235_10 (mcall (d + 4)) (bI (0 ≤ I x2 ∧ I x2 ≤ 11)) _ _) (fun q2 => ?_) (fun q2 => ?_)
    · have H := H.2 q2
      refine rc_b (i' := 24) (ls' := [some (vR 0), some (vI x1), some (vI x2)]) (st' := [vI 0]) (L' := LR (uZ z 0 0) f) 1 (b235_6 (mcall (d + 4)) x1 x2 _) ?_
      subst H
      exact rc_ret (b235_7 (mcall (d + 4)) _ _)
    · have H := H.1 q2
      refine rc_b (i' := 21) (ls' := [some (vR 0), some (vI x1), some (vI x2)]) (st' := [vI ((12 * x1) + x2), vR 0]) (L' := LR (uZ z 0 0) f) 6 (b235_11 (mcall (d + 4)) x1 x2 _) ?_
      obtain ⟨r1, z1, f1, hc, H⟩ := H
      refine rc_call (t := 22) (ls' := [some (vR 0), some (vI x1), some (vI x2)]) (st' := []) (b235_12 (mcall (d + 4)) ((12 * x1) + x2) _ (uZ z 0 0) f) hc ?_
      show RC (mcall (d + 4)) (mP 235) 22 [some (vR 0), some (vI x1), some (vI x2)] [vI r1] (LR z1 f1) res
      refine rc_if (it := 25) (ie := 23) (ls' := [some (vR 0), some (vI x1), some (vI x2)]) (st' := []) (b235_13 (mcall (d + 4)) r1 _ _) (fun q3 => ?_) (fun q3 => ?_)
      · have H := H.1 (cI1t q3)
        refine rc_b (i' := 26) (ls' := [some (vR 0), some (vI x1), some (vI x2)]) (st' := [vR 0]) (L' := LR z1 f1) 1 (b235_14 (mcall (d + 4)) x1 x2 _) ?_
        obtain ⟨z2, f2, hc, H⟩ := H
        refine rc_call (t := 27) (ls' := [some (vR 0), some (vI x1), some (vI x2)]) (st' := []) (b235_15 (mcall (d + 4)) _ z1 f1) hc ?_
        show RC (mcall (d + 4)) (mP 235) 27 [some (vR 0), some (vI x1), some (vI x2)] [] (LR z2 f2) res
        refine rc_b (i' := 33) (ls' := [some (vR 0), some (vI x1), some (vI x2)]) (st' := [vI ((12 * x1) + x2), vR 0]) (L' := LR z2 f2) 6 (b235_16 (mcall (d + 4)) x1 x2 _) ?_
        obtain ⟨z3, f3, hc, H⟩ := H
        refine rc_call (t := 34) (ls' := [some (vR 0), some (vI x1), some (vI x2)]) (st' := []) (b235_17 (mcall (d + 4)) ((12 * x1) + x2) _ z2 f2) hc ?_
        show RC (mcall (d + 4)) (mP 235) 34 [some (vR 0), some (vI x1), some (vI x2)] [] (LR z3 f3) res
        refine rc_b (i' := 35) (ls' := [some (vR 0), some (vI x1), some (vI x2)]) (st' := [vI 1]) (L' := LR z3 f3) 1 (b235_18 (mcall (d + 4)) x1 x2 _) ?_
        subst H
        exact rc_ret (b235_19 (mcall (d + 4)) _ _)
      · have H := H.2 (cI1f q3)
        refine rc_b (i' := 24) (ls' := [some (vR 0), some (vI x1), some (vI x2)]) (st' := [vI 0]) (L' := LR z1 f1) 1 (b235_6 (mcall (d + 4)) x1 x2 _) ?_
        subst H
        exact rc_ret (b235_7 (mcall (d + 4)) _ _)
set_option maxRecDepth 100000 in
theorem b215_1 (call : QC FA) (x1 : Int32) (x2 : Int32) (L : QH FA) (F : Nat) : rnG call 215 (F + 2) 0 [some (vR 0), some (vI x1), some (vI x2)] [] L = rnG call 215 F 2 [some (vR 0), some (vI x1), some (vI x2)] [vI 0, vR 0] L := rfl
set_option maxRecDepth 100000 in
theorem b215_2 (call : QC FA) (y : Int32) (ls : List (Option PV)) (z : Nat → Int32) (f : Nat → FA) (F : Nat) : rnG call 215 (F + 1) 2 ls [vI y, vR 0] (LR z f) = rnG call 215 F 3 ls [] (LR (uZ z 0 y) f) := rfl
set_option maxRecDepth 100000 in
theorem b215_3 (call : QC FA) (x1 : Int32) (x2 : Int32) (L : QH FA) (F : Nat) : rnG call 215 (F + 2) 3 [some (vR 0), some (vI x1), some (vI x2)] [] L = rnG call 215 F 5 [some (vR 0), some (vI x1), some (vI x2)] [vI x1, vR 0] L := rfl
set_option maxRecDepth 100000 in
theorem b215_4 (call : QC FA) (a0 : Int32) (ls : List (Option PV)) (z : Nat → Int32) (f : Nat → FA) (F : Nat) : rnG call 215 (F + 1) 5 ls [vI a0, vR 0] (LR z f) = cbd (call 227 [vR 0, vI a0] (LR z f)) (fun r L' => rnG call 215 F 6 ls (r.toList ++ []) L') := pcY (ih := rnG call 215 F) (call := call) (a := 227) (b := 1) (v := 12) (t := 6) (x := 0) (ls := ls) (As := [vI a0]) (st' := []) (L := LR z f) rfl rfl rfl
set_option maxRecDepth 100000 in
theorem b215_5 (call : QC FA) (x : Int32) (ls : List (Option PV)) (L : QH FA) (F : Nat) : rnG call 215 (F + 1) 6 ls [vI x] L = bif pcmp 0 x 0 then rnG call 215 F 21 ls [] L else rnG call 215 F 7 ls [] L := rfl
set_option maxRecDepth 100000 in
theorem b215_6 (call : QC FA) (x1 : Int32) (x2 : Int32) (L : QH FA) (F : Nat) : rnG call 215 (F + 1) 21 [some (vR 0), some (vI x1), some (vI x2)] [] L = rnG call 215 F 22 [some (vR 0), some (vI x1), some (vI x2)] [vI 0] L := rfl
set_option maxRecDepth 100000 in
theorem b215_7 (call : QC FA) (ls : List (Option PV)) (L : QH FA) (F : Nat) : rnG call 215 (F + 1) 22 ls [vI 0] L = some (some (vI 0), L) := rfl
set_option maxRecDepth 100000 in
theorem b215_8 (call : QC FA) (x1 : Int32) (x2 : Int32) (L : QH FA) (F : Nat) : rnG call 215 (F + 4) 7 [some (vR 0), some (vI x1), some (vI x2)] [] L = rnG call 215 F 11 [some (vR 0), some (vI x1), some (vI x2)] [vI 2, vI 0, vI x2, vR 0] L := rfl
set_option maxRecDepth 100000 in
theorem b215_9 (call : QC FA) (a0 : Int32) (a1 : Int32) (a2 : Int32) (ls : List (Option PV)) (z : Nat → Int32) (f : Nat → FA) (F : Nat) : rnG call 215 (F + 1) 11 ls [vI a2, vI a1, vI a0, vR 0] (LR z f) = cbd (call 47 [vR 0, vI a0, vI a1, vI a2] (LR z f)) (fun r L' => rnG call 215 F 12 ls (r.toList ++ []) L') := pcY (ih := rnG call 215 F) (call := call) (a := 47) (b := 3) (v := 12) (t := 12) (x := 0) (ls := ls) (As := [vI a0, vI a1, vI a2]) (st' := []) (L := LR z f) rfl rfl rfl
set_option maxRecDepth 100000 in
theorem b215_10 (call : QC FA) (x : Int32) (ls : List (Option PV)) (L : QH FA) (F : Nat) : rnG call 215 (F + 1) 12 ls [vI x] L = bif pcmp 0 x 0 then rnG call 215 F 21 ls [] L else rnG call 215 F 13 ls [] L := rfl
set_option maxRecDepth 100000 in
theorem b215_11 (call : QC FA) (x1 : Int32) (x2 : Int32) (z : Nat → Int32) (f : Nat → FA) (F : Nat) : rnG call 215 (F + 5) 13 [some (vR 0), some (vI x1), some (vI x2)] [] (LR z f) = rnG call 215 F 18 [some (vR 0), some (vI x1), some (vI x2)] [vI (27 + x1), vR 1] (LR z f) := rfl
set_option maxRecDepth 100000 in
theorem b215_12 (call : QC FA) (x : Int32) (ls : List (Option PV)) (z : Nat → Int32) (f : Nat → FA) (F : Nat) : rnG call 215 (F + 1) 18 ls [vI x, vR 1] (LR z f) = bif (Nat.beq 0 0 && pin x 499) then rnG call 215 F 19 ls [vI (f 1 (ix x))] (LR z f) else none := rfl
set_option maxRecDepth 100000 in
theorem b215_13 (call : QC FA) (x1 : Int32) (x2 : Int32) (s0 : Int32) (L : QH FA) (F : Nat) : rnG call 215 (F + 1) 19 [some (vR 0), some (vI x1), some (vI x2)] [vI s0] L = rnG call 215 F 20 [some (vR 0), some (vI x1), some (vI x2)] [vI x2, vI s0] L := rfl
set_option maxRecDepth 100000 in
theorem b215_14 (call : QC FA) (x y : Int32) (ls : List (Option PV)) (L : QH FA) (F : Nat) : rnG call 215 (F + 1) 20 ls [vI y, vI x] L = bif pcmp 1 x y then rnG call 215 F 23 ls [] L else rnG call 215 F 21 ls [] L := rfl
set_option maxRecDepth 100000 in
theorem b215_15 (call : QC FA) (x1 : Int32) (x2 : Int32) (L : QH FA) (F : Nat) : rnG call 215 (F + 1) 23 [some (vR 0), some (vI x1), some (vI x2)] [] L = rnG call 215 F 24 [some (vR 0), some (vI x1), some (vI x2)] [vR 0] L := rfl
set_option maxRecDepth 100000 in
theorem b215_16 (call : QC FA) (ls : List (Option PV)) (z : Nat → Int32) (f : Nat → FA) (F : Nat) : rnG call 215 (F + 1) 24 ls [vR 0] (LR z f) = cbd (call 230 [vR 0] (LR z f)) (fun r L' => rnG call 215 F 25 ls (r.toList ++ []) L') := pcY (ih := rnG call 215 F) (call := call) (a := 230) (b := 0) (v := 12) (t := 25) (x := 0) (ls := ls) (As := []) (st' := []) (L := LR z f) rfl rfl rfl
set_option maxRecDepth 100000 in
theorem b215_17 (call : QC FA) (x1 : Int32) (x2 : Int32) (z : Nat → Int32) (f : Nat → FA) (F : Nat) : rnG call 215 (F + 6) 25 [some (vR 0), some (vI x1), some (vI x2)] [] (LR z f) = rnG call 215 F 31 [some (vR 0), some (vI x1), some (vI x2)] [vI x2, vI (27 + x1), vR 1] (LR z f) := rfl
set_option maxRecDepth 100000 in
theorem b215_18 (call : QC FA) (x y : Int32) (ls : List (Option PV)) (z : Nat → Int32) (f : Nat → FA) (F : Nat) : rnG call 215 (F + 1) 31 ls [vI y, vI x, vR 1] (LR z f) = bif (Nat.beq 0 0 && pin x 499) then rnG call 215 F 32 ls [] (LR z (uA f 1 (upd (f 1) (ix x) y))) else none := rfl
set_option maxRecDepth 100000 in
theorem b215_19 (call : QC FA) (x1 : Int32) (x2 : Int32) (L : QH FA) (F : Nat) : rnG call 215 (F + 1) 32 [some (vR 0), some (vI x1), some (vI x2)] [] L = rnG call 215 F 33 [some (vR 0), some (vI x1), some (vI x2)] [vI 1] L := rfl
set_option maxRecDepth 100000 in
theorem b215_20 (call : QC FA) (ls : List (Option PV)) (L : QH FA) (F : Nat) : rnG call 215 (F + 1) 33 ls [vI 1] L = some (some (vI 1), L) := rfl
theorem vc215_0 (d : Nat) (x1 : Int32) (x2 : Int32) (z : Nat → Int32) (f : Nat → FA) (res : Option PV × QH FA) (H : (∃ (r1 : Int32) (z1 : Nat → Int32) (f1 : Nat → FA), (mcall (d + 2)) 227 [vR 0, vI x1] (LR (uZ z 0 0) f) = some (some (vI r1), LR z1 f1) ∧ ((r1 = 0 → res = (some (vI 0), LR z1 f1)) ∧ (¬ r1 = 0 → (((0 ≤ I x2 ∧ I x2 ≤ 2) → (pin (27 + x1) 499 = true ∧ ((¬ f1 1 (ix (27 + x1)) = x2 → (∃ (z2 : Nat → Int32) (f2 : Nat → FA), (mcall (d + 2)) 230 [vR 0] (LR z1 f1) = some (none, LR z2 f2) ∧ (pin (27 + x1) 499 = true ∧ res = (some (vI 1), LR z2 (uA f2 1 (upd (f2 1) (ix (27 + x1)) x2)))))) ∧ (f1 1 (ix (27 + x1)) = x2 → res = (some (vI 0), LR z1 f1))))) ∧ ((¬ (0 ≤ I x2 ∧ I x2 ≤ 2)) → res = (some (vI 0), LR z1 f1))))))) : RC (mcall (d + 2)) (mP 215) 0 [some (vR 0), some (vI x1), some (vI x2)] [] (LR z f) res := by
  refine rc_b (i' := 2) (ls' := [some (vR 0), some (vI x1), some (vI x2)]) (st' := [vI 0, vR 0]) (L' := LR z f) 2 (b215_1 (mcall (d + 2)) x1 x2 _) ?_
  refine rc_b (i' := 3) (ls' := [some (vR 0), some (vI x1), some (vI x2)]) (st' := []) (L' := LR (uZ z 0 0) f) 1 (b215_2 (mcall (d + 2)) 0 _ z f) ?_
  refine rc_b (i' := 5) (ls' := [some (vR 0), some (vI x1), some (vI x2)]) (st' := [vI x1, vR 0]) (L' := LR (uZ z 0 0) f) 2 (b215_3 (mcall (d + 2)) x1 x2 _) ?_
  obtain ⟨r1, z1, f1, hc, H⟩ := H
  refine rc_call (t := 6) (ls' := [some (vR 0), some (vI x1), some (vI x2)]) (st' := []) (b215_4 (mcall (d + 2)) x1 _ (uZ z 0 0) f) hc ?_
  show RC (mcall (d + 2)) (mP 215) 6 [some (vR 0), some (vI x1), some (vI x2)] [vI r1] (LR z1 f1) res
  refine rc_if (it := 21) (ie := 7) (ls' := [some (vR 0), some (vI x1), some (vI x2)]) (st' := []) (b215_5 (mcall (d + 2)) r1 _ _) (fun q1 => ?_) (fun q1 => ?_)
  · have H := H.1 (cI0t q1)
    refine rc_b (i' := 22) (ls' := [some (vR 0), some (vI x1), some (vI x2)]) (st' := [vI 0]) (L' := LR z1 f1) 1 (b215_6 (mcall (d + 2)) x1 x2 _) ?_
    subst H
    exact rc_ret (b215_7 (mcall (d + 2)) _ _)
  · have H := H.2 (cI0f q1)
    refine rc_b (i' := 11) (ls' := [some (vR 0), some (vI x1), some (vI x2)]) (st' := [vI 2, vI 0, vI x2, vR 0]) (L' := LR z1 f1) 4 (b215_8 (mcall (d + 2)) x1 x2 _) ?_
    refine rc_call (t := 12) (ls' := [some (vR 0), some (vI x1), some (vI x2)]) (st' := []) (b215_9 (mcall (d + 2)) x2 0 2 _ z1 f1) (isIn_r _ x2 0 2 z1 f1) ?_
    show RC (mcall (d + 2)) (mP 215) 12 [some (vR 0), some (vI x1), some (vI x2)] [vI (bI (0 ≤ I x2 ∧ I x2 ≤ 2))] (LR z1 f1) res
    refine rc_bz (it := 21) (ie := 13) (ls' := [some (vR 0), some (vI x1), some (vI x2)]) (st' := []) (b215_10 (mcall (d + 2)) (bI (0 ≤ I x2 ∧ I x2 ≤ 2)) _ _) (fun q2 => ?_) (fun q2 => ?_)
    · have H := H.2 q2
      refine rc_b (i' := 22) (ls' := [some (vR 0), some (vI x1), some (vI x2)]) (st' := [vI 0]) (L' := LR z1 f1) 1 (b215_6 (mcall (d + 2)) x1 x2 _) ?_
      subst H
      exact rc_ret (b215_7 (mcall (d + 2)) _ _)
    · have H := H.1 q2
      refine rc_b (i' := 18) (ls' := [some (vR 0), some (vI x1), some (vI x2)]) (st' := [vI (27 + x1), vR 1]) (L' := LR z1 f1) 5 (b215_11 (mcall (d + 2)) x1 x2 z1 f1) ?_
      obtain ⟨g1, H⟩ := H
      refine rc_g (i' := 19) (ls' := [some (vR 0), some (vI x1), some (vI x2)]) (st' := [vI (f1 1 (ix (27 + x1)))]) (L' := LR z1 f1) (b215_12 (mcall (d + 2)) (27 + x1) _ z1 f1) (pinG g1) ?_
      refine rc_b (i' := 20) (ls' := [some (vR 0), some (vI x1), some (vI x2)]) (st' := [vI x2, vI (f1 1 (ix (27 + x1)))]) (L' := LR z1 f1) 1 (b215_13 (mcall (d + 2)) x1 x2 (f1 1 (ix (27 + x1))) _) ?_
      refine rc_if (it := 23) (ie := 21) (ls' := [some (vR 0), some (vI x1), some (vI x2)]) (st' := []) (b215_14 (mcall (d + 2)) (f1 1 (ix (27 + x1))) x2 _ _) (fun q3 => ?_) (fun q3 => ?_)
      · have H := H.1 (cI1t q3)
        refine rc_b (i' := 24) (ls' := [some (vR 0), some (vI x1), some (vI x2)]) (st' := [vR 0]) (L' := LR z1 f1) 1 (b215_15 (mcall (d + 2)) x1 x2 _) ?_
        obtain ⟨z2, f2, hc, H⟩ := H
        refine rc_call (t := 25) (ls' := [some (vR 0), some (vI x1), some (vI x2)]) (st' := []) (b215_16 (mcall (d + 2)) _ z1 f1) hc ?_
        show RC (mcall (d + 2)) (mP 215) 25 [some (vR 0), some (vI x1), some (vI x2)] [] (LR z2 f2) res
        refine rc_b (i' := 31) (ls' := [some (vR 0), some (vI x1), some (vI x2)]) (st' := [vI x2, vI (27 + x1), vR 1]) (L' := LR z2 f2) 6 (b215_17 (mcall (d + 2)) x1 x2 z2 f2) ?_
        obtain ⟨g1, H⟩ := H
        refine rc_g (i' := 32) (ls' := [some (vR 0), some (vI x1), some (vI x2)]) (st' := []) (L' := LR z2 (uA f2 1 (upd (f2 1) (ix (27 + x1)) x2))) (b215_18 (mcall (d + 2)) (27 + x1) x2 _ z2 f2) (pinG g1) ?_
        refine rc_b (i' := 33) (ls' := [some (vR 0), some (vI x1), some (vI x2)]) (st' := [vI 1]) (L' := LR z2 (uA f2 1 (upd (f2 1) (ix (27 + x1)) x2))) 1 (b215_19 (mcall (d + 2)) x1 x2 _) ?_
        subst H
        exact rc_ret (b215_20 (mcall (d + 2)) _ _)
      · have H := H.2 (cI1f q3)
        refine rc_b (i' := 22) (ls' := [some (vR 0), some (vI x1), some (vI x2)]) (st' := [vI 0]) (L' := LR z1 f1) 1 (b215_6 (mcall (d + 2)) x1 x2 _) ?_
        subst H
        exact rc_ret (b215_7 (mcall (d + 2)) _ _)
set_option maxRecDepth 100000 in
theorem b217_1 (call : QC FA) (x1 : Int32) (o2 : Option PV) (o3 : Option PV) (L : QH FA) (F : Nat) : rnG call 217 (F + 2) 0 [some (vR 0), some (vI x1), o2, o3] [] L = rnG call 217 F 2 [some (vR 0), some (vI x1), o2, o3] [vI 0, vR 0] L := rfl
set_option maxRecDepth 100000 in
theorem b217_2 (call : QC FA) (y : Int32) (ls : List (Option PV)) (z : Nat → Int32) (f : Nat → FA) (F : Nat) : rnG call 217 (F + 1) 2 ls [vI y, vR 0] (LR z f) = rnG call 217 F 3 ls [] (LR (uZ z 0 y) f) := rfl
set_option maxRecDepth 100000 in
theorem b217_3 (call : QC FA) (x1 : Int32) (o2 : Option PV) (o3 : Option PV) (L : QH FA) (F : Nat) : rnG call 217 (F + 4) 3 [some (vR 0), some (vI x1), o2, o3] [] L = rnG call 217 F 7 [some (vR 0), some (vI x1), o2, o3] [vI 60, vI 1, vI x1, vR 0] L := rfl
set_option maxRecDepth 100000 in
theorem b217_4 (call : QC FA) (a0 : Int32) (a1 : Int32) (a2 : Int32) (ls : List (Option PV)) (z : Nat → Int32) (f : Nat → FA) (F : Nat) : rnG call 217 (F + 1) 7 ls [vI a2, vI a1, vI a0, vR 0] (LR z f) = cbd (call 47 [vR 0, vI a0, vI a1, vI a2] (LR z f)) (fun r L' => rnG call 217 F 8 ls (r.toList ++ []) L') := pcY (ih := rnG call 217 F) (call := call) (a := 47) (b := 3) (v := 12) (t := 8) (x := 0) (ls := ls) (As := [vI a0, vI a1, vI a2]) (st' := []) (L := LR z f) rfl rfl rfl
set_option maxRecDepth 100000 in
theorem b217_5 (call : QC FA) (x : Int32) (ls : List (Option PV)) (L : QH FA) (F : Nat) : rnG call 217 (F + 1) 8 ls [vI x] L = bif pcmp 0 x 0 then rnG call 217 F 24 ls [] L else rnG call 217 F 9 ls [] L := rfl
set_option maxRecDepth 100000 in
theorem b217_6 (call : QC FA) (x1 : Int32) (o2 : Option PV) (o3 : Option PV) (L : QH FA) (F : Nat) : rnG call 217 (F + 1) 24 [some (vR 0), some (vI x1), o2, o3] [] L = rnG call 217 F 25 [some (vR 0), some (vI x1), o2, o3] [vI ((-1))] L := rfl
set_option maxRecDepth 100000 in
theorem b217_7 (call : QC FA) (x : Int32) (ls : List (Option PV)) (L : QH FA) (F : Nat) : rnG call 217 (F + 1) 25 ls [vI x] L = some (some (vI x), L) := rfl
set_option maxRecDepth 100000 in
theorem b217_8 (call : QC FA) (x1 : Int32) (o2 : Option PV) (o3 : Option PV) (z : Nat → Int32) (f : Nat → FA) (F : Nat) : rnG call 217 (F + 3) 9 [some (vR 0), some (vI x1), o2, o3] [] (LR z f) = rnG call 217 F 12 [some (vR 0), some (vI x1), o2, o3] [vI 0, vR 1] (LR z f) := rfl
set_option maxRecDepth 100000 in
theorem b217_9 (call : QC FA) (x : Int32) (ls : List (Option PV)) (z : Nat → Int32) (f : Nat → FA) (F : Nat) : rnG call 217 (F + 1) 12 ls [vI x, vR 1] (LR z f) = bif (Nat.beq 0 0 && pin x 499) then rnG call 217 F 13 ls [vI (f 1 (ix x))] (LR z f) else none := rfl
set_option maxRecDepth 100000 in
theorem b217_10 (call : QC FA) (x1 : Int32) (o2 : Option PV) (o3 : Option PV) (s0 : Int32) (z : Nat → Int32) (f : Nat → FA) (F : Nat) : rnG call 217 (F + 3) 13 [some (vR 0), some (vI x1), o2, o3] [vI s0] (LR z f) = rnG call 217 F 16 [some (vR 0), some (vI x1), o2, o3] [vI 1, vR 1, vI s0] (LR z f) := rfl
set_option maxRecDepth 100000 in
theorem b217_11 (call : QC FA) (x : Int32) (s0 : Int32) (ls : List (Option PV)) (z : Nat → Int32) (f : Nat → FA) (F : Nat) : rnG call 217 (F + 1) 16 ls [vI x, vR 1, vI s0] (LR z f) = bif (Nat.beq 0 0 && pin x 499) then rnG call 217 F 17 ls [vI (f 1 (ix x)), vI s0] (LR z f) else none := rfl
set_option maxRecDepth 100000 in
theorem b217_12 (call : QC FA) (x1 : Int32) (o2 : Option PV) (o3 : Option PV) (s0 : Int32) (s1 : Int32) (L : QH FA) (F : Nat) : rnG call 217 (F + 3) 17 [some (vR 0), some (vI x1), o2, o3] [vI s0, vI s1] L = rnG call 217 F 20 [some (vR 0), some (vI x1), o2, o3] [vI 12, vI (s0 + x1), vI s1] L := rfl
set_option maxRecDepth 100000 in
theorem b217_13 (call : QC FA) (x y : Int32) (s0 : Int32) (ls : List (Option PV)) (L : QH FA) (F : Nat) : rnG call 217 (F + 1) 20 ls [vI y, vI x, vI s0] L = bif pcmp 1 y 0 then rnG call 217 F 21 ls [vI (x / y), vI s0] L else none := rfl
set_option maxRecDepth 100000 in
theorem b217_14 (call : QC FA) (x1 : Int32) (o2 : Option PV) (o3 : Option PV) (s0 : Int32) (s1 : Int32) (L : QH FA) (F : Nat) : rnG call 217 (F + 2) 21 [some (vR 0), some (vI x1), o2, o3] [vI s0, vI s1] L = rnG call 217 F 23 [some (vR 0), some (vI x1), o2, o3] [vI 9990, vI (s1 + s0)] L := rfl
set_option maxRecDepth 100000 in
theorem b217_15 (call : QC FA) (x y : Int32) (ls : List (Option PV)) (L : QH FA) (F : Nat) : rnG call 217 (F + 1) 23 ls [vI y, vI x] L = bif pcmp 5 x y then rnG call 217 F 26 ls [] L else rnG call 217 F 24 ls [] L := rfl
set_option maxRecDepth 100000 in
theorem b217_16 (call : QC FA) (x1 : Int32) (o2 : Option PV) (o3 : Option PV) (L : QH FA) (F : Nat) : rnG call 217 (F + 4) 26 [some (vR 0), some (vI x1), o2, o3] [] L = rnG call 217 F 30 [some (vR 0), some (vI x1), some (vI 0), some (vI 0)] [] L := rfl
theorem vc217_0 (d : Nat) (x1 : Int32) (o2 : Option PV) (o3 : Option PV) (z : Nat → Int32) (f : Nat → FA) (res : Option PV × QH FA) (H : (((1 ≤ I x1 ∧ I x1 ≤ 60) → (pin 0 499 = true ∧ (pin 1 499 = true ∧ (¬ (12 : Int32) = 0 ∧ ((I ((f 1 (ix 0)) + (((f 1 (ix 1)) + x1) / 12)) ≤ 9990 → RC (mcall (d + 7)) (mP 217) 30 [some (vR 0), some (vI x1), some (vI 0), some (vI 0)] [] (LR (uZ z 0 0) f) res) ∧ (9990 < I ((f 1 (ix 0)) + (((f 1 (ix 1)) + x1) / 12)) → res = (some (vI ((-1))), LR (uZ z 0 0) f))))))) ∧ ((¬ (1 ≤ I x1 ∧ I x1 ≤ 60)) → res = (some (vI ((-1))), LR (uZ z 0 0) f)))) : RC (mcall (d + 7)) (mP 217) 0 [some (vR 0), some (vI x1), o2, o3] [] (LR z f) res := by
  refine rc_b (i' := 2) (ls' := [some (vR 0), some (vI x1), o2, o3]) (st' := [vI 0, vR 0]) (L' := LR z f) 2 (b217_1 (mcall (d + 7)) x1 o2 o3 _) ?_
  refine rc_b (i' := 3) (ls' := [some (vR 0), some (vI x1), o2, o3]) (st' := []) (L' := LR (uZ z 0 0) f) 1 (b217_2 (mcall (d + 7)) 0 _ z f) ?_
  refine rc_b (i' := 7) (ls' := [some (vR 0), some (vI x1), o2, o3]) (st' := [vI 60, vI 1, vI x1, vR 0]) (L' := LR (uZ z 0 0) f) 4 (b217_3 (mcall (d + 7)) x1 o2 o3 _) ?_
  refine rc_call (t := 8) (ls' := [some (vR 0), some (vI x1), o2, o3]) (st' := []) (b217_4 (mcall (d + 7)) x1 1 60 _ (uZ z 0 0) f) (isIn_r _ x1 1 60 (uZ z 0 0) f) ?_
  show RC (mcall (d + 7)) (mP 217) 8 [some (vR 0), some (vI x1), o2, o3] [vI (bI (1 ≤ I x1 ∧ I x1 ≤ 60))] (LR (uZ z 0 0) f) res
  refine rc_bz (it := 24) (ie := 9) (ls' := [some (vR 0), some (vI x1), o2, o3]) (st' := []) (b217_5 (mcall (d + 7)) (bI (1 ≤ I x1 ∧ I x1 ≤ 60)) _ _) (fun q1 => ?_) (fun q1 => ?_)
  · have H := H.2 q1
    refine rc_b (i' := 25) (ls' := [some (vR 0), some (vI x1), o2, o3]) (st' := [vI ((-1))]) (L' := LR (uZ z 0 0) f) 1 (b217_6 (mcall (d + 7)) x1 o2 o3 _) ?_
    subst H
    exact rc_ret (b217_7 (mcall (d + 7)) _ _ _)
  · have H := H.1 q1
    refine rc_b (i' := 12) (ls' := [some (vR 0), some (vI x1), o2, o3]) (st' := [vI 0, vR 1]) (L' := LR (uZ z 0 0) f) 3 (b217_8 (mcall (d + 7)) x1 o2 o3 (uZ z 0 0) f) ?_
    obtain ⟨g1, H⟩ := H
    refine rc_g (i' := 13) (ls' := [some (vR 0), some (vI x1), o2, o3]) (st' := [vI (f 1 (ix 0))]) (L' := LR (uZ z 0 0) f) (b217_9 (mcall (d + 7)) 0 _ (uZ z 0 0) f) (pinG g1) ?_
    refine rc_b (i' := 16) (ls' := [some (vR 0), some (vI x1), o2, o3]) (st' := [vI 1, vR 1, vI (f 1 (ix 0))]) (L' := LR (uZ z 0 0) f) 3 (b217_10 (mcall (d + 7)) x1 o2 o3 (f 1 (ix 0)) (uZ z 0 0) f) ?_
    obtain ⟨g1, H⟩ := H
    refine rc_g (i' := 17) (ls' := [some (vR 0), some (vI x1), o2, o3]) (st' := [vI (f 1 (ix 1)), vI (f 1 (ix 0))]) (L' := LR (uZ z 0 0) f) (b217_11 (mcall (d + 7)) 1 (f 1 (ix 0)) _ (uZ z 0 0) f) (pinG g1) ?_
    refine rc_b (i' := 20) (ls' := [some (vR 0), some (vI x1), o2, o3]) (st' := [vI 12, vI ((f 1 (ix 1)) + x1), vI (f 1 (ix 0))]) (L' := LR (uZ z 0 0) f) 3 (b217_12 (mcall (d + 7)) x1 o2 o3 (f 1 (ix 1)) (f 1 (ix 0)) _) ?_
    obtain ⟨g1, H⟩ := H
    refine rc_g (i' := 21) (ls' := [some (vR 0), some (vI x1), o2, o3]) (st' := [vI (((f 1 (ix 1)) + x1) / 12), vI (f 1 (ix 0))]) (L' := LR (uZ z 0 0) f) (b217_13 (mcall (d + 7)) ((f 1 (ix 1)) + x1) 12 (f 1 (ix 0)) _ _) (cmp_ne.trans (decide_eq_true g1)) ?_
    refine rc_b (i' := 23) (ls' := [some (vR 0), some (vI x1), o2, o3]) (st' := [vI 9990, vI ((f 1 (ix 0)) + (((f 1 (ix 1)) + x1) / 12))]) (L' := LR (uZ z 0 0) f) 2 (b217_14 (mcall (d + 7)) x1 o2 o3 (((f 1 (ix 1)) + x1) / 12) (f 1 (ix 0)) _) ?_
    refine rc_if (it := 26) (ie := 24) (ls' := [some (vR 0), some (vI x1), o2, o3]) (st' := []) (b217_15 (mcall (d + 7)) ((f 1 (ix 0)) + (((f 1 (ix 1)) + x1) / 12)) 9990 _ _) (fun q2 => ?_) (fun q2 => ?_)
    · have H := H.1 (cI5t q2 rfl rfl)
      refine rc_b (i' := 30) (ls' := [some (vR 0), some (vI x1), some (vI 0), some (vI 0)]) (st' := []) (L' := LR (uZ z 0 0) f) 4 (b217_16 (mcall (d + 7)) x1 o2 o3 _) ?_
      exact H
    · have H := H.2 (cI5f q2 rfl rfl)
      refine rc_b (i' := 25) (ls' := [some (vR 0), some (vI x1), o2, o3]) (st' := [vI ((-1))]) (L' := LR (uZ z 0 0) f) 1 (b217_6 (mcall (d + 7)) x1 o2 o3 _) ?_
      subst H
      exact rc_ret (b217_7 (mcall (d + 7)) _ _ _)
set_option maxRecDepth 100000 in
theorem bc30_217_1 (call : QC FA) (x1 : Int32) (x2 : Int32) (x3 : Int32) (L : QH FA) (F : Nat) : rnG call 217 (F + 2) 30 [some (vR 0), some (vI x1), some (vI x2), some (vI x3)] [] L = rnG call 217 F 32 [some (vR 0), some (vI x1), some (vI x2), some (vI x3)] [vI x1, vI x3] L := rfl
set_option maxRecDepth 100000 in
theorem bc30_217_2 (call : QC FA) (x y : Int32) (ls : List (Option PV)) (L : QH FA) (F : Nat) : rnG call 217 (F + 1) 32 ls [vI y, vI x] L = bif pcmp 3 x y then rnG call 217 F 42 ls [] L else rnG call 217 F 33 ls [] L := rfl
set_option maxRecDepth 100000 in
theorem bc30_217_3 (call : QC FA) (x1 : Int32) (x2 : Int32) (x3 : Int32) (L : QH FA) (F : Nat) : rnG call 217 (F + 1) 42 [some (vR 0), some (vI x1), some (vI x2), some (vI x3)] [] L = rnG call 217 F 43 [some (vR 0), some (vI x1), some (vI x2), some (vI x3)] [vI x2] L := rfl
set_option maxRecDepth 100000 in
theorem bc30_217_4 (call : QC FA) (x : Int32) (ls : List (Option PV)) (L : QH FA) (F : Nat) : rnG call 217 (F + 1) 43 ls [vI x] L = some (some (vI x), L) := rfl
set_option maxRecDepth 100000 in
theorem bc30_217_5 (call : QC FA) (x1 : Int32) (x2 : Int32) (x3 : Int32) (L : QH FA) (F : Nat) : rnG call 217 (F + 1) 33 [some (vR 0), some (vI x1), some (vI x2), some (vI x3)] [] L = rnG call 217 F 34 [some (vR 0), some (vI x1), some (vI x2), some (vI x3)] [vR 0] L := rfl
set_option maxRecDepth 100000 in
theorem bc30_217_6 (call : QC FA) (ls : List (Option PV)) (z : Nat → Int32) (f : Nat → FA) (F : Nat) : rnG call 217 (F + 1) 34 ls [vR 0] (LR z f) = cbd (call 230 [vR 0] (LR z f)) (fun r L' => rnG call 217 F 35 ls (r.toList ++ []) L') := pcY (ih := rnG call 217 F) (call := call) (a := 230) (b := 0) (v := 12) (t := 35) (x := 0) (ls := ls) (As := []) (st' := []) (L := LR z f) rfl rfl rfl
set_option maxRecDepth 100000 in
theorem bc30_217_7 (call : QC FA) (x1 : Int32) (x2 : Int32) (x3 : Int32) (L : QH FA) (F : Nat) : rnG call 217 (F + 2) 35 [some (vR 0), some (vI x1), some (vI x2), some (vI x3)] [] L = rnG call 217 F 37 [some (vR 0), some (vI x1), some (vI x2), some (vI x3)] [vR 0, vI x2] L := rfl
set_option maxRecDepth 100000 in
theorem bc30_217_8 (call : QC FA) (s0 : Int32) (ls : List (Option PV)) (z : Nat → Int32) (f : Nat → FA) (F : Nat) : rnG call 217 (F + 1) 37 ls [vR 0, vI s0] (LR z f) = cbd (call 214 [vR 0] (LR z f)) (fun r L' => rnG call 217 F 38 ls (r.toList ++ [vI s0]) L') := pcY (ih := rnG call 217 F) (call := call) (a := 214) (b := 0) (v := 12) (t := 38) (x := 0) (ls := ls) (As := []) (st' := [vI s0]) (L := LR z f) rfl rfl rfl
set_option maxRecDepth 100000 in
theorem bc30_217_9 (call : QC FA) (x1 : Int32) (x2 : Int32) (x3 : Int32) (s0 : Int32) (s1 : Int32) (L : QH FA) (F : Nat) : rnG call 217 (F + 2) 38 [some (vR 0), some (vI x1), some (vI x2), some (vI x3)] [vI s0, vI s1] L = rnG call 217 F 40 [some (vR 0), some (vI x1), some (vI (s1 + s0)), some (vI x3)] [] L := rfl
set_option maxRecDepth 100000 in
theorem bc30_217_10 (call : QC FA) (x1 : Int32) (x2 : Int32) (x3 : Int32) (L : QH FA) (F : Nat) : rnG call 217 (F + 1) 40 [some (vR 0), some (vI x1), some (vI x2), some (vI x3)] [] L = rnG call 217 F 41 [some (vR 0), some (vI x1), some (vI x2), some (vI (x3 + 1))] [] L := rfl
set_option maxRecDepth 100000 in
theorem bc30_217_11 (call : QC FA) (x1 : Int32) (x2 : Int32) (x3 : Int32) (L : QH FA) (F : Nat) : rnG call 217 (F + 1) 41 [some (vR 0), some (vI x1), some (vI x2), some (vI x3)] [] L = rnG call 217 F 30 [some (vR 0), some (vI x1), some (vI x2), some (vI x3)] [] L := rfl
theorem vcc30_217_30 (d : Nat) (x1 : Int32) (x2 : Int32) (x3 : Int32) (z : Nat → Int32) (f : Nat → FA) (res : Option PV × QH FA) (H : ((I x1 ≤ I x3 → res = (some (vI x2), LR z f)) ∧ (I x3 < I x1 → (∃ (z1 : Nat → Int32) (f1 : Nat → FA), (mcall (d + 7)) 230 [vR 0] (LR z f) = some (none, LR z1 f1) ∧ (∃ (r2 : Int32) (z2 : Nat → Int32) (f2 : Nat → FA), (mcall (d + 7)) 214 [vR 0] (LR z1 f1) = some (some (vI r2), LR z2 f2) ∧ RC (mcall (d + 7)) (mP 217) 30 [some (vR 0), some (vI x1), some (vI (x2 + r2)), some (vI (x3 + 1))] [] (LR z2 f2) res))))) : RC (mcall (d + 7)) (mP 217) 30 [some (vR 0), some (vI x1), some (vI x2), some (vI x3)] [] (LR z f) res := by
  refine rc_b (i' := 32) (ls' := [some (vR 0), some (vI x1), some (vI x2), some (vI x3)]) (st' := [vI x1, vI x3]) (L' := LR z f) 2 (bc30_217_1 (mcall (d + 7)) x1 x2 x3 _) ?_
  refine rc_if (it := 42) (ie := 33) (ls' := [some (vR 0), some (vI x1), some (vI x2), some (vI x3)]) (st' := []) (bc30_217_2 (mcall (d + 7)) x3 x1 _ _) (fun q1 => ?_) (fun q1 => ?_)
  · have H := H.1 (cI3t q1 rfl rfl)
    refine rc_b (i' := 43) (ls' := [some (vR 0), some (vI x1), some (vI x2), some (vI x3)]) (st' := [vI x2]) (L' := LR z f) 1 (bc30_217_3 (mcall (d + 7)) x1 x2 x3 _) ?_
    subst H
    exact rc_ret (bc30_217_4 (mcall (d + 7)) _ _ _)
  · have H := H.2 (cI3f q1 rfl rfl)
    refine rc_b (i' := 34) (ls' := [some (vR 0), some (vI x1), some (vI x2), some (vI x3)]) (st' := [vR 0]) (L' := LR z f) 1 (bc30_217_5 (mcall (d + 7)) x1 x2 x3 _) ?_
    obtain ⟨z1, f1, hc, H⟩ := H
    refine rc_call (t := 35) (ls' := [some (vR 0), some (vI x1), some (vI x2), some (vI x3)]) (st' := []) (bc30_217_6 (mcall (d + 7)) _ z f) hc ?_
    show RC (mcall (d + 7)) (mP 217) 35 [some (vR 0), some (vI x1), some (vI x2), some (vI x3)] [] (LR z1 f1) res
    refine rc_b (i' := 37) (ls' := [some (vR 0), some (vI x1), some (vI x2), some (vI x3)]) (st' := [vR 0, vI x2]) (L' := LR z1 f1) 2 (bc30_217_7 (mcall (d + 7)) x1 x2 x3 _) ?_
    obtain ⟨r2, z2, f2, hc, H⟩ := H
    refine rc_call (t := 38) (ls' := [some (vR 0), some (vI x1), some (vI x2), some (vI x3)]) (st' := [vI x2]) (bc30_217_8 (mcall (d + 7)) x2 _ z1 f1) hc ?_
    show RC (mcall (d + 7)) (mP 217) 38 [some (vR 0), some (vI x1), some (vI x2), some (vI x3)] [vI r2, vI x2] (LR z2 f2) res
    refine rc_b (i' := 40) (ls' := [some (vR 0), some (vI x1), some (vI (x2 + r2)), some (vI x3)]) (st' := []) (L' := LR z2 f2) 2 (bc30_217_9 (mcall (d + 7)) x1 x2 x3 r2 x2 _) ?_
    refine rc_b (i' := 41) (ls' := [some (vR 0), some (vI x1), some (vI (x2 + r2)), some (vI (x3 + 1))]) (st' := []) (L' := LR z2 f2) 1 (bc30_217_10 (mcall (d + 7)) x1 (x2 + r2) x3 _) ?_
    refine rc_b (i' := 30) (ls' := [some (vR 0), some (vI x1), some (vI (x2 + r2)), some (vI (x3 + 1))]) (st' := []) (L' := LR z2 f2) 1 (bc30_217_11 (mcall (d + 7)) x1 (x2 + r2) (x3 + 1) _) ?_
    exact H
theorem mVoter (d : Nat) (x : Int32) {nv : Nat} (hn : nv ≤ 20) {z : Nat → Int32} {r : Nat → FA} (hz : z 6 = nI nv) : mcall (d + 1) 227 [vR 0, vI x] (LR z r) = some (some (vI (mk1 (0 ≤ I x ∧ I x < nv))), LR z r) := by
  have go : ∀ res, _ → mcall (d + 1) 227 [vR 0, vI x] (LR z r) = some res := fun res H => mcall_i (mq227 (cu := [])).2.2 rfl (vc227_0 (mcall d) x z r res H)
  have iz : I (z 6) = nv := by rw [hz]; exact I_nI (by omega)
  refine go _ ⟨fun q => ?_, fun q => ⟨fun q2 => ?_, fun q2 => ?_⟩⟩
  · rw [mk1_f (by omega)]
  · rw [mk1_f (by omega)]
  · rw [mk1_t (by omega)]
/-- the world, the texts, the ring: both sides -/
def WR (W : TXW) (L : LAW) (n nv nw ns : Nat) (z : Nat → Int32) (f : Nat → FA) (zr : Nat → Int32) (r : Nat → FA) : Prop := RLn nv z f zr r ∧ LRM r L n ∧ WYR W nv nw zr (r 18) ∧ SKR W nv ns zr (r 19) ∧ zr 6 = nI nv
/-- what a method of the play leaves alone -/
def HF (z : Nat → Int32) (f : Nat → FA) (zr : Nat → Int32) (r : Nat → FA) (z' : Nat → Int32) (f' : Nat → FA) (zr' : Nat → Int32) (r' : Nat → FA) : Prop := (∀ j, (j < 22 ∨ (29 < j ∧ j < 122)) → z' j = z j) ∧ (∀ k, k < 14 → k ∉ [3, 4, 6, 9, 10, 11] → f' k = f k) ∧ (∀ j, j ≠ 0 → j ≠ 3 → zr' j = zr j) ∧ ∀ k, k ∉ [1, 2, 3, 4, 5, 6, 7, 21, 22] → r' k = r k
theorem HF.rfl {z : Nat → Int32} {f : Nat → FA} {zr : Nat → Int32} {r : Nat → FA} : HF z f zr r z f zr r := ⟨fun _ _ => Eq.refl _, fun _ _ _ => Eq.refl _, fun _ _ _ => Eq.refl _, fun _ _ => Eq.refl _⟩
theorem HF.trans {z z' z2 : Nat → Int32} {f f' f2 : Nat → FA} {zr zr' zr2 : Nat → Int32} {r r' r2 : Nat → FA} (h : HF z f zr r z' f' zr' r') (g : HF z' f' zr' r' z2 f2 zr2 r2) : HF z f zr r z2 f2 zr2 r2 := ⟨fun j hj => (g.1 j hj).trans (h.1 j hj), fun k h1 h2 => (g.2.1 k h1 h2).trans (h.2.1 k h1 h2), fun j h1 h2 => (g.2.2.1 j h1 h2).trans (h.2.2.1 j h1 h2), fun k hk => (g.2.2.2 k hk).trans (h.2.2.2 k hk)⟩
theorem FRn.hf {z z' : Nat → Int32} {f r f' r' : Nat → FA} (zr : Nat → Int32) (g : FRn z f r z' f' r') : HF z f zr r z' f' zr r' := ⟨fun j hj => g.1 j (by omega), fun k _ h => g.2.1 k h, fun _ _ _ => Eq.refl _, fun k hk => g.2.2 k (fun q => hk (by
  simp only [List.mem_cons, List.not_mem_nil, or_false] at q ⊢
  omega))⟩
theorem HF.z0 (z : Nat → Int32) (f : Nat → FA) (zr : Nat → Int32) (r : Nat → FA) : HF z f zr r z f (uZ zr 0 0) r := ⟨fun _ _ => Eq.refl _, fun _ _ _ => Eq.refl _, fun j h1 _ => uZ_n h1, fun _ _ => Eq.refl _⟩
theorem HF.kp {z z' : Nat → Int32} {f f' : Nat → FA} {zr zr' : Nat → Int32} {r r' : Nat → FA} (a1 : ∀ j, j < 122 → z' j = z j) (a2 : ∀ j, j < 14 → f' j = f j) (a3 : ∀ j, j ≠ 3 → zr' j = zr j) (a4 : ∀ j, j ≠ 2 → r' j = r j) : HF z f zr r z' f' zr' r' := ⟨fun j hj => a1 j (by omega), fun k h1 _ => a2 k h1, fun j _ h2 => a3 j h2, fun k hk => a4 k (fun q => hk (by rw [q]; decide))⟩
theorem LRM.hf {z z' : Nat → Int32} {f f' : Nat → FA} {zr zr' : Nat → Int32} {r r' : Nat → FA} {L : LAW} {n : Nat} (hM : LRM r L n) (g : HF z f zr r z' f' zr' r') : LRM r' L n := by
  have e : ∀ k, k ∉ [1, 2, 3, 4, 5, 6, 7, 21, 22] → r' k = r k := g.2.2.2
  unfold LRM
  rw [e 10 (by decide), e 11 (by decide), e 12 (by decide), e 13 (by decide), e 14 (by decide), e 15 (by decide), e 16 (by decide)]
  exact hM
theorem WR.hf {W : TXW} {L : LAW} {n nv nw ns : Nat} {z z' : Nat → Int32} {f f' : Nat → FA} {zr zr' : Nat → Int32} {r r' : Nat → FA} (h : WR W L n nv nw ns z f zr r) (hr : RLn nv z' f' zr' r') (g : HF z f zr r z' f' zr' r') : WR W L n nv nw ns z' f' zr' r' := by
  obtain ⟨-, h2, h3, h4, h5⟩ := h
  refine ⟨hr, h2.hf g, ?_, ?_, (g.2.2.1 6 (by decide) (by decide)).trans h5⟩
  · rw [g.2.2.2 18 (by decide)]
    unfold WYR
    rw [g.2.2.1 34 (by decide) (by decide)]
    exact h3
  · rw [g.2.2.2 19 (by decide)]
    unfold SKR
    rw [g.2.2.1 36 (by decide) (by decide)]
    exact h4
theorem RLn.z0 {nv : Nat} {z : Nat → Int32} {f : Nat → FA} {zr : Nat → Int32} {r : Nat → FA} (h : RLn nv z f zr r) : RLn nv z f (uZ zr 0 0) r := ⟨h.1, h.2.1, (uZ_n (by decide)).trans h.2.2⟩
theorem WR.z0 {W : TXW} {L : LAW} {n nv nw ns : Nat} {z : Nat → Int32} {f : Nat → FA} {zr : Nat → Int32} {r : Nat → FA} (h : WR W L n nv nw ns z f zr r) : WR W L n nv nw ns z f (uZ zr 0 0) r := h.hf h.1.z0 (HF.z0 z f zr r)
theorem RGA.z0 {c c2 k nv : Nat} {z zr : Nat → Int32} {f r : Nat → FA} (g : RGA c c2 k nv z f zr r) : RGA c c2 k nv z f (uZ zr 0 0) r := by
  obtain ⟨p, hp, hc, hc2, hk1, hk2, g1, g2, g3, g4⟩ := g
  exact ⟨p, hp, hc, hc2, hk1, hk2, g1, g2, (uZ_n (by decide)).trans g3, g4⟩
theorem RGA.fr {c c2 k nv : Nat} {z zr z' : Nat → Int32} {f r f' r' : Nat → FA} (g : RGA c c2 k nv z f zr r) (h : FRn z f r z' f' r') : RGA c c2 k nv z' f' zr r' := by
  obtain ⟨p, hp, hc, hc2, hk1, hk2, g1, g2, g3, g4⟩ := g
  refine ⟨p, hp, hc, hc2, hk1, hk2, (h.1 122 (by omega)).trans g1, (h.1 123 (by omega)).trans g2, g3, fun i hi => ?_⟩
  have nf : ∀ j, 14 ≤ j → f' j = f j := fun j hj => h.2.1 j (fun q => by
    simp only [List.mem_cons, List.not_mem_nil, or_false] at q
    omega)
  rw [h.2.2 2 (by decide), h.2.2 4 (by decide), h.2.2 5 (by decide), h.2.2 6 (by decide)]
  exact (g4 i hi).st (fun i' h1 h2 => h.1 _ (by omega)) (nf _ (by omega)) (nf _ (by omega))
theorem RGA.eq {c c2 k c' c2' k' nv : Nat} {z zr : Nat → Int32} {f r : Nat → FA} (g : RGA c c2 k nv z f zr r) (e1 : c' = c) (e2 : c2' = c2) (e3 : k' = k) : RGA c' c2' k' nv z f zr r := by
  subst e1
  subst e2
  subst e3
  exact g
theorem RGA.le {c c2 k nv : Nat} {z zr : Nat → Int32} {f r : Nat → FA} (g : RGA c c2 k nv z f zr r) : c ≤ 6 ∧ c2 ≤ 6 ∧ k ≤ 6 := by
  obtain ⟨p, hp, hc, hc2, hk1, hk2, -⟩ := g
  exact ⟨hc, hc2, by omega⟩
/-- one more row on the reference's side alone -/
theorem simKeepR (d' : Nat) {c c2 nv : Nat} {z zr : Nat → Int32} {f r : Nat → FA} (h : RLn nv z f zr r) (g : RGA c c2 0 nv z f zr r) : ∃ zr' r', mcall (d' + 3) 230 [vR 0] (LR zr r) = some (none, LR zr' r') ∧ RLn nv z f zr' r' ∧ RGA c (min (c2 + 1) 6) 0 nv z f zr' r' ∧ (∀ j, j ≠ 3 → zr' j = zr j) ∧ ∀ j, j ≠ 2 → r' j = r j := by
  obtain ⟨p, hp, hc, hc2, hk1, hk2, g1, g2, g3, g4⟩ := g
  obtain ⟨G, k1, -⟩ := mKeep d' hc2 (r := r) g3
  have rr : ∀ j, j ≠ 2 → uA r 2 G j = r j := fun j hj => uA_ne hj
  refine ⟨_, uA r 2 G, k1, ⟨?_, ?_, ?_⟩, ⟨p, hp, hc, by omega, by omega, by omega, g1, g2, uZ_s, fun i hi => absurd hi (Nat.not_lt_zero i)⟩, fun j hj => uZ_n hj, rr⟩
  · show CRo 2 nv z f (uA r 2 G 1) (uA r 2 G 4) (uA r 2 G 5) (uA r 2 G 6)
    rw [rr 1 (by decide), rr 4 (by decide), rr 5 (by decide), rr 6 (by decide)]
    exact h.1
  · intro j hj
    rw [rr 7 (by decide)]
    exact h.2.1 j hj
  · rw [uZ_n (by decide)]
    exact h.2.2
theorem cr_hand {nv v : Nat} (hv : v < nv) {z : Nat → Int32} {f r : Nat → FA} (x : Int32) (h : CRL 2 nv z f r) : CRL 2 nv z (uA f 3 (upd (f 3) (80 + v) x)) (uA r 1 (upd (r 1) (27 + v) x)) := by
  obtain ⟨hn, hs, ht, hm, hr⟩ := h
  have g : ∀ j, j ≠ 27 + v → upd (r 1) (27 + v) x j = r 1 j := fun j hj => pk_un hj
  refine ⟨hn, ?_, ?_, ?_, ?_⟩
  · rw [uA_self]
    unfold CRs
    rw [g 4 (by omega), g 1 (by omega), g 0 (by omega), g 5 (by omega), g 6 (by omega), g 2 (by omega), g 3 (by omega)]
    exact hs
  · show CRt nv (upd (f 3) (80 + v) x) (upd (r 1) (27 + v) x) (r 4) (r 5) (r 6)
    intro u hu
    obtain ⟨b1, b2, b3, b4, b5, b6, b7, b8, b9⟩ := ht u hu
    refine ⟨(pk_un (by omega)).trans b1, ((pk_un (by omega)).trans b2).trans (g _ (by omega)).symm, (pk_un (by omega)).trans b3, (pk_un (by omega)).trans b4, ?_, ((pk_un (by omega)).trans b6).trans (g _ (by omega)).symm, b7, b8, ?_⟩
    · by_cases q : u = v
      · subst q
        rw [pk_us, pk_us]
      · rw [pk_un (by omega), pk_un (by omega)]
        exact b5
    · rw [g _ (by omega)]
      exact b9
  · rw [uA_self]
    exact hm.cong (fun j hj => by rw [uA_ne (show (4 : Nat) ≠ 3 by decide)]) (fun j h1 h2 => g j (by omega))
  · rw [uA_self]
    unfold CRr
    rw [g 1 (by omega), g 3 (by omega)]
    exact hr
