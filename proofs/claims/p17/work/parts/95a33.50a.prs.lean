/-! a thumb left, the sum, what melts -/
set_option maxRecDepth 100000 in
theorem b249_1 (call : QC FA) (x1 : Int32) (x2 : Int32) (o3 : Option PV) (o4 : Option PV) (L : QH FA) (F : Nat) : rnG call 249 (F + 2) 0 [some (vR 0), some (vI x1), some (vI x2), o3, o4] [] L = rnG call 249 F 2 [some (vR 0), some (vI x1), some (vI x2), some (vI 0), o4] [] L := rfl
theorem vc249_0 (d : Nat) (x1 : Int32) (x2 : Int32) (o3 : Option PV) (o4 : Option PV) (z : Nat → Int32) (f : Nat → FA) (res : Option PV × QH FA) (H : RC (mcall (d + 1)) (mP 249) 2 [some (vR 0), some (vI x1), some (vI x2), some (vI 0), o4] [] (LR z f) res) : RC (mcall (d + 1)) (mP 249) 0 [some (vR 0), some (vI x1), some (vI x2), o3, o4] [] (LR z f) res := by
  refine rc_b (i' := 2) (ls' := [some (vR 0), some (vI x1), some (vI x2), some (vI 0), o4]) (st' := []) (L' := LR z f) 2 (b249_1 (mcall (d + 1)) x1 x2 o3 o4 _) ?_
  exact H
set_option maxRecDepth 100000 in
theorem bc2_249_1 (call : QC FA) (x1 : Int32) (x2 : Int32) (x3 : Int32) (o4 : Option PV) (z : Nat → Int32) (f : Nat → FA) (F : Nat) : rnG call 249 (F + 4) 2 [some (vR 0), some (vI x1), some (vI x2), some (vI x3), o4] [] (LR z f) = rnG call 249 F 6 [some (vR 0), some (vI x1), some (vI x2), some (vI x3), o4] [vI x1, vR 5, vI x3] (LR z f) := rfl
set_option maxRecDepth 100000 in
theorem bc2_249_2 (call : QC FA) (x : Int32) (s0 : Int32) (ls : List (Option PV)) (z : Nat → Int32) (f : Nat → FA) (F : Nat) : rnG call 249 (F + 1) 6 ls [vI x, vR 5, vI s0] (LR z f) = bif (Nat.beq 0 0 && pin x 20) then rnG call 249 F 7 ls [vI (f 5 (ix x)), vI s0] (LR z f) else none := rfl
set_option maxRecDepth 100000 in
theorem bc2_249_3 (call : QC FA) (x y : Int32) (ls : List (Option PV)) (L : QH FA) (F : Nat) : rnG call 249 (F + 1) 7 ls [vI y, vI x] L = bif pcmp 3 x y then rnG call 249 F 21 ls [] L else rnG call 249 F 8 ls [] L := rfl
set_option maxRecDepth 100000 in
theorem bc2_249_4 (call : QC FA) (x1 : Int32) (x2 : Int32) (x3 : Int32) (o4 : Option PV) (L : QH FA) (F : Nat) : rnG call 249 (F + 9) 21 [some (vR 0), some (vI x1), some (vI x2), some (vI x3), o4] [] L = rnG call 249 F 30 [some (vR 0), some (vI x1), some (vI x2), some (vI x3), some (vI ((12 * x3) + x2))] [vI ((12 * x3) + x2), vR 0, vR 0] L := rfl
set_option maxRecDepth 100000 in
theorem bc2_249_5 (call : QC FA) (a0 : Int32) (ls : List (Option PV)) (z : Nat → Int32) (f : Nat → FA) (F : Nat) : rnG call 249 (F + 1) 30 ls [vI a0, vR 0, vR 0] (LR z f) = cbd (call 49 [vR 0, vI a0] (LR z f)) (fun r L' => rnG call 249 F 31 ls (r.toList ++ [vR 0]) L') := pcY (ih := rnG call 249 F) (call := call) (a := 49) (b := 1) (v := 12) (t := 31) (x := 0) (ls := ls) (As := [vI a0]) (st' := [vR 0]) (L := LR z f) rfl rfl rfl
set_option maxRecDepth 100000 in
theorem bc2_249_6 (call : QC FA) (x : Int32) (ls : List (Option PV)) (L : QH FA) (F : Nat) : rnG call 249 (F + 1) 31 ls [vI x, vR 0] L = bif pcmp 0 x 0 then rnG call 249 F 34 ls [vR 0] L else rnG call 249 F 32 ls [vR 0] L := rfl
set_option maxRecDepth 100000 in
theorem bc2_249_7 (call : QC FA) (x1 : Int32) (x2 : Int32) (x3 : Int32) (x4 : Int32) (L : QH FA) (F : Nat) : rnG call 249 (F + 3) 34 [some (vR 0), some (vI x1), some (vI x2), some (vI x3), some (vI x4)] [vR 0] L = rnG call 249 F 37 [some (vR 0), some (vI x1), some (vI x2), some (vI x3), some (vI x4)] [vI x4, vI x1, vI 0, vR 0] L := rfl
set_option maxRecDepth 100000 in
theorem bc2_249_8 (call : QC FA) (a0 : Int32) (a1 : Int32) (a2 : Int32) (ls : List (Option PV)) (z : Nat → Int32) (f : Nat → FA) (F : Nat) : rnG call 249 (F + 1) 37 ls [vI a2, vI a1, vI a0, vR 0] (LR z f) = cbd (call 243 [vR 0, vI a0, vI a1, vI a2] (LR z f)) (fun r L' => rnG call 249 F 38 ls (r.toList ++ []) L') := pcY (ih := rnG call 249 F) (call := call) (a := 243) (b := 3) (v := 12) (t := 38) (x := 0) (ls := ls) (As := [vI a0, vI a1, vI a2]) (st' := []) (L := LR z f) rfl rfl rfl
set_option maxRecDepth 100000 in
theorem bc2_249_9 (call : QC FA) (x1 : Int32) (x2 : Int32) (x3 : Int32) (x4 : Int32) (z : Nat → Int32) (f : Nat → FA) (F : Nat) : rnG call 249 (F + 8) 38 [some (vR 0), some (vI x1), some (vI x2), some (vI x3), some (vI x4)] [] (LR z f) = rnG call 249 F 46 [some (vR 0), some (vI x1), some (vI x2), some (vI x3), some (vI x4)] [vI (x1 + 1), vI (67 + x4), vR 1] (LR z f) := rfl
set_option maxRecDepth 100000 in
theorem bc2_249_10 (call : QC FA) (x y : Int32) (ls : List (Option PV)) (z : Nat → Int32) (f : Nat → FA) (F : Nat) : rnG call 249 (F + 1) 46 ls [vI y, vI x, vR 1] (LR z f) = bif (Nat.beq 0 0 && pin x 499) then rnG call 249 F 47 ls [] (LR z (uA f 1 (upd (f 1) (ix x) y))) else none := rfl
set_option maxRecDepth 100000 in
theorem bc2_249_11 (call : QC FA) (x1 : Int32) (x2 : Int32) (x3 : Int32) (x4 : Int32) (z : Nat → Int32) (f : Nat → FA) (F : Nat) : rnG call 249 (F + 10) 47 [some (vR 0), some (vI x1), some (vI x2), some (vI x3), some (vI x4)] [] (LR z f) = rnG call 249 F 57 [some (vR 0), some (vI x1), some (vI x2), some (vI x3), some (vI x4)] [vI (7 + x1), vR 1, vI (211 + x4), vR 1] (LR z f) := rfl
set_option maxRecDepth 100000 in
theorem bc2_249_12 (call : QC FA) (x : Int32) (s0 : Int32) (ls : List (Option PV)) (z : Nat → Int32) (f : Nat → FA) (F : Nat) : rnG call 249 (F + 1) 57 ls [vI x, vR 1, vI s0, vR 1] (LR z f) = bif (Nat.beq 0 0 && pin x 499) then rnG call 249 F 58 ls [vI (f 1 (ix x)), vI s0, vR 1] (LR z f) else none := rfl
set_option maxRecDepth 100000 in
theorem bc2_249_13 (call : QC FA) (x y : Int32) (ls : List (Option PV)) (z : Nat → Int32) (f : Nat → FA) (F : Nat) : rnG call 249 (F + 1) 58 ls [vI y, vI x, vR 1] (LR z f) = bif (Nat.beq 0 0 && pin x 499) then rnG call 249 F 59 ls [] (LR z (uA f 1 (upd (f 1) (ix x) y))) else none := rfl
set_option maxRecDepth 100000 in
theorem bc2_249_14 (call : QC FA) (x1 : Int32) (x2 : Int32) (x3 : Int32) (x4 : Int32) (z : Nat → Int32) (f : Nat → FA) (F : Nat) : rnG call 249 (F + 11) 59 [some (vR 0), some (vI x1), some (vI x2), some (vI x3), some (vI x4)] [] (LR z f) = rnG call 249 F 70 [some (vR 0), some (vI x1), some (vI x2), some (vI x3), some (vI x4)] [vI x1, vR 6, vI 1, vI 9, vR 0, vI (355 + x4), vR 1] (LR z f) := rfl
set_option maxRecDepth 100000 in
theorem bc2_249_15 (call : QC FA) (x : Int32) (s0 : Int32) (s1 : Int32) (s3 : Int32) (ls : List (Option PV)) (z : Nat → Int32) (f : Nat → FA) (F : Nat) : rnG call 249 (F + 1) 70 ls [vI x, vR 6, vI s0, vI s1, vR 0, vI s3, vR 1] (LR z f) = bif (Nat.beq 0 0 && pin x 20) then rnG call 249 F 71 ls [vI (f 6 (ix x)), vI s0, vI s1, vR 0, vI s3, vR 1] (LR z f) else none := rfl
set_option maxRecDepth 100000 in
theorem bc2_249_16 (call : QC FA) (x1 : Int32) (x2 : Int32) (x3 : Int32) (x4 : Int32) (s0 : Int32) (s1 : Int32) (s2 : Int32) (s4 : Int32) (L : QH FA) (F : Nat) : rnG call 249 (F + 1) 71 [some (vR 0), some (vI x1), some (vI x2), some (vI x3), some (vI x4)] [vI s0, vI s1, vI s2, vR 0, vI s4, vR 1] L = rnG call 249 F 72 [some (vR 0), some (vI x1), some (vI x2), some (vI x3), some (vI x4)] [vI 2, vI s0, vI s1, vI s2, vR 0, vI s4, vR 1] L := rfl
set_option maxRecDepth 100000 in
theorem bc2_249_17 (call : QC FA) (x y : Int32) (s0 : Int32) (s1 : Int32) (s3 : Int32) (ls : List (Option PV)) (L : QH FA) (F : Nat) : rnG call 249 (F + 1) 72 ls [vI y, vI x, vI s0, vI s1, vR 0, vI s3, vR 1] L = bif pcmp 1 y 0 then rnG call 249 F 73 ls [vI (x / y), vI s0, vI s1, vR 0, vI s3, vR 1] L else none := rfl
set_option maxRecDepth 100000 in
theorem bc2_249_18 (call : QC FA) (x1 : Int32) (x2 : Int32) (x3 : Int32) (x4 : Int32) (s0 : Int32) (s1 : Int32) (s2 : Int32) (s4 : Int32) (L : QH FA) (F : Nat) : rnG call 249 (F + 1) 73 [some (vR 0), some (vI x1), some (vI x2), some (vI x3), some (vI x4)] [vI s0, vI s1, vI s2, vR 0, vI s4, vR 1] L = rnG call 249 F 74 [some (vR 0), some (vI x1), some (vI x2), some (vI x3), some (vI x4)] [vI (s1 + s0), vI s2, vR 0, vI s4, vR 1] L := rfl
set_option maxRecDepth 100000 in
theorem bc2_249_19 (call : QC FA) (a0 : Int32) (a1 : Int32) (s0 : Int32) (ls : List (Option PV)) (z : Nat → Int32) (f : Nat → FA) (F : Nat) : rnG call 249 (F + 1) 74 ls [vI a1, vI a0, vR 0, vI s0, vR 1] (LR z f) = cbd (call 62 [vR 0, vI a0, vI a1] (LR z f)) (fun r L' => rnG call 249 F 75 ls (r.toList ++ [vI s0, vR 1]) L') := pcY (ih := rnG call 249 F) (call := call) (a := 62) (b := 2) (v := 12) (t := 75) (x := 0) (ls := ls) (As := [vI a0, vI a1]) (st' := [vI s0, vR 1]) (L := LR z f) rfl rfl rfl
set_option maxRecDepth 100000 in
theorem bc2_249_20 (call : QC FA) (x y : Int32) (ls : List (Option PV)) (z : Nat → Int32) (f : Nat → FA) (F : Nat) : rnG call 249 (F + 1) 75 ls [vI y, vI x, vR 1] (LR z f) = bif (Nat.beq 0 0 && pin x 499) then rnG call 249 F 76 ls [] (LR z (uA f 1 (upd (f 1) (ix x) y))) else none := rfl
set_option maxRecDepth 100000 in
theorem bc2_249_21 (call : QC FA) (x1 : Int32) (x2 : Int32) (x3 : Int32) (x4 : Int32) (z : Nat → Int32) (f : Nat → FA) (F : Nat) : rnG call 249 (F + 10) 76 [some (vR 0), some (vI x1), some (vI x2), some (vI x3), some (vI x4)] [] (LR z f) = rnG call 249 F 86 [some (vR 0), some (vI x1), some (vI x2), some (vI x3), some (vI x4)] [vI (47 + x1), vR 1, vI (47 + x1), vR 1] (LR z f) := rfl
set_option maxRecDepth 100000 in
theorem bc2_249_22 (call : QC FA) (x : Int32) (s0 : Int32) (ls : List (Option PV)) (z : Nat → Int32) (f : Nat → FA) (F : Nat) : rnG call 249 (F + 1) 86 ls [vI x, vR 1, vI s0, vR 1] (LR z f) = bif (Nat.beq 0 0 && pin x 499) then rnG call 249 F 87 ls [vI (f 1 (ix x)), vI s0, vR 1] (LR z f) else none := rfl
set_option maxRecDepth 100000 in
theorem bc2_249_23 (call : QC FA) (x1 : Int32) (x2 : Int32) (x3 : Int32) (x4 : Int32) (s0 : Int32) (s1 : Int32) (L : QH FA) (F : Nat) : rnG call 249 (F + 2) 87 [some (vR 0), some (vI x1), some (vI x2), some (vI x3), some (vI x4)] [vI s0, vI s1, vR 1] L = rnG call 249 F 89 [some (vR 0), some (vI x1), some (vI x2), some (vI x3), some (vI x4)] [vI (s0 + 1), vI s1, vR 1] L := rfl
set_option maxRecDepth 100000 in
theorem bc2_249_24 (call : QC FA) (x y : Int32) (ls : List (Option PV)) (z : Nat → Int32) (f : Nat → FA) (F : Nat) : rnG call 249 (F + 1) 89 ls [vI y, vI x, vR 1] (LR z f) = bif (Nat.beq 0 0 && pin x 499) then rnG call 249 F 90 ls [] (LR z (uA f 1 (upd (f 1) (ix x) y))) else none := rfl
set_option maxRecDepth 100000 in
theorem bc2_249_25 (call : QC FA) (x1 : Int32) (x2 : Int32) (x3 : Int32) (x4 : Int32) (L : QH FA) (F : Nat) : rnG call 249 (F + 1) 90 [some (vR 0), some (vI x1), some (vI x2), some (vI x3), some (vI x4)] [] L = rnG call 249 F 91 [some (vR 0), some (vI x1), some (vI x2), some (vI x3), some (vI x4)] [vI x4] L := rfl
set_option maxRecDepth 100000 in
theorem bc2_249_26 (call : QC FA) (x : Int32) (ls : List (Option PV)) (L : QH FA) (F : Nat) : rnG call 249 (F + 1) 91 ls [vI x] L = some (some (vI x), L) := rfl
set_option maxRecDepth 100000 in
theorem bc2_249_27 (call : QC FA) (x1 : Int32) (x2 : Int32) (x3 : Int32) (x4 : Int32) (L : QH FA) (F : Nat) : rnG call 249 (F + 4) 32 [some (vR 0), some (vI x1), some (vI x2), some (vI x3), some (vI x4)] [vR 0] L = rnG call 249 F 37 [some (vR 0), some (vI x1), some (vI x2), some (vI x3), some (vI x4)] [vI x4, vI x1, vI 1, vR 0] L := rfl
set_option maxRecDepth 100000 in
theorem bc2_249_28 (call : QC FA) (x1 : Int32) (x2 : Int32) (x3 : Int32) (o4 : Option PV) (L : QH FA) (F : Nat) : rnG call 249 (F + 6) 8 [some (vR 0), some (vI x1), some (vI x2), some (vI x3), o4] [] L = rnG call 249 F 14 [some (vR 0), some (vI x1), some (vI x2), some (vI x3), o4] [vI ((12 * x3) + x2), vR 0] L := rfl
set_option maxRecDepth 100000 in
theorem bc2_249_29 (call : QC FA) (a0 : Int32) (ls : List (Option PV)) (z : Nat → Int32) (f : Nat → FA) (F : Nat) : rnG call 249 (F + 1) 14 ls [vI a0, vR 0] (LR z f) = cbd (call 49 [vR 0, vI a0] (LR z f)) (fun r L' => rnG call 249 F 15 ls (r.toList ++ []) L') := pcY (ih := rnG call 249 F) (call := call) (a := 49) (b := 1) (v := 12) (t := 15) (x := 0) (ls := ls) (As := [vI a0]) (st' := []) (L := LR z f) rfl rfl rfl
set_option maxRecDepth 100000 in
theorem bc2_249_30 (call : QC FA) (x : Int32) (ls : List (Option PV)) (L : QH FA) (F : Nat) : rnG call 249 (F + 1) 15 ls [vI x] L = bif pcmp 0 x 0 then rnG call 249 F 21 ls [] L else rnG call 249 F 16 ls [] L := rfl
set_option maxRecDepth 100000 in
theorem bc2_249_31 (call : QC FA) (x1 : Int32) (x2 : Int32) (x3 : Int32) (o4 : Option PV) (L : QH FA) (F : Nat) : rnG call 249 (F + 5) 16 [some (vR 0), some (vI x1), some (vI x2), some (vI x3), o4] [] L = rnG call 249 F 2 [some (vR 0), some (vI x1), some (vI x2), some (vI (x3 + 1)), o4] [] L := rfl
theorem vcc2_249_2 (d : Nat) (x1 : Int32) (x2 : Int32) (x3 : Int32) (o4 : Option PV) (z : Nat → Int32) (f : Nat → FA) (res : Option PV × QH FA) (H : (pin x1 20 = true ∧ ((I (f 5 (ix x1)) ≤ I x3 → (∃ (r1 : Int32) (z1 : Nat → Int32) (f1 : Nat → FA), (mcall (d + 1)) 49 [vR 0, vI ((12 * x3) + x2)] (LR z f) = some (some (vI r1), LR z1 f1) ∧ ((r1 = 0 → (∃ (z2 : Nat → Int32) (f2 : Nat → FA), (mcall (d + 1)) 243 [vR 0, vI 0, vI x1, vI ((12 * x3) + x2)] (LR z1 f1) = some (none, LR z2 f2) ∧ (pin (67 + ((12 * x3) + x2)) 499 = true ∧ (pin (7 + x1) 499 = true ∧ (pin (211 + ((12 * x3) + x2)) 499 = true ∧ (pin x1 20 = true ∧ (¬ (2 : Int32) = 0 ∧ (∃ (r3 : Int32) (z3 : Nat → Int32) (f3 : Nat → FA), (mcall (d + 1)) 62 [vR 0, vI 9, vI (1 + ((f2 6 (ix x1)) / 2))] (LR z2 (uA (uA f2 1 (upd (f2 1) (ix (67 + ((12 * x3) + x2))) (x1 + 1))) 1 (upd (upd (f2 1) (ix (67 + ((12 * x3) + x2))) (x1 + 1)) (ix (211 + ((12 * x3) + x2))) ((upd (f2 1) (ix (67 + ((12 * x3) + x2))) (x1 + 1)) (ix (7 + x1)))))) = some (some (vI r3), LR z3 f3) ∧ (pin (355 + ((12 * x3) + x2)) 499 = true ∧ (pin (47 + x1) 499 = true ∧ (pin (47 + x1) 499 = true ∧ res = (some (vI ((12 * x3) + x2)), LR z3 (uA (uA f3 1 (upd (f3 1) (ix (355 + ((12 * x3) + x2))) r3)) 1 (upd (upd (f3 1) (ix (355 + ((12 * x3) + x2))) r3) (ix (47 + x1)) (((upd (f3 1) (ix (355 + ((12 * x3) + x2))) r3) (ix (47 + x1))) + 1))))))))))))))) ∧ (¬ r1 = 0 → (∃ (z4 : Nat → Int32) (f4 : Nat → FA), (mcall (d + 1)) 243 [vR 0, vI 1, vI x1, vI ((12 * x3) + x2)] (LR z1 f1) = some (none, LR z4 f4) ∧ (pin (67 + ((12 * x3) + x2)) 499 = true ∧ (pin (7 + x1) 499 = true ∧ (pin (211 + ((12 * x3) + x2)) 499 = true ∧ (pin x1 20 = true ∧ (¬ (2 : Int32) = 0 ∧ (∃ (r5 : Int32) (z5 : Nat → Int32) (f5 : Nat → FA), (mcall (d + 1)) 62 [vR 0, vI 9, vI (1 + ((f4 6 (ix x1)) / 2))] (LR z4 (uA (uA f4 1 (upd (f4 1) (ix (67 + ((12 * x3) + x2))) (x1 + 1))) 1 (upd (upd (f4 1) (ix (67 + ((12 * x3) + x2))) (x1 + 1)) (ix (211 + ((12 * x3) + x2))) ((upd (f4 1) (ix (67 + ((12 * x3) + x2))) (x1 + 1)) (ix (7 + x1)))))) = some (some (vI r5), LR z5 f5) ∧ (pin (355 + ((12 * x3) + x2)) 499 = true ∧ (pin (47 + x1) 499 = true ∧ (pin (47 + x1) 499 = true ∧ res = (some (vI ((12 * x3) + x2)), LR z5 (uA (uA f5 1 (upd (f5 1) (ix (355 + ((12 * x3) + x2))) r5)) 1 (upd (upd (f5 1) (ix (355 + ((12 * x3) + x2))) r5) (ix (47 + x1)) (((upd (f5 1) (ix (355 + ((12 * x3) + x2))) r5) (ix (47 + x1))) + 1)))))))))))))))))) ∧ (I x3 < I (f 5 (ix x1)) → (∃ (r6 : Int32) (z6 : Nat → Int32) (f6 : Nat → FA), (mcall (d + 1)) 49 [vR 0, vI ((12 * x3) + x2)] (LR z f) = some (some (vI r6), LR z6 f6) ∧ ((r6 = 0 → (∃ (r7 : Int32) (z7 : Nat → Int32) (f7 : Nat → FA), (mcall (d + 1)) 49 [vR 0, vI ((12 * x3) + x2)] (LR z6 f6) = some (some (vI r7), LR z7 f7) ∧ ((r7 = 0 → (∃ (z8 : Nat → Int32) (f8 : Nat → FA), (mcall (d + 1)) 243 [vR 0, vI 0, vI x1, vI ((12 * x3) + x2)] (LR z7 f7) = some (none, LR z8 f8) ∧ (pin (67 + ((12 * x3) + x2)) 499 = true ∧ (pin (7 + x1) 499 = true ∧ (pin (211 + ((12 * x3) + x2)) 499 = true ∧ (pin x1 20 = true ∧ (¬ (2 : Int32) = 0 ∧ (∃ (r9 : Int32) (z9 : Nat → Int32) (f9 : Nat → FA), (mcall (d + 1)) 62 [vR 0, vI 9, vI (1 + ((f8 6 (ix x1)) / 2))] (LR z8 (uA (uA f8 1 (upd (f8 1) (ix (67 + ((12 * x3) + x2))) (x1 + 1))) 1 (upd (upd (f8 1) (ix (67 + ((12 * x3) + x2))) (x1 + 1)) (ix (211 + ((12 * x3) + x2))) ((upd (f8 1) (ix (67 + ((12 * x3) + x2))) (x1 + 1)) (ix (7 + x1)))))) = some (some (vI r9), LR z9 f9) ∧ (pin (355 + ((12 * x3) + x2)) 499 = true ∧ (pin (47 + x1) 499 = true ∧ (pin (47 + x1) 499 = true ∧ res = (some (vI ((12 * x3) + x2)), LR z9 (uA (uA f9 1 (upd (f9 1) (ix (355 + ((12 * x3) + x2))) r9)) 1 (upd (upd (f9 1) (ix (355 + ((12 * x3) + x2))) r9) (ix (47 + x1)) (((upd (f9 1) (ix (355 + ((12 * x3) + x2))) r9) (ix (47 + x1))) + 1))))))))))))))) ∧ (¬ r7 = 0 → (∃ (z10 : Nat → Int32) (f10 : Nat → FA), (mcall (d + 1)) 243 [vR 0, vI 1, vI x1, vI ((12 * x3) + x2)] (LR z7 f7) = some (none, LR z10 f10) ∧ (pin (67 + ((12 * x3) + x2)) 499 = true ∧ (pin (7 + x1) 499 = true ∧ (pin (211 + ((12 * x3) + x2)) 499 = true ∧ (pin x1 20 = true ∧ (¬ (2 : Int32) = 0 ∧ (∃ (r11 : Int32) (z11 : Nat → Int32) (f11 : Nat → FA), (mcall (d + 1)) 62 [vR 0, vI 9, vI (1 + ((f10 6 (ix x1)) / 2))] (LR z10 (uA (uA f10 1 (upd (f10 1) (ix (67 + ((12 * x3) + x2))) (x1 + 1))) 1 (upd (upd (f10 1) (ix (67 + ((12 * x3) + x2))) (x1 + 1)) (ix (211 + ((12 * x3) + x2))) ((upd (f10 1) (ix (67 + ((12 * x3) + x2))) (x1 + 1)) (ix (7 + x1)))))) = some (some (vI r11), LR z11 f11) ∧ (pin (355 + ((12 * x3) + x2)) 499 = true ∧ (pin (47 + x1) 499 = true ∧ (pin (47 + x1) 499 = true ∧ res = (some (vI ((12 * x3) + x2)), LR z11 (uA (uA f11 1 (upd (f11 1) (ix (355 + ((12 * x3) + x2))) r11)) 1 (upd (upd (f11 1) (ix (355 + ((12 * x3) + x2))) r11) (ix (47 + x1)) (((upd (f11 1) (ix (355 + ((12 * x3) + x2))) r11) (ix (47 + x1))) + 1)))))))))))))))))) ∧ (¬ r6 = 0 → RC (mcall (d + 1)) (mP 249) 2 [some (vR 0), some (vI x1), some (vI x2), some (vI (x3 + 1)), o4] [] (LR z6 f6) res))))))) : RC (mcall (d + 1)) (mP 249) 2 [some (vR 0), some (vI x1), some (vI x2), some (vI x3), o4] [] (LR z f) res := by
  refine rc_b (i' := 6) (ls' := [some (vR 0), some (vI x1), some (vI x2), some (vI x3), o4]) (st' := [vI x1, vR 5, vI x3]) (L' := LR z f) 4 (bc2_249_1 (mcall (d + 1)) x1 x2 x3 o4 z f) ?_
  obtain ⟨g1, H⟩ := H
  refine rc_g (i' := 7) (ls' := [some (vR 0), some (vI x1), some (vI x2), some (vI x3), o4]) (st' := [vI (f 5 (ix x1)), vI x3]) (L' := LR z f) (bc2_249_2 (mcall (d + 1)) x1 x3 _ z f) (pinG g1) ?_
  refine rc_if (it := 21) (ie := 8) (ls' := [some (vR 0), some (vI x1), some (vI x2), some (vI x3), o4]) (st' := []) (bc2_249_3 (mcall (d + 1)) x3 (f 5 (ix x1)) _ _) (fun q1 => ?_) (fun q1 => ?_)
  · have H := H.1 (cI3t q1 rfl rfl)
    refine rc_b (i' := 30) (ls' := [some (vR 0), some (vI x1), some (vI x2), some (vI x3), some (vI ((12 * x3) + x2))]) (st' := [vI ((12 * x3) + x2), vR 0, vR 0]) (L' := LR z f) 9 (bc2_249_4 (mcall (d + 1)) x1 x2 x3 o4 _) ?_
    obtain ⟨r1, z1, f1, hc, H⟩ := H
    refine rc_call (t := 31) (ls' := [some (vR 0), some (vI x1), some (vI x2), some (vI x3), some (vI ((12 * x3) + x2))]) (st' := [vR 0]) (bc2_249_5 (mcall (d + 1)) ((12 * x3) + x2) _ z f) hc ?_
    show RC (mcall (d + 1)) (mP 249) 31 [some (vR 0), some (vI x1), some (vI x2), some (vI x3), some (vI ((12 * x3) + x2))] [vI r1, vR 0] (LR z1 f1) res
    refine rc_if (it := 34) (ie := 32) (ls' := [some (vR 0), some (vI x1), some (vI x2), some (vI x3), some (vI ((12 * x3) + x2))]) (st' := [vR 0]) (bc2_249_6 (mcall (d + 1)) r1 _ _) (fun q2 => ?_) (fun q2 => ?_)
    · have H := H.1 (cI0t q2)
      refine rc_b (i' := 37) (ls' := [some (vR 0), some (vI x1), some (vI x2), some (vI x3), some (vI ((12 * x3) + x2))]) (st' := [vI ((12 * x3) + x2), vI x1, vI 0, vR 0]) (L' := LR z1 f1) 3 (bc2_249_7 (mcall (d + 1)) x1 x2 x3 ((12 * x3) + x2) _) ?_
      obtain ⟨z2, f2, hc, H⟩ := H
      refine rc_call (t := 38) (ls' := [some (vR 0), some (vI x1), some (vI x2), some (vI x3), some (vI ((12 * x3) + x2))]) (st' := []) (bc2_249_8 (mcall (d + 1)) 0 x1 ((12 * x3) + x2) _ z1 f1) hc ?_
      show RC (mcall (d + 1)) (mP 249) 38 [some (vR 0), some (vI x1), some (vI x2), some (vI x3), some (vI ((12 * x3) + x2))] [] (LR z2 f2) res
      refine rc_b (i' := 46) (ls' := [some (vR 0), some (vI x1), some (vI x2), some (vI x3), some (vI ((12 * x3) + x2))]) (st' := [vI (x1 + 1), vI (67 + ((12 * x3) + x2)), vR 1]) (L' := LR z2 f2) 8 (bc2_249_9 (mcall (d + 1)) x1 x2 x3 ((12 * x3) + x2) z2 f2) ?_
      obtain ⟨g1, H⟩ := H
      refine rc_g (i' := 47) (ls' := [some (vR 0), some (vI x1), some (vI x2), some (vI x3), some (vI ((12 * x3) + x2))]) (st' := []) (L' := LR z2 (uA f2 1 (upd (f2 1) (ix (67 + ((12 * x3) + x2))) (x1 + 1)))) (bc2_249_10 (mcall (d + 1)) (67 + ((12 * x3) + x2)) (x1 + 1) _ z2 f2) (pinG g1) ?_
      refine rc_b (i' := 57) (ls' := [some (vR 0), some (vI x1), some (vI x2), some (vI x3), some (vI ((12 * x3) + x2))]) (st' := [vI (7 + x1), vR 1, vI (211 + ((12 * x3) + x2)), vR 1]) (L' := LR z2 (uA f2 1 (upd (f2 1) (ix (67 + ((12 * x3) + x2))) (x1 + 1)))) 10 (bc2_249_11 (mcall (d + 1)) x1 x2 x3 ((12 * x3) + x2) z2 (uA f2 1 (upd (f2 1) (ix (67 + ((12 * x3) + x2))) (x1 + 1)))) ?_
      obtain ⟨g1, H⟩ := H
      refine rc_g (i' := 58) (ls' := [some (vR 0), some (vI x1), some (vI x2), some (vI x3), some (vI ((12 * x3) + x2))]) (st' := [vI ((upd (f2 1) (ix (67 + ((12 * x3) + x2))) (x1 + 1)) (ix (7 + x1))), vI (211 + ((12 * x3) + x2)), vR 1]) (L' := LR z2 (uA f2 1 (upd (f2 1) (ix (67 + ((12 * x3) + x2))) (x1 + 1)))) (bc2_249_12 (mcall (d + 1)) (7 + x1) (211 + ((12 * x3) + x2)) _ z2 (uA f2 1 (upd (f2 1) (ix (67 + ((12 * x3) + x2))) (x1 + 1)))) (pinG g1) ?_
      obtain ⟨g1, H⟩ := H
      refine rc_g (i' := 59) (ls' := [some (vR 0), some (vI x1), some (vI x2), some (vI x3), some (vI ((12 * x3) + x2))]) (st' := []) (L' := LR z2 (uA (uA f2 1 (upd (f2 1) (ix (67 + ((12 * x3) + x2))) (x1 + 1))) 1 (upd (upd (f2 1) (ix (67 + ((12 * x3) + x2))) (x1 + 1)) (ix (211 + ((12 * x3) + x2))) ((upd (f2 1) (ix (67 + ((12 * x3) + x2))) (x1 + 1)) (ix (7 + x1)))))) (bc2_249_13 (mcall (d + 1)) (211 + ((12 * x3) + x2)) ((upd (f2 1) (ix (67 + ((12 * x3) + x2))) (x1 + 1)) (ix (7 + x1))) _ z2 (uA f2 1 (upd (f2 1) (ix (67 + ((12 * x3) + x2))) (x1 + 1)))) (pinG g1) ?_
      refine rc_b (i' := 70) (ls' := [some (vR 0), some (vI x1), some (vI x2), some (vI x3), some (vI ((12 * x3) + x2))]) (st' := [vI x1, vR 6, vI 1, vI 9, vR 0, vI (355 + ((12 * x3) + x2)), vR 1]) (L' := LR z2 (uA (uA f2 1 (upd (f2 1) (ix (67 + ((12 * x3) + x2))) (x1 + 1))) 1 (upd (upd (f2 1) (ix (67 + ((12 * x3) + x2))) (x1 + 1)) (ix (211 + ((12 * x3) + x2))) ((upd (f2 1) (ix (67 + ((12 * x3) + x2))) (x1 + 1)) (ix (7 + x1)))))) 11 (bc2_249_14 (mcall (d + 1)) x1 x2 x3 ((12 * x3) + x2) z2 (uA (uA f2 1 (upd (f2 1) (ix (67 + ((12 * x3) + x2))) (x1 + 1))) 1 (upd (upd (f2 1) (ix (67 + ((12 * x3) + x2))) (x1 + 1)) (ix (211 + ((12 * x3) + x2))) ((upd (f2 1) (ix (67 + ((12 * x3) + x2))) (x1 + 1)) (ix (7 + x1)))))) ?_
      obtain ⟨g1, H⟩ := H
      refine rc_g (i' := 71) (ls' := [some (vR 0), some (vI x1), some (vI x2), some (vI x3), some (vI ((12 * x3) + x2))]) (st' := [vI (f2 6 (ix x1)), vI 1, vI 9, vR 0, vI (355 + ((12 * x3) + x2)), vR 1]) (L' := LR z2 (uA (uA f2 1 (upd (f2 1) (ix (67 + ((12 * x3) + x2))) (x1 + 1))) 1 (upd (upd (f2 1) (ix (67 + ((12 * x3) + x2))) (x1 + 1)) (ix (211 + ((12 * x3) + x2))) ((upd (f2 1) (ix (67 + ((12 * x3) + x2))) (x1 + 1)) (ix (7 + x1)))))) (bc2_249_15 (mcall (d + 1)) x1 1 9 (355 + ((12 * x3) + x2)) _ z2 (uA (uA f2 1 (upd (f2 1) (ix (67 + ((12 * x3) + x2))) (x1 + 1))) 1 (upd (upd (f2 1) (ix (67 + ((12 * x3) + x2))) (x1 + 1)) (ix (211 + ((12 * x3) + x2))) ((upd (f2 1) (ix (67 + ((12 * x3) + x2))) (x1 + 1)) (ix (7 + x1)))))) (pinG g1) ?_
      refine rc_b (i' := 72) (ls' := [some (vR 0), some (vI x1), some (vI x2), some (vI x3), some (vI ((12 * x3) + x2))]) (st' := [vI 2, vI (f2 6 (ix x1)), vI 1, vI 9, vR 0, vI (355 + ((12 * x3) + x2)), vR 1]) (L' := LR z2 (uA (uA f2 1 (upd (f2 1) (ix (67 + ((12 * x3) + x2))) (x1 + 1))) 1 (upd (upd (f2 1) (ix (67 + ((12 * x3) + x2))) (x1 + 1)) (ix (211 + ((12 * x3) + x2))) ((upd (f2 1) (ix (67 + ((12 * x3) + x2))) (x1 + 1)) (ix (7 + x1)))))) 1 (bc2_249_16 (mcall (d + 1)) x1 x2 x3 ((12 * x3) + x2) (f2 6 (ix x1)) 1 9 (355 + ((12 * x3) + x2)) _) ?_
      obtain ⟨g1, H⟩ := H
      refine rc_g (i' := 73) (ls' := [some (vR 0), some (vI x1), some (vI x2), some (vI x3), some (vI ((12 * x3) + x2))]) (st' := [vI ((f2 6 (ix x1)) / 2), vI 1, vI 9, vR 0, vI (355 + ((12 * x3) + x2)), vR 1]) (L' := LR z2 (uA (uA f2 1 (upd (f2 1) (ix (67 + ((12 * x3) + x2))) (x1 + 1))) 1 (upd (upd (f2 1) (ix (67 + ((12 * x3) + x2))) (x1 + 1)) (ix (211 + ((12 * x3) + x2))) ((upd (f2 1) (ix (67 + ((12 * x3) + x2))) (x1 + 1)) (ix (7 + x1)))))) (bc2_249_17 (mcall (d + 1)) (f2 6 (ix x1)) 2 1 9 (355 + ((12 * x3) + x2)) _ _) (cmp_ne.trans (decide_eq_true g1)) ?_
      refine rc_b (i' := 74) (ls' := [some (vR 0), some (vI x1), some (vI x2), some (vI x3), some (vI ((12 * x3) + x2))]) (st' := [vI (1 + ((f2 6 (ix x1)) / 2)), vI 9, vR 0, vI (355 + ((12 * x3) + x2)), vR 1]) (L' := LR z2 (uA (uA f2 1 (upd (f2 1) (ix (67 + ((12 * x3) + x2))) (x1 + 1))) 1 (upd (upd (f2 1) (ix (67 + ((12 * x3) + x2))) (x1 + 1)) (ix (211 + ((12 * x3) + x2))) ((upd (f2 1) (ix (67 + ((12 * x3) + x2))) (x1 + 1)) (ix (7 + x1)))))) 1 (bc2_249_18 (mcall (d + 1)) x1 x2 x3 ((12 * x3) + x2) ((f2 6 (ix x1)) / 2) 1 9 (355 + ((12 * x3) + x2)) _) ?_
      obtain ⟨r3, z3, f3, hc, H⟩ := H
      refine rc_call (t := 75) (ls' := [some (vR 0), some (vI x1), some (vI x2), some (vI x3), some (vI ((12 * x3) + x2))]) (st' := [vI (355 + ((12 * x3) + x2)), vR 1]) (bc2_249_19 (mcall (d + 1)) 9 (1 + ((f2 6 (ix x1)) / 2)) (355 + ((12 * x3) + x2)) _ z2 (uA (uA f2 1 (upd (f2 1) (ix (67 + ((12 * x3) + x2))) (x1 + 1))) 1 (upd (upd (f2 1) (ix (67 + ((12 * x3) + x2))) (x1 + 1)) (ix (211 + ((12 * x3) + x2))) ((upd (f2 1) (ix (67 + ((12 * x3) + x2))) (x1 + 1)) (ix (7 + x1)))))) hc ?_
      show RC (mcall (d + 1)) (mP 249) 75 [some (vR 0), some (vI x1), some (vI x2), some (vI x3), some (vI ((12 * x3) + x2))] [vI r3, vI (355 + ((12 * x3) + x2)), vR 1] (LR z3 f3) res
      obtain ⟨g1, H⟩ := H
      refine rc_g (i' := 76) (ls' := [some (vR 0), some (vI x1), some (vI x2), some (vI x3), some (vI ((12 * x3) + x2))]) (st' := []) (L' := LR z3 (uA f3 1 (upd (f3 1) (ix (355 + ((12 * x3) + x2))) r3))) (bc2_249_20 (mcall (d + 1)) (355 + ((12 * x3) + x2)) r3 _ z3 f3) (pinG g1) ?_
      refine rc_b (i' := 86) (ls' := [some (vR 0), some (vI x1), some (vI x2), some (vI x3), some (vI ((12 * x3) + x2))]) (st' := [vI (47 + x1), vR 1, vI (47 + x1), vR 1]) (L' := LR z3 (uA f3 1 (upd (f3 1) (ix (355 + ((12 * x3) + x2))) r3))) 10 (bc2_249_21 (mcall (d + 1)) x1 x2 x3 ((12 * x3) + x2) z3 (uA f3 1 (upd (f3 1) (ix (355 + ((12 * x3) + x2))) r3))) ?_
      obtain ⟨g1, H⟩ := H
      refine rc_g (i' := 87) (ls' := [some (vR 0), some (vI x1), some (vI x2), some (vI x3), some (vI ((12 * x3) + x2))]) (st' := [vI ((upd (f3 1) (ix (355 + ((12 * x3) + x2))) r3) (ix (47 + x1))), vI (47 + x1), vR 1]) (L' := LR z3 (uA f3 1 (upd (f3 1) (ix (355 + ((12 * x3) + x2))) r3))) (bc2_249_22 (mcall (d + 1)) (47 + x1) (47 + x1) _ z3 (uA f3 1 (upd (f3 1) (ix (355 + ((12 * x3) + x2))) r3))) (pinG g1) ?_
      refine rc_b (i' := 89) (ls' := [some (vR 0), some (vI x1), some (vI x2), some (vI x3), some (vI ((12 * x3) + x2))]) (st' := [vI (((upd (f3 1) (ix (355 + ((12 * x3) + x2))) r3) (ix (47 + x1))) + 1), vI (47 + x1), vR 1]) (L' := LR z3 (uA f3 1 (upd (f3 1) (ix (355 + ((12 * x3) + x2))) r3))) 2 (bc2_249_23 (mcall (d + 1)) x1 x2 x3 ((12 * x3) + x2) ((upd (f3 1) (ix (355 + ((12 * x3) + x2))) r3) (ix (47 + x1))) (47 + x1) _) ?_
      obtain ⟨g1, H⟩ := H
      refine rc_g (i' := 90) (ls' := [some (vR 0), some (vI x1), some (vI x2), some (vI x3), some (vI ((12 * x3) + x2))]) (st' := []) (L' := LR z3 (uA (uA f3 1 (upd (f3 1) (ix (355 + ((12 * x3) + x2))) r3)) 1 (upd (upd (f3 1) (ix (355 + ((12 * x3) + x2))) r3) (ix (47 + x1)) (((upd (f3 1) (ix (355 + ((12 * x3) + x2))) r3) (ix (47 + x1))) + 1)))) (bc2_249_24 (mcall (d + 1)) (47 + x1) (((upd (f3 1) (ix (355 + ((12 * x3) + x2))) r3) (ix (47 + x1))) + 1) _ z3 (uA f3 1 (upd (f3 1) (ix (355 + ((12 * x3) + x2))) r3))) (pinG g1) ?_
      refine rc_b (i' := 91) (ls' := [some (vR 0), some (vI x1), some (vI x2), some (vI x3), some (vI ((12 * x3) + x2))]) (st' := [vI ((12 * x3) + x2)]) (L' := LR z3 (uA (uA f3 1 (upd (f3 1) (ix (355 + ((12 * x3) + x2))) r3)) 1 (upd (upd (f3 1) (ix (355 + ((12 * x3) + x2))) r3) (ix (47 + x1)) (((upd (f3 1) (ix (355 + ((12 * x3) + x2))) r3) (ix (47 + x1))) + 1)))) 1 (bc2_249_25 (mcall (d + 1)) x1 x2 x3 ((12 * x3) + x2) _) ?_
      subst H
      exact rc_ret (bc2_249_26 (mcall (d + 1)) _ _ _)
    · have H := H.2 (cI0f q2)
      refine rc_b (i' := 37) (ls' := [some (vR 0), some (vI x1), some (vI x2), some (vI x3), some (vI ((12 * x3) + x2))]) (st' := [vI ((12 * x3) + x2), vI x1, vI 1, vR 0]) (L' := LR z1 f1) 4 (bc2_249_27 (mcall (d + 1)) x1 x2 x3 ((12 * x3) + x2) _) ?_
      obtain ⟨z4, f4, hc, H⟩ := H
      refine rc_call (t := 38) (ls' := [some (vR 0), some (vI x1), some (vI x2), some (vI x3), some (vI ((12 * x3) + x2))]) (st' := []) (bc2_249_8 (mcall (d + 1)) 1 x1 ((12 * x3) + x2) _ z1 f1) hc ?_
      show RC (mcall (d + 1)) (mP 249) 38 [some (vR 0), some (vI x1), some (vI x2), some (vI x3), some (vI ((12 * x3) + x2))] [] (LR z4 f4) res
      refine rc_b (i' := 46) (ls' := [some (vR 0), some (vI x1), some (vI x2), some (vI x3), some (vI ((12 * x3) + x2))]) (st' := [vI (x1 + 1), vI (67 + ((12 * x3) + x2)), vR 1]) (L' := LR z4 f4) 8 (bc2_249_9 (mcall (d + 1)) x1 x2 x3 ((12 * x3) + x2) z4 f4) ?_
      obtain ⟨g1, H⟩ := H
      refine rc_g (i' := 47) (ls' := [some (vR 0), some (vI x1), some (vI x2), some (vI x3), some (vI ((12 * x3) + x2))]) (st' := []) (L' := LR z4 (uA f4 1 (upd (f4 1) (ix (67 + ((12 * x3) + x2))) (x1 + 1)))) (bc2_249_10 (mcall (d + 1)) (67 + ((12 * x3) + x2)) (x1 + 1) _ z4 f4) (pinG g1) ?_
      refine rc_b (i' := 57) (ls' := [some (vR 0), some (vI x1), some (vI x2), some (vI x3), some (vI ((12 * x3) + x2))]) (st' := [vI (7 + x1), vR 1, vI (211 + ((12 * x3) + x2)), vR 1]) (L' := LR z4 (uA f4 1 (upd (f4 1) (ix (67 + ((12 * x3) + x2))) (x1 + 1)))) 10 (bc2_249_11 (mcall (d + 1)) x1 x2 x3 ((12 * x3) + x2) z4 (uA f4 1 (upd (f4 1) (ix (67 + ((12 * x3) + x2))) (x1 + 1)))) ?_
      obtain ⟨g1, H⟩ := H
      refine rc_g (i' := 58) (ls' := [some (vR 0), some (vI x1), some (vI x2), some (vI x3), some (vI ((12 * x3) + x2))]) (st' := [vI ((upd (f4 1) (ix (67 + ((12 * x3) + x2))) (x1 + 1)) (ix (7 + x1))), vI (211 + ((12 * x3) + x2)), vR 1]) (L' := LR z4 (uA f4 1 (upd (f4 1) (ix (67 + ((12 * x3) + x2))) (x1 + 1)))) (bc2_249_12 (mcall (d + 1)) (7 + x1) (211 + ((12 * x3) + x2)) _ z4 (uA f4 1 (upd (f4 1) (ix (67 + ((12 * x3) + x2))) (x1 + 1)))) (pinG g1) ?_
      obtain ⟨g1, H⟩ := H
      refine rc_g (i' := 59) (ls' := [some (vR 0), some (vI x1), some (vI x2), some (vI x3), some (vI ((12 * x3) + x2))]) (st' := []) (L' := LR z4 (uA (uA f4 1 (upd (f4 1) (ix (67 + ((12 * x3) + x2))) (x1 + 1))) 1 (upd (upd (f4 1) (ix (67 + ((12 * x3) + x2))) (x1 + 1)) (ix (211 + ((12 * x3) + x2))) ((upd (f4 1) (ix (67 + ((12 * x3) + x2))) (x1 + 1)) (ix (7 + x1)))))) (bc2_249_13 (mcall (d + 1)) (211 + ((12 * x3) + x2)) ((upd (f4 1) (ix (67 + ((12 * x3) + x2))) (x1 + 1)) (ix (7 + x1))) _ z4 (uA f4 1 (upd (f4 1) (ix (67 + ((12 * x3) + x2))) (x1 + 1)))) (pinG g1) ?_
      refine rc_b (i' := 70) (ls' := [some (vR 0), some (vI x1), some (vI x2), some (vI x3), some (vI ((12 * x3) + x2))]) (st' := [vI x1, vR 6, vI 1, vI 9, vR 0, vI (355 + ((12 * x3) + x2)), vR 1]) (L' := LR z4 (uA (uA f4 1 (upd (f4 1) (ix (67 + ((12 * x3) + x2))) (x1 + 1))) 1 (upd (upd (f4 1) (ix (67 + ((12 * x3) + x2))) (x1 + 1)) (ix (211 + ((12 * x3) + x2))) ((upd (f4 1) (ix (67 + ((12 * x3) + x2))) (x1 + 1)) (ix (7 + x1)))))) 11 (bc2_249_14 (mcall (d + 1)) x1 x2 x3 ((12 * x3) + x2) z4 (uA (uA f4 1 (upd (f4 1) (ix (67 + ((12 * x3) + x2))) (x1 + 1))) 1 (upd (upd (f4 1) (ix (67 + ((12 * x3) + x2))) (x1 + 1)) (ix (211 + ((12 * x3) + x2))) ((upd (f4 1) (ix (67 + ((12 * x3) + x2))) (x1 + 1)) (ix (7 + x1)))))) ?_
      obtain ⟨g1, H⟩ := H
      refine rc_g (i' := 71) (ls' := [some (vR 0), some (vI x1), some (vI x2), some (vI x3), some (vI ((12 * x3) + x2))]) (st' := [vI (f4 6 (ix x1)), vI 1, vI 9, vR 0, vI (355 + ((12 * x3) + x2)), vR 1]) (L' := LR z4 (uA (uA f4 1 (upd (f4 1) (ix (67 + ((12 * x3) + x2))) (x1 + 1))) 1 (upd (upd (f4 1) (ix (67 + ((12 * x3) + x2))) (x1 + 1)) (ix (211 + ((12 * x3) + x2))) ((upd (f4 1) (ix (67 + ((12 * x3) + x2))) (x1 + 1)) (ix (7 + x1)))))) (bc2_249_15 (mcall (d + 1)) x1 1 9 (355 + ((12 * x3) + x2)) _ z4 (uA (uA f4 1 (upd (f4 1) (ix (67 + ((12 * x3) + x2))) (x1 + 1))) 1 (upd (upd (f4 1) (ix (67 + ((12 * x3) + x2))) (x1 + 1)) (ix (211 + ((12 * x3) + x2))) ((upd (f4 1) (ix (67 + ((12 * x3) + x2))) (x1 + 1)) (ix (7 + x1)))))) (pinG g1) ?_
      refine rc_b (i' := 72) (ls' := [some (vR 0), some (vI x1), some (vI x2), some (vI x3), some (vI ((12 * x3) + x2))]) (st' := [vI 2, vI (f4 6 (ix x1)), vI 1, vI 9, vR 0, vI (355 + ((12 * x3) + x2)), vR 1]) (L' := LR z4 (uA (uA f4 1 (upd (f4 1) (ix (67 + ((12 * x3) + x2))) (x1 + 1))) 1 (upd (upd (f4 1) (ix (67 + ((12 * x3) + x2))) (x1 + 1)) (ix (211 + ((12 * x3) + x2))) ((upd (f4 1) (ix (67 + ((12 * x3) + x2))) (x1 + 1)) (ix (7 + x1)))))) 1 (bc2_249_16 (mcall (d + 1)) x1 x2 x3 ((12 * x3) + x2) (f4 6 (ix x1)) 1 9 (355 + ((12 * x3) + x2)) _) ?_
      obtain ⟨g1, H⟩ := H
      refine rc_g (i' := 73) (ls' := [some (vR 0), some (vI x1), some (vI x2), some (vI x3), some (vI ((12 * x3) + x2))]) (st' := [vI ((f4 6 (ix x1)) / 2), vI 1, vI 9, vR 0, vI (355 + ((12 * x3) + x2)), vR 1]) (L' := LR z4 (uA (uA f4 1 (upd (f4 1) (ix (67 + ((12 * x3) + x2))) (x1 + 1))) 1 (upd (upd (f4 1) (ix (67 + ((12 * x3) + x2))) (x1 + 1)) (ix (211 + ((12 * x3) + x2))) ((upd (f4 1) (ix (67 + ((12 * x3) + x2))) (x1 + 1)) (ix (7 + x1)))))) (bc2_249_17 (mcall (d + 1)) (f4 6 (ix x1)) 2 1 9 (355 + ((12 * x3) + x2)) _ _) (cmp_ne.trans (decide_eq_true g1)) ?_
      refine rc_b (i' := 74) (ls' := [some (vR 0), some (vI x1), some (vI x2), some (vI x3), some (vI ((12 * x3) + x2))]) (st' := [vI (1 + ((f4 6 (ix x1)) / 2)), vI 9, vR 0, vI (355 + ((12 * x3) + x2)), vR 1]) (L' := LR z4 (uA (uA f4 1 (upd (f4 1) (ix (67 + ((12 * x3) + x2))) (x1 + 1))) 1 (upd (upd (f4 1) (ix (67 + ((12 * x3) + x2))) (x1 + 1)) (ix (211 + ((12 * x3) + x2))) ((upd (f4 1) (ix (67 + ((12 * x3) + x2))) (x1 + 1)) (ix (7 + x1)))))) 1 (bc2_249_18 (mcall (d + 1)) x1 x2 x3 ((12 * x3) + x2) ((f4 6 (ix x1)) / 2) 1 9 (355 + ((12 * x3) + x2)) _) ?_
      obtain ⟨r5, z5, f5, hc, H⟩ := H
      refine rc_call (t := 75) (ls' := [some (vR 0), some (vI x1), some (vI x2), some (vI x3), some (vI ((12 * x3) + x2))]) (st' := [vI (355 + ((12 * x3) + x2)), vR 1]) (bc2_249_19 (mcall (d + 1)) 9 (1 + ((f4 6 (ix x1)) / 2)) (355 + ((12 * x3) + x2)) _ z4 (uA (uA f4 1 (upd (f4 1) (ix (67 + ((12 * x3) + x2))) (x1 + 1))) 1 (upd (upd (f4 1) (ix (67 + ((12 * x3) + x2))) (x1 + 1)) (ix (211 + ((12 * x3) + x2))) ((upd (f4 1) (ix (67 + ((12 * x3) + x2))) (x1 + 1)) (ix (7 + x1)))))) hc ?_
      show RC (mcall (d + 1)) (mP 249) 75 [some (vR 0), some (vI x1), some (vI x2), some (vI x3), some (vI ((12 * x3) + x2))] [vI r5, vI (355 + ((12 * x3) + x2)), vR 1] (LR z5 f5) res
      obtain ⟨g1, H⟩ := H
      refine rc_g (i' := 76) (ls' := [some (vR 0), some (vI x1), some (vI x2), some (vI x3), some (vI ((12 * x3) + x2))]) (st' := []) (L' := LR z5 (uA f5 1 (upd (f5 1) (ix (355 + ((12 * x3) + x2))) r5))) (bc2_249_20 (mcall (d + 1)) (355 + ((12 * x3) + x2)) r5 _ z5 f5) (pinG g1) ?_
      refine rc_b (i' := 86) (ls' := [some (vR 0), some (vI x1), some (vI x2), some (vI x3), some (vI ((12 * x3) + x2))]) (st' := [vI (47 + x1), vR 1, vI (47 + x1), vR 1]) (L' := LR z5 (uA f5 1 (upd (f5 1) (ix (355 + ((12 * x3) + x2))) r5))) 10 (bc2_249_21 (mcall (d + 1)) x1 x2 x3 ((12 * x3) + x2) z5 (uA f5 1 (upd (f5 1) (ix (355 + ((12 * x3) + x2))) r5))) ?_
      obtain ⟨g1, H⟩ := H
      refine rc_g (i' := 87) (ls' := [some (vR 0), some (vI x1), some (vI x2), some (vI x3), some (vI ((12 * x3) + x2))]) (st' := [vI ((upd (f5 1) (ix (355 + ((12 * x3) + x2))) r5) (ix (47 + x1))), vI (47 + x1), vR 1]) (L' := LR z5 (uA f5 1 (upd (f5 1) (ix (355 + ((12 * x3) + x2))) r5))) (bc2_249_22 (mcall (d + 1)) (47 + x1) (47 + x1) _ z5 (uA f5 1 (upd (f5 1) (ix (355 + ((12 * x3) + x2))) r5))) (pinG g1) ?_
      refine rc_b (i' := 89) (ls' := [some (vR 0), some (vI x1), some (vI x2), some (vI x3), some (vI ((12 * x3) + x2))]) (st' := [vI (((upd (f5 1) (ix (355 + ((12 * x3) + x2))) r5) (ix (47 + x1))) + 1), vI (47 + x1), vR 1]) (L' := LR z5 (uA f5 1 (upd (f5 1) (ix (355 + ((12 * x3) + x2))) r5))) 2 (bc2_249_23 (mcall (d + 1)) x1 x2 x3 ((12 * x3) + x2) ((upd (f5 1) (ix (355 + ((12 * x3) + x2))) r5) (ix (47 + x1))) (47 + x1) _) ?_
      obtain ⟨g1, H⟩ := H
      refine rc_g (i' := 90) (ls' := [some (vR 0), some (vI x1), some (vI x2), some (vI x3), some (vI ((12 * x3) + x2))]) (st' := []) (L' := LR z5 (uA (uA f5 1 (upd (f5 1) (ix (355 + ((12 * x3) + x2))) r5)) 1 (upd (upd (f5 1) (ix (355 + ((12 * x3) + x2))) r5) (ix (47 + x1)) (((upd (f5 1) (ix (355 + ((12 * x3) + x2))) r5) (ix (47 + x1))) + 1)))) (bc2_249_24 (mcall (d + 1)) (47 + x1) (((upd (f5 1) (ix (355 + ((12 * x3) + x2))) r5) (ix (47 + x1))) + 1) _ z5 (uA f5 1 (upd (f5 1) (ix (355 + ((12 * x3) + x2))) r5))) (pinG g1) ?_
      refine rc_b (i' := 91) (ls' := [some (vR 0), some (vI x1), some (vI x2), some (vI x3), some (vI ((12 * x3) + x2))]) (st' := [vI ((12 * x3) + x2)]) (L' := LR z5 (uA (uA f5 1 (upd (f5 1) (ix (355 + ((12 * x3) + x2))) r5)) 1 (upd (upd (f5 1) (ix (355 + ((12 * x3) + x2))) r5) (ix (47 + x1)) (((upd (f5 1) (ix (355 + ((12 * x3) + x2))) r5) (ix (47 + x1))) + 1)))) 1 (bc2_249_25 (mcall (d + 1)) x1 x2 x3 ((12 * x3) + x2) _) ?_
      subst H
      exact rc_ret (bc2_249_26 (mcall (d + 1)) _ _ _)
  · have H := H.2 (cI3f q1 rfl rfl)
    refine rc_b (i' := 14) (ls' := [some (vR 0), some (vI x1), some (vI x2), some (vI x3), o4]) (st' := [vI ((12 * x3) + x2), vR 0]) (L' := LR z f) 6 (bc2_249_28 (mcall (d + 1)) x1 x2 x3 o4 _) ?_
    obtain ⟨r6, z6, f6, hc, H⟩ := H
    refine rc_call (t := 15) (ls' := [some (vR 0), some (vI x1), some (vI x2), some (vI x3), o4]) (st' := []) (bc2_249_29 (mcall (d + 1)) ((12 * x3) + x2) _ z f) hc ?_
    show RC (mcall (d + 1)) (mP 249) 15 [some (vR 0), some (vI x1), some (vI x2), some (vI x3), o4] [vI r6] (LR z6 f6) res
    refine rc_if (it := 21) (ie := 16) (ls' := [some (vR 0), some (vI x1), some (vI x2), some (vI x3), o4]) (st' := []) (bc2_249_30 (mcall (d + 1)) r6 _ _) (fun q3 => ?_) (fun q3 => ?_)
    · have H := H.1 (cI0t q3)
      refine rc_b (i' := 30) (ls' := [some (vR 0), some (vI x1), some (vI x2), some (vI x3), some (vI ((12 * x3) + x2))]) (st' := [vI ((12 * x3) + x2), vR 0, vR 0]) (L' := LR z6 f6) 9 (bc2_249_4 (mcall (d + 1)) x1 x2 x3 o4 _) ?_
      obtain ⟨r7, z7, f7, hc, H⟩ := H
      refine rc_call (t := 31) (ls' := [some (vR 0), some (vI x1), some (vI x2), some (vI x3), some (vI ((12 * x3) + x2))]) (st' := [vR 0]) (bc2_249_5 (mcall (d + 1)) ((12 * x3) + x2) _ z6 f6) hc ?_
      show RC (mcall (d + 1)) (mP 249) 31 [some (vR 0), some (vI x1), some (vI x2), some (vI x3), some (vI ((12 * x3) + x2))] [vI r7, vR 0] (LR z7 f7) res
      refine rc_if (it := 34) (ie := 32) (ls' := [some (vR 0), some (vI x1), some (vI x2), some (vI x3), some (vI ((12 * x3) + x2))]) (st' := [vR 0]) (bc2_249_6 (mcall (d + 1)) r7 _ _) (fun q4 => ?_) (fun q4 => ?_)
      · have H := H.1 (cI0t q4)
        refine rc_b (i' := 37) (ls' := [some (vR 0), some (vI x1), some (vI x2), some (vI x3), some (vI ((12 * x3) + x2))]) (st' := [vI ((12 * x3) + x2), vI x1, vI 0, vR 0]) (L' := LR z7 f7) 3 (bc2_249_7 (mcall (d + 1)) x1 x2 x3 ((12 * x3) + x2) _) ?_
        obtain ⟨z8, f8, hc, H⟩ := H
        refine rc_call (t := 38) (ls' := [some (vR 0), some (vI x1), some (vI x2), some (vI x3), some (vI ((12 * x3) + x2))]) (st' := []) (bc2_249_8 (mcall (d + 1)) 0 x1 ((12 * x3) + x2) _ z7 f7) hc ?_
        show RC (mcall (d + 1)) (mP 249) 38 [some (vR 0), some (vI x1), some (vI x2), some (vI x3), some (vI ((12 * x3) + x2))] [] (LR z8 f8) res
        refine rc_b (i' := 46) (ls' := [some (vR 0), some (vI x1), some (vI x2), some (vI x3), some (vI ((12 * x3) + x2))]) (st' := [vI (x1 + 1), vI (67 + ((12 * x3) + x2)), vR 1]) (L' := LR z8 f8) 8 (bc2_249_9 (mcall (d + 1)) x1 x2 x3 ((12 * x3) + x2) z8 f8) ?_
        obtain ⟨g1, H⟩ := H
        refine rc_g (i' := 47) (ls' := [some (vR 0), some (vI x1), some (vI x2), some (vI x3), some (vI ((12 * x3) + x2))]) (st' := []) (L' := LR z8 (uA f8 1 (upd (f8 1) (ix (67 + ((12 * x3) + x2))) (x1 + 1)))) (bc2_249_10 (mcall (d + 1)) (67 + ((12 * x3) + x2)) (x1 + 1) _ z8 f8) (pinG g1) ?_
        refine rc_b (i' := 57) (ls' := [some (vR 0), some (vI x1), some (vI x2), some (vI x3), some (vI ((12 * x3) + x2))]) (st' := [vI (7 + x1), vR 1, vI (211 + ((12 * x3) + x2)), vR 1]) (L' := LR z8 (uA f8 1 (upd (f8 1) (ix (67 + ((12 * x3) + x2))) (x1 + 1)))) 10 (bc2_249_11 (mcall (d + 1)) x1 x2 x3 ((12 * x3) + x2) z8 (uA f8 1 (upd (f8 1) (ix (67 + ((12 * x3) + x2))) (x1 + 1)))) ?_
        obtain ⟨g1, H⟩ := H
        refine rc_g (i' := 58) (ls' := [some (vR 0), some (vI x1), some (vI x2), some (vI x3), some (vI ((12 * x3) + x2))]) (st' := [vI ((upd (f8 1) (ix (67 + ((12 * x3) + x2))) (x1 + 1)) (ix (7 + x1))), vI (211 + ((12 * x3) + x2)), vR 1]) (L' := LR z8 (uA f8 1 (upd (f8 1) (ix (67 + ((12 * x3) + x2))) (x1 + 1)))) (bc2_249_12 (mcall (d + 1)) (7 + x1) (211 + ((12 * x3) + x2)) _ z8 (uA f8 1 (upd (f8 1) (ix (67 + ((12 * x3) + x2))) (x1 + 1)))) (pinG g1) ?_
        obtain ⟨g1, H⟩ := H
        refine rc_g (i' := 59) (ls' := [some (vR 0), some (vI x1), some (vI x2), some (vI x3), some (vI ((12 * x3) + x2))]) (st' := []) (L' := LR z8 (uA (uA f8 1 (upd (f8 1) (ix (67 + ((12 * x3) + x2))) (x1 + 1))) 1 (upd (upd (f8 1) (ix (67 + ((12 * x3) + x2))) (x1 + 1)) (ix (211 + ((12 * x3) + x2))) ((upd (f8 1) (ix (67 + ((12 * x3) + x2))) (x1 + 1)) (ix (7 + x1)))))) (bc2_249_13 (mcall (d + 1)) (211 + ((12 * x3) + x2)) ((upd (f8 1) (ix (67 + ((12 * x3) + x2))) (x1 + 1)) (ix (7 + x1))) _ z8 (uA f8 1 (upd (f8 1) (ix (67 + ((12 * x3) + x2))) (x1 + 1)))) (pinG g1) ?_
        refine rc_b (i' := 70) (ls' := [some (vR 0), some (vI x1), some (vI x2), some (vI x3), some (vI ((12 * x3) + x2))]) (st' := [vI x1, vR 6, vI 1, vI 9, vR 0, vI (355 + ((12 * x3) + x2)), vR 1]) (L' := LR z8 (uA (uA f8 1 (upd (f8 1) (ix (67 + ((12 * x3) + x2))) (x1 + 1))) 1 (upd (upd (f8 1) (ix (67 + ((12 * x3) + x2))) (x1 + 1)) (ix (211 + ((12 * x3) + x2))) ((upd (f8 1) (ix (67 + ((12 * x3) + x2))) (x1 + 1)) (ix (7 + x1)))))) 11 (bc2_249_14 (mcall (d + 1)) x1 x2 x3 ((12 * x3) + x2) z8 (uA (uA f8 1 (upd (f8 1) (ix (67 + ((12 * x3) + x2))) (x1 + 1))) 1 (upd (upd (f8 1) (ix (67 + ((12 * x3) + x2))) (x1 + 1)) (ix (211 + ((12 * x3) + x2))) ((upd (f8 1) (ix (67 + ((12 * x3) + x2))) (x1 + 1)) (ix (7 + x1)))))) ?_
        obtain ⟨g1, H⟩ := H
        refine rc_g (i' := 71) (ls' := [some (vR 0), some (vI x1), some (vI x2), some (vI x3), some (vI ((12 * x3) + x2))]) (st' := [vI (f8 6 (ix x1)), vI 1, vI 9, vR 0, vI (355 + ((12 * x3) + x2)), vR 1]) (L' := LR z8 (uA (uA f8 1 (upd (f8 1) (ix (67 + ((12 * x3) + x2))) (x1 + 1))) 1 (upd (upd (f8 1) (ix (67 + ((12 * x3) + x2))) (x1 + 1)) (ix (211 + ((12 * x3) + x2))) ((upd (f8 1) (ix (67 + ((12 * x3) + x2))) (x1 + 1)) (ix (7 + x1)))))) (bc2_249_15 (mcall (d + 1)) x1 1 9 (355 + ((12 * x3) + x2)) _ z8 (uA (uA f8 1 (upd (f8 1) (ix (67 + ((12 * x3) + x2))) (x1 + 1))) 1 (upd (upd (f8 1) (ix (67 + ((12 * x3) + x2))) (x1 + 1)) (ix (211 + ((12 * x3) + x2))) ((upd (f8 1) (ix (67 + ((12 * x3) + x2))) (x1 + 1)) (ix (7 + x1)))))) (pinG g1) ?_
        refine rc_b (i' := 72) (ls' := [some (vR 0), some (vI x1), some (vI x2), some (vI x3), some (vI ((12 * x3) + x2))]) (st' := [vI 2, vI (f8 6 (ix x1)), vI 1, vI 9, vR 0, vI (355 + ((12 * x3) + x2)), vR 1]) (L' := LR z8 (uA (uA f8 1 (upd (f8 1) (ix (67 + ((12 * x3) + x2))) (x1 + 1))) 1 (upd (upd (f8 1) (ix (67 + ((12 * x3) + x2))) (x1 + 1)) (ix (211 + ((12 * x3) + x2))) ((upd (f8 1) (ix (67 + ((12 * x3) + x2))) (x1 + 1)) (ix (7 + x1)))))) 1 (bc2_249_16 (mcall (d + 1)) x1 x2 x3 ((12 * x3) + x2) (f8 6 (ix x1)) 1 9 (355 + ((12 * x3) + x2)) _) ?_
        obtain ⟨g1, H⟩ := H
        refine rc_g (i' := 73) (ls' := [some (vR 0), some (vI x1), some (vI x2), some (vI x3), some (vI ((12 * x3) + x2))]) (st' := [vI ((f8 6 (ix x1)) / 2), vI 1, vI 9, vR 0, vI (355 + ((12 * x3) + x2)), vR 1]) (L' := LR z8 (uA (uA f8 1 (upd (f8 1) (ix (67 + ((12 * x3) + x2))) (x1 + 1))) 1 (upd (upd (f8 1) (ix (67 + ((12 * x3) + x2))) (x1 + 1)) (ix (211 + ((12 * x3) + x2))) ((upd (f8 1) (ix (67 + ((12 * x3) + x2))) (x1 + 1)) (ix (7 + x1)))))) (bc2_249_17 (mcall (d + 1)) (f8 6 (ix x1)) 2 1 9 (355 + ((12 * x3) + x2)) _ _) (cmp_ne.trans (decide_eq_true g1)) ?_
        refine rc_b (i' := 74) (ls' := [some (vR 0), some (vI x1), some (vI x2), some (vI x3), some (vI ((12 * x3) + x2))]) (st' := [vI (1 + ((f8 6 (ix x1)) / 2)), vI 9, vR 0, vI (355 + ((12 * x3) + x2)), vR 1]) (L' := LR z8 (uA (uA f8 1 (upd (f8 1) (ix (67 + ((12 * x3) + x2))) (x1 + 1))) 1 (upd (upd (f8 1) (ix (67 + ((12 * x3) + x2))) (x1 + 1)) (ix (211 + ((12 * x3) + x2))) ((upd (f8 1) (ix (67 + ((12 * x3) + x2))) (x1 + 1)) (ix (7 + x1)))))) 1 (bc2_249_18 (mcall (d + 1)) x1 x2 x3 ((12 * x3) + x2) ((f8 6 (ix x1)) / 2) 1 9 (355 + ((12 * x3) + x2)) _) ?_
        obtain ⟨r9, z9, f9, hc, H⟩ := H
        refine rc_call (t := 75) (ls' := [some (vR 0), some (vI x1), some (vI x2), some (vI x3), some (vI ((12 * x3) + x2))]) (st' := [vI (355 + ((12 * x3) + x2)), vR 1]) (bc2_249_19 (mcall (d + 1)) 9 (1 + ((f8 6 (ix x1)) / 2)) (355 + ((12 * x3) + x2)) _ z8 (uA (uA f8 1 (upd (f8 1) (ix (67 + ((12 * x3) + x2))) (x1 + 1))) 1 (upd (upd (f8 1) (ix (67 + ((12 * x3) + x2))) (x1 + 1)) (ix (211 + ((12 * x3) + x2))) ((upd (f8 1) (ix (67 + ((12 * x3) + x2))) (x1 + 1)) (ix (7 + x1)))))) hc ?_
        show RC (mcall (d + 1)) (mP 249) 75 [some (vR 0), some (vI x1), some (vI x2), some (vI x3), some (vI ((12 * x3) + x2))] [vI r9, vI (355 + ((12 * x3) + x2)), vR 1] (LR z9 f9) res
        obtain ⟨g1, H⟩ := H
        refine rc_g (i' := 76) (ls' := [some (vR 0), some (vI x1), some (vI x2), some (vI x3), some (vI ((12 * x3) + x2))]) (st' := []) (L' := LR z9 (uA f9 1 (upd (f9 1) (ix (355 + ((12 * x3) + x2))) r9))) (bc2_249_20 (mcall (d + 1)) (355 + ((12 * x3) + x2)) r9 _ z9 f9) (pinG g1) ?_
        refine rc_b (i' := 86) (ls' := [some (vR 0), some (vI x1), some (vI x2), some (vI x3), some (vI ((12 * x3) + x2))]) (st' := [vI (47 + x1), vR 1, vI (47 + x1), vR 1]) (L' := LR z9 (uA f9 1 (upd (f9 1) (ix (355 + ((12 * x3) + x2))) r9))) 10 (bc2_249_21 (mcall (d + 1)) x1 x2 x3 ((12 * x3) + x2) z9 (uA f9 1 (upd (f9 1) (ix (355 + ((12 * x3) + x2))) r9))) ?_
        obtain ⟨g1, H⟩ := H
        refine rc_g (i' := 87) (ls' := [some (vR 0), some (vI x1), some (vI x2), some (vI x3), some (vI ((12 * x3) + x2))]) (st' := [vI ((upd (f9 1) (ix (355 + ((12 * x3) + x2))) r9) (ix (47 + x1))), vI (47 + x1), vR 1]) (L' := LR z9 (uA f9 1 (upd (f9 1) (ix (355 + ((12 * x3) + x2))) r9))) (bc2_249_22 (mcall (d + 1)) (47 + x1) (47 + x1) _ z9 (uA f9 1 (upd (f9 1) (ix (355 + ((12 * x3) + x2))) r9))) (pinG g1) ?_
        refine rc_b (i' := 89) (ls' := [some (vR 0), some (vI x1), some (vI x2), some (vI x3), some (vI ((12 * x3) + x2))]) (st' := [vI (((upd (f9 1) (ix (355 + ((12 * x3) + x2))) r9) (ix (47 + x1))) + 1), vI (47 + x1), vR 1]) (L' := LR z9 (uA f9 1 (upd (f9 1) (ix (355 + ((12 * x3) + x2))) r9))) 2 (bc2_249_23 (mcall (d + 1)) x1 x2 x3 ((12 * x3) + x2) ((upd (f9 1) (ix (355 + ((12 * x3) + x2))) r9) (ix (47 + x1))) (47 + x1) _) ?_
        obtain ⟨g1, H⟩ := H
        refine rc_g (i' := 90) (ls' := [some (vR 0), some (vI x1), some (vI x2), some (vI x3), some (vI ((12 * x3) + x2))]) (st' := []) (L' := LR z9 (uA (uA f9 1 (upd (f9 1) (ix (355 + ((12 * x3) + x2))) r9)) 1 (upd (upd (f9 1) (ix (355 + ((12 * x3) + x2))) r9) (ix (47 + x1)) (((upd (f9 1) (ix (355 + ((12 * x3) + x2))) r9) (ix (47 + x1))) + 1)))) (bc2_249_24 (mcall (d + 1)) (47 + x1) (((upd (f9 1) (ix (355 + ((12 * x3) + x2))) r9) (ix (47 + x1))) + 1) _ z9 (uA f9 1 (upd (f9 1) (ix (355 + ((12 * x3) + x2))) r9))) (pinG g1) ?_
        refine rc_b (i' := 91) (ls' := [some (vR 0), some (vI x1), some (vI x2), some (vI x3), some (vI ((12 * x3) + x2))]) (st' := [vI ((12 * x3) + x2)]) (L' := LR z9 (uA (uA f9 1 (upd (f9 1) (ix (355 + ((12 * x3) + x2))) r9)) 1 (upd (upd (f9 1) (ix (355 + ((12 * x3) + x2))) r9) (ix (47 + x1)) (((upd (f9 1) (ix (355 + ((12 * x3) + x2))) r9) (ix (47 + x1))) + 1)))) 1 (bc2_249_25 (mcall (d + 1)) x1 x2 x3 ((12 * x3) + x2) _) ?_
        subst H
        exact rc_ret (bc2_249_26 (mcall (d + 1)) _ _ _)
      · have H := H.2 (cI0f q4)
        refine rc_b (i' := 37) (ls' := [some (vR 0), some (vI x1), some (vI x2), some (vI x3), some (vI ((12 * x3) + x2))]) (st' := [vI ((12 * x3) + x2), vI x1, vI 1, vR 0]) (L' := LR z7 f7) 4 (bc2_249_27 (mcall (d + 1)) x1 x2 x3 ((12 * x3) + x2) _) ?_
        obtain ⟨z10, f10, hc, H⟩ := H
        refine rc_call (t := 38) (ls' := [some (vR 0), some (vI x1), some (vI x2), some (vI x3), some (vI ((12 * x3) + x2))]) (st' := []) (bc2_249_8 (mcall (d + 1)) 1 x1 ((12 * x3) + x2) _ z7 f7) hc ?_
        show RC (mcall (d + 1)) (mP 249) 38 [some (vR 0), some (vI x1), some (vI x2), some (vI x3), some (vI ((12 * x3) + x2))] [] (LR z10 f10) res
        refine rc_b (i' := 46) (ls' := [some (vR 0), some (vI x1), some (vI x2), some (vI x3), some (vI ((12 * x3) + x2))]) (st' := [vI (x1 + 1), vI (67 + ((12 * x3) + x2)), vR 1]) (L' := LR z10 f10) 8 (bc2_249_9 (mcall (d + 1)) x1 x2 x3 ((12 * x3) + x2) z10 f10) ?_
        obtain ⟨g1, H⟩ := H
        refine rc_g (i' := 47) (ls' := [some (vR 0), some (vI x1), some (vI x2), some (vI x3), some (vI ((12 * x3) + x2))]) (st' := []) (L' := LR z10 (uA f10 1 (upd (f10 1) (ix (67 + ((12 * x3) + x2))) (x1 + 1)))) (bc2_249_10 (mcall (d + 1)) (67 + ((12 * x3) + x2)) (x1 + 1) _ z10 f10) (pinG g1) ?_
        refine rc_b (i' := 57) (ls' := [some (vR 0), some (vI x1), some (vI x2), some (vI x3), some (vI ((12 * x3) + x2))]) (st' := [vI (7 + x1), vR 1, vI (211 + ((12 * x3) + x2)), vR 1]) (L' := LR z10 (uA f10 1 (upd (f10 1) (ix (67 + ((12 * x3) + x2))) (x1 + 1)))) 10 (bc2_249_11 (mcall (d + 1)) x1 x2 x3 ((12 * x3) + x2) z10 (uA f10 1 (upd (f10 1) (ix (67 + ((12 * x3) + x2))) (x1 + 1)))) ?_
        obtain ⟨g1, H⟩ := H
        refine rc_g (i' := 58) (ls' := [some (vR 0), some (vI x1), some (vI x2), some (vI x3), some (vI ((12 * x3) + x2))]) (st' := [vI ((upd (f10 1) (ix (67 + ((12 * x3) + x2))) (x1 + 1)) (ix (7 + x1))), vI (211 + ((12 * x3) + x2)), vR 1]) (L' := LR z10 (uA f10 1 (upd (f10 1) (ix (67 + ((12 * x3) + x2))) (x1 + 1)))) (bc2_249_12 (mcall (d + 1)) (7 + x1) (211 + ((12 * x3) + x2)) _ z10 (uA f10 1 (upd (f10 1) (ix (67 + ((12 * x3) + x2))) (x1 + 1)))) (pinG g1) ?_
        obtain ⟨g1, H⟩ := H
        refine rc_g (i' := 59) (ls' := [some (vR 0), some (vI x1), some (vI x2), some (vI x3), some (vI ((12 * x3) + x2))]) (st' := []) (L' := LR z10 (uA (uA f10 1 (upd (f10 1) (ix (67 + ((12 * x3) + x2))) (x1 + 1))) 1 (upd (upd (f10 1) (ix (67 + ((12 * x3) + x2))) (x1 + 1)) (ix (211 + ((12 * x3) + x2))) ((upd (f10 1) (ix (67 + ((12 * x3) + x2))) (x1 + 1)) (ix (7 + x1)))))) (bc2_249_13 (mcall (d + 1)) (211 + ((12 * x3) + x2)) ((upd (f10 1) (ix (67 + ((12 * x3) + x2))) (x1 + 1)) (ix (7 + x1))) _ z10 (uA f10 1 (upd (f10 1) (ix (67 + ((12 * x3) + x2))) (x1 + 1)))) (pinG g1) ?_
        refine rc_b (i' := 70) (ls' := [some (vR 0), some (vI x1), some (vI x2), some (vI x3), some (vI ((12 * x3) + x2))]) (st' := [vI x1, vR 6, vI 1, vI 9, vR 0, vI (355 + ((12 * x3) + x2)), vR 1]) (L' := LR z10 (uA (uA f10 1 (upd (f10 1) (ix (67 + ((12 * x3) + x2))) (x1 + 1))) 1 (upd (upd (f10 1) (ix (67 + ((12 * x3) + x2))) (x1 + 1)) (ix (211 + ((12 * x3) + x2))) ((upd (f10 1) (ix (67 + ((12 * x3) + x2))) (x1 + 1)) (ix (7 + x1)))))) 11 (bc2_249_14 (mcall (d + 1)) x1 x2 x3 ((12 * x3) + x2) z10 (uA (uA f10 1 (upd (f10 1) (ix (67 + ((12 * x3) + x2))) (x1 + 1))) 1 (upd (upd (f10 1) (ix (67 + ((12 * x3) + x2))) (x1 + 1)) (ix (211 + ((12 * x3) + x2))) ((upd (f10 1) (ix (67 + ((12 * x3) + x2))) (x1 + 1)) (ix (7 + x1)))))) ?_
        obtain ⟨g1, H⟩ := H
        refine rc_g (i' := 71) (ls' := [some (vR 0), some (vI x1), some (vI x2), some (vI x3), some (vI ((12 * x3) + x2))]) (st' := [vI (f10 6 (ix x1)), vI 1, vI 9, vR 0, vI (355 + ((12 * x3) + x2)), vR 1]) (L' := LR z10 (uA (uA f10 1 (upd (f10 1) (ix (67 + ((12 * x3) + x2))) (x1 + 1))) 1 (upd (upd (f10 1) (ix (67 + ((12 * x3) + x2))) (x1 + 1)) (ix (211 + ((12 * x3) + x2))) ((upd (f10 1) (ix (67 + ((12 * x3) + x2))) (x1 + 1)) (ix (7 + x1)))))) (bc2_249_15 (mcall (d + 1)) x1 1 9 (355 + ((12 * x3) + x2)) _ z10 (uA (uA f10 1 (upd (f10 1) (ix (67 + ((12 * x3) + x2))) (x1 + 1))) 1 (upd (upd (f10 1) (ix (67 + ((12 * x3) + x2))) (x1 + 1)) (ix (211 + ((12 * x3) + x2))) ((upd (f10 1) (ix (67 + ((12 * x3) + x2))) (x1 + 1)) (ix (7 + x1)))))) (pinG g1) ?_
        refine rc_b (i' := 72) (ls' := [some (vR 0), some (vI x1), some (vI x2), some (vI x3), some (vI ((12 * x3) + x2))]) (st' := [vI 2, vI (f10 6 (ix x1)), vI 1, vI 9, vR 0, vI (355 + ((12 * x3) + x2)), vR 1]) (L' := LR z10 (uA (uA f10 1 (upd (f10 1) (ix (67 + ((12 * x3) + x2))) (x1 + 1))) 1 (upd (upd (f10 1) (ix (67 + ((12 * x3) + x2))) (x1 + 1)) (ix (211 + ((12 * x3) + x2))) ((upd (f10 1) (ix (67 + ((12 * x3) + x2))) (x1 + 1)) (ix (7 + x1)))))) 1 (bc2_249_16 (mcall (d + 1)) x1 x2 x3 ((12 * x3) + x2) (f10 6 (ix x1)) 1 9 (355 + ((12 * x3) + x2)) _) ?_
        obtain ⟨g1, H⟩ := H
        refine rc_g (i' := 73) (ls' := [some (vR 0), some (vI x1), some (vI x2), some (vI x3), some (vI ((12 * x3) + x2))]) (st' := [vI ((f10 6 (ix x1)) / 2), vI 1, vI 9, vR 0, vI (355 + ((12 * x3) + x2)), vR 1]) (L' := LR z10 (uA (uA f10 1 (upd (f10 1) (ix (67 + ((12 * x3) + x2))) (x1 + 1))) 1 (upd (upd (f10 1) (ix (67 + ((12 * x3) + x2))) (x1 + 1)) (ix (211 + ((12 * x3) + x2))) ((upd (f10 1) (ix (67 + ((12 * x3) + x2))) (x1 + 1)) (ix (7 + x1)))))) (bc2_249_17 (mcall (d + 1)) (f10 6 (ix x1)) 2 1 9 (355 + ((12 * x3) + x2)) _ _) (cmp_ne.trans (decide_eq_true g1)) ?_
        refine rc_b (i' := 74) (ls' := [some (vR 0), some (vI x1), some (vI x2), some (vI x3), some (vI ((12 * x3) + x2))]) (st' := [vI (1 + ((f10 6 (ix x1)) / 2)), vI 9, vR 0, vI (355 + ((12 * x3) + x2)), vR 1]) (L' := LR z10 (uA (uA f10 1 (upd (f10 1) (ix (67 + ((12 * x3) + x2))) (x1 + 1))) 1 (upd (upd (f10 1) (ix (67 + ((12 * x3) + x2))) (x1 + 1)) (ix (211 + ((12 * x3) + x2))) ((upd (f10 1) (ix (67 + ((12 * x3) + x2))) (x1 + 1)) (ix (7 + x1)))))) 1 (bc2_249_18 (mcall (d + 1)) x1 x2 x3 ((12 * x3) + x2) ((f10 6 (ix x1)) / 2) 1 9 (355 + ((12 * x3) + x2)) _) ?_
        obtain ⟨r11, z11, f11, hc, H⟩ := H
        refine rc_call (t := 75) (ls' := [some (vR 0), some (vI x1), some (vI x2), some (vI x3), some (vI ((12 * x3) + x2))]) (st' := [vI (355 + ((12 * x3) + x2)), vR 1]) (bc2_249_19 (mcall (d + 1)) 9 (1 + ((f10 6 (ix x1)) / 2)) (355 + ((12 * x3) + x2)) _ z10 (uA (uA f10 1 (upd (f10 1) (ix (67 + ((12 * x3) + x2))) (x1 + 1))) 1 (upd (upd (f10 1) (ix (67 + ((12 * x3) + x2))) (x1 + 1)) (ix (211 + ((12 * x3) + x2))) ((upd (f10 1) (ix (67 + ((12 * x3) + x2))) (x1 + 1)) (ix (7 + x1)))))) hc ?_
        show RC (mcall (d + 1)) (mP 249) 75 [some (vR 0), some (vI x1), some (vI x2), some (vI x3), some (vI ((12 * x3) + x2))] [vI r11, vI (355 + ((12 * x3) + x2)), vR 1] (LR z11 f11) res
        obtain ⟨g1, H⟩ := H
        refine rc_g (i' := 76) (ls' := [some (vR 0), some (vI x1), some (vI x2), some (vI x3), some (vI ((12 * x3) + x2))]) (st' := []) (L' := LR z11 (uA f11 1 (upd (f11 1) (ix (355 + ((12 * x3) + x2))) r11))) (bc2_249_20 (mcall (d + 1)) (355 + ((12 * x3) + x2)) r11 _ z11 f11) (pinG g1) ?_
        refine rc_b (i' := 86) (ls' := [some (vR 0), some (vI x1), some (vI x2), some (vI x3), some (vI ((12 * x3) + x2))]) (st' := [vI (47 + x1), vR 1, vI (47 + x1), vR 1]) (L' := LR z11 (uA f11 1 (upd (f11 1) (ix (355 + ((12 * x3) + x2))) r11))) 10 (bc2_249_21 (mcall (d + 1)) x1 x2 x3 ((12 * x3) + x2) z11 (uA f11 1 (upd (f11 1) (ix (355 + ((12 * x3) + x2))) r11))) ?_
        obtain ⟨g1, H⟩ := H
        refine rc_g (i' := 87) (ls' := [some (vR 0), some (vI x1), some (vI x2), some (vI x3), some (vI ((12 * x3) + x2))]) (st' := [vI ((upd (f11 1) (ix (355 + ((12 * x3) + x2))) r11) (ix (47 + x1))), vI (47 + x1), vR 1]) (L' := LR z11 (uA f11 1 (upd (f11 1) (ix (355 + ((12 * x3) + x2))) r11))) (bc2_249_22 (mcall (d + 1)) (47 + x1) (47 + x1) _ z11 (uA f11 1 (upd (f11 1) (ix (355 + ((12 * x3) + x2))) r11))) (pinG g1) ?_
        refine rc_b (i' := 89) (ls' := [some (vR 0), some (vI x1), some (vI x2), some (vI x3), some (vI ((12 * x3) + x2))]) (st' := [vI (((upd (f11 1) (ix (355 + ((12 * x3) + x2))) r11) (ix (47 + x1))) + 1), vI (47 + x1), vR 1]) (L' := LR z11 (uA f11 1 (upd (f11 1) (ix (355 + ((12 * x3) + x2))) r11))) 2 (bc2_249_23 (mcall (d + 1)) x1 x2 x3 ((12 * x3) + x2) ((upd (f11 1) (ix (355 + ((12 * x3) + x2))) r11) (ix (47 + x1))) (47 + x1) _) ?_
        obtain ⟨g1, H⟩ := H
        refine rc_g (i' := 90) (ls' := [some (vR 0), some (vI x1), some (vI x2), some (vI x3), some (vI ((12 * x3) + x2))]) (st' := []) (L' := LR z11 (uA (uA f11 1 (upd (f11 1) (ix (355 + ((12 * x3) + x2))) r11)) 1 (upd (upd (f11 1) (ix (355 + ((12 * x3) + x2))) r11) (ix (47 + x1)) (((upd (f11 1) (ix (355 + ((12 * x3) + x2))) r11) (ix (47 + x1))) + 1)))) (bc2_249_24 (mcall (d + 1)) (47 + x1) (((upd (f11 1) (ix (355 + ((12 * x3) + x2))) r11) (ix (47 + x1))) + 1) _ z11 (uA f11 1 (upd (f11 1) (ix (355 + ((12 * x3) + x2))) r11))) (pinG g1) ?_
        refine rc_b (i' := 91) (ls' := [some (vR 0), some (vI x1), some (vI x2), some (vI x3), some (vI ((12 * x3) + x2))]) (st' := [vI ((12 * x3) + x2)]) (L' := LR z11 (uA (uA f11 1 (upd (f11 1) (ix (355 + ((12 * x3) + x2))) r11)) 1 (upd (upd (f11 1) (ix (355 + ((12 * x3) + x2))) r11) (ix (47 + x1)) (((upd (f11 1) (ix (355 + ((12 * x3) + x2))) r11) (ix (47 + x1))) + 1)))) 1 (bc2_249_25 (mcall (d + 1)) x1 x2 x3 ((12 * x3) + x2) _) ?_
        subst H
        exact rc_ret (bc2_249_26 (mcall (d + 1)) _ _ _)
    · have H := H.2 (cI0f q3)
      refine rc_b (i' := 2) (ls' := [some (vR 0), some (vI x1), some (vI x2), some (vI (x3 + 1)), o4]) (st' := []) (L' := LR z6 f6) 5 (bc2_249_31 (mcall (d + 1)) x1 x2 x3 o4 _) ?_
      exact H
set_option maxRecDepth 100000 in
theorem b48_1 (call : QC FA) (o1 : Option PV) (o2 : Option PV) (L : QH FA) (F : Nat) : rnG call 48 (F + 4) 0 [some (vR 0), o1, o2] [] L = rnG call 48 F 4 [some (vR 0), some (vI 0), some (vI 0)] [] L := rfl
theorem vc48_0 (d : Nat) (o1 : Option PV) (o2 : Option PV) (z : Nat → Int32) (f : Nat → FA) (res : Option PV × QH FA) (H : RC (mcall (d + 5)) (mP 48) 4 [some (vR 0), some (vI 0), some (vI 0)] [] (LR z f) res) : RC (mcall (d + 5)) (mP 48) 0 [some (vR 0), o1, o2] [] (LR z f) res := by
  refine rc_b (i' := 4) (ls' := [some (vR 0), some (vI 0), some (vI 0)]) (st' := []) (L' := LR z f) 4 (b48_1 (mcall (d + 5)) o1 o2 _) ?_
  exact H
set_option maxRecDepth 100000 in
theorem bc4_48_1 (call : QC FA) (x1 : Int32) (x2 : Int32) (L : QH FA) (F : Nat) : rnG call 48 (F + 2) 4 [some (vR 0), some (vI x1), some (vI x2)] [] L = rnG call 48 F 6 [some (vR 0), some (vI x1), some (vI x2)] [vI 144, vI x2] L := rfl
set_option maxRecDepth 100000 in
theorem bc4_48_2 (call : QC FA) (x y : Int32) (ls : List (Option PV)) (L : QH FA) (F : Nat) : rnG call 48 (F + 1) 6 ls [vI y, vI x] L = bif pcmp 3 x y then rnG call 48 F 26 ls [] L else rnG call 48 F 7 ls [] L := rfl
set_option maxRecDepth 100000 in
theorem bc4_48_3 (call : QC FA) (x1 : Int32) (x2 : Int32) (L : QH FA) (F : Nat) : rnG call 48 (F + 1) 26 [some (vR 0), some (vI x1), some (vI x2)] [] L = rnG call 48 F 27 [some (vR 0), some (vI x1), some (vI x2)] [vI x1] L := rfl
set_option maxRecDepth 100000 in
theorem bc4_48_4 (call : QC FA) (x : Int32) (ls : List (Option PV)) (L : QH FA) (F : Nat) : rnG call 48 (F + 1) 27 ls [vI x] L = some (some (vI x), L) := rfl
set_option maxRecDepth 100000 in
theorem bc4_48_5 (call : QC FA) (x1 : Int32) (x2 : Int32) (L : QH FA) (F : Nat) : rnG call 48 (F + 2) 7 [some (vR 0), some (vI x1), some (vI x2)] [] L = rnG call 48 F 9 [some (vR 0), some (vI x1), some (vI x2)] [vI x2, vR 0] L := rfl
set_option maxRecDepth 100000 in
theorem bc4_48_6 (call : QC FA) (a0 : Int32) (ls : List (Option PV)) (z : Nat → Int32) (f : Nat → FA) (F : Nat) : rnG call 48 (F + 1) 9 ls [vI a0, vR 0] (LR z f) = cbd (call 49 [vR 0, vI a0] (LR z f)) (fun r L' => rnG call 48 F 10 ls (r.toList ++ []) L') := pcY (ih := rnG call 48 F) (call := call) (a := 49) (b := 1) (v := 12) (t := 10) (x := 0) (ls := ls) (As := [vI a0]) (st' := []) (L := LR z f) rfl rfl rfl
set_option maxRecDepth 100000 in
theorem bc4_48_7 (call : QC FA) (x : Int32) (ls : List (Option PV)) (L : QH FA) (F : Nat) : rnG call 48 (F + 1) 10 ls [vI x] L = bif pcmp 0 x 0 then rnG call 48 F 24 ls [] L else rnG call 48 F 11 ls [] L := rfl
set_option maxRecDepth 100000 in
theorem bc4_48_8 (call : QC FA) (x1 : Int32) (x2 : Int32) (L : QH FA) (F : Nat) : rnG call 48 (F + 1) 24 [some (vR 0), some (vI x1), some (vI x2)] [] L = rnG call 48 F 25 [some (vR 0), some (vI x1), some (vI (x2 + 1))] [] L := rfl
set_option maxRecDepth 100000 in
theorem bc4_48_9 (call : QC FA) (x1 : Int32) (x2 : Int32) (L : QH FA) (F : Nat) : rnG call 48 (F + 1) 25 [some (vR 0), some (vI x1), some (vI x2)] [] L = rnG call 48 F 4 [some (vR 0), some (vI x1), some (vI x2)] [] L := rfl
set_option maxRecDepth 100000 in
theorem bc4_48_10 (call : QC FA) (x1 : Int32) (x2 : Int32) (z : Nat → Int32) (f : Nat → FA) (F : Nat) : rnG call 48 (F + 6) 11 [some (vR 0), some (vI x1), some (vI x2)] [] (LR z f) = rnG call 48 F 17 [some (vR 0), some (vI x1), some (vI x2)] [vI (211 + x2), vR 1, vI x1] (LR z f) := rfl
set_option maxRecDepth 100000 in
theorem bc4_48_11 (call : QC FA) (x : Int32) (s0 : Int32) (ls : List (Option PV)) (z : Nat → Int32) (f : Nat → FA) (F : Nat) : rnG call 48 (F + 1) 17 ls [vI x, vR 1, vI s0] (LR z f) = bif (Nat.beq 0 0 && pin x 499) then rnG call 48 F 18 ls [vI (f 1 (ix x)), vI s0] (LR z f) else none := rfl
set_option maxRecDepth 100000 in
theorem bc4_48_12 (call : QC FA) (x1 : Int32) (x2 : Int32) (s0 : Int32) (s1 : Int32) (L : QH FA) (F : Nat) : rnG call 48 (F + 2) 18 [some (vR 0), some (vI x1), some (vI x2)] [vI s0, vI s1] L = rnG call 48 F 20 [some (vR 0), some (vI x1), some (vI x2)] [vI x2, vR 0, vI s0, vI s1] L := rfl
set_option maxRecDepth 100000 in
theorem bc4_48_13 (call : QC FA) (a0 : Int32) (s0 : Int32) (s1 : Int32) (ls : List (Option PV)) (z : Nat → Int32) (f : Nat → FA) (F : Nat) : rnG call 48 (F + 1) 20 ls [vI a0, vR 0, vI s0, vI s1] (LR z f) = cbd (call 50 [vR 0, vI a0] (LR z f)) (fun r L' => rnG call 48 F 21 ls (r.toList ++ [vI s0, vI s1]) L') := pcY (ih := rnG call 48 F) (call := call) (a := 50) (b := 1) (v := 12) (t := 21) (x := 0) (ls := ls) (As := [vI a0]) (st' := [vI s0, vI s1]) (L := LR z f) rfl rfl rfl
set_option maxRecDepth 100000 in
theorem bc4_48_14 (call : QC FA) (x1 : Int32) (x2 : Int32) (s0 : Int32) (s1 : Int32) (s2 : Int32) (L : QH FA) (F : Nat) : rnG call 48 (F + 3) 21 [some (vR 0), some (vI x1), some (vI x2)] [vI s0, vI s1, vI s2] L = rnG call 48 F 24 [some (vR 0), some (vI (s2 + (s1 * s0))), some (vI x2)] [] L := rfl
theorem vcc4_48_4 (d : Nat) (x1 : Int32) (x2 : Int32) (z : Nat → Int32) (f : Nat → FA) (res : Option PV × QH FA) (H : ((144 ≤ I x2 → res = (some (vI x1), LR z f)) ∧ (I x2 < 144 → (∃ (r1 : Int32) (z1 : Nat → Int32) (f1 : Nat → FA), (mcall (d + 5)) 49 [vR 0, vI x2] (LR z f) = some (some (vI r1), LR z1 f1) ∧ ((r1 = 0 → RC (mcall (d + 5)) (mP 48) 4 [some (vR 0), some (vI x1), some (vI (x2 + 1))] [] (LR z1 f1) res) ∧ (¬ r1 = 0 → (pin (211 + x2) 499 = true ∧ (∃ (r2 : Int32) (z2 : Nat → Int32) (f2 : Nat → FA), (mcall (d + 5)) 50 [vR 0, vI x2] (LR z1 f1) = some (some (vI r2), LR z2 f2) ∧ RC (mcall (d + 5)) (mP 48) 4 [some (vR 0), some (vI (x1 + ((f1 1 (ix (211 + x2))) * r2))), some (vI (x2 + 1))] [] (LR z2 f2) res)))))))) : RC (mcall (d + 5)) (mP 48) 4 [some (vR 0), some (vI x1), some (vI x2)] [] (LR z f) res := by
  refine rc_b (i' := 6) (ls' := [some (vR 0), some (vI x1), some (vI x2)]) (st' := [vI 144, vI x2]) (L' := LR z f) 2 (bc4_48_1 (mcall (d + 5)) x1 x2 _) ?_
  refine rc_if (it := 26) (ie := 7) (ls' := [some (vR 0), some (vI x1), some (vI x2)]) (st' := []) (bc4_48_2 (mcall (d + 5)) x2 144 _ _) (fun q1 => ?_) (fun q1 => ?_)
  · have H := H.1 (cI3t q1 rfl rfl)
    refine rc_b (i' := 27) (ls' := [some (vR 0), some (vI x1), some (vI x2)]) (st' := [vI x1]) (L' := LR z f) 1 (bc4_48_3 (mcall (d + 5)) x1 x2 _) ?_
    subst H
    exact rc_ret (bc4_48_4 (mcall (d + 5)) _ _ _)
  · have H := H.2 (cI3f q1 rfl rfl)
    refine rc_b (i' := 9) (ls' := [some (vR 0), some (vI x1), some (vI x2)]) (st' := [vI x2, vR 0]) (L' := LR z f) 2 (bc4_48_5 (mcall (d + 5)) x1 x2 _) ?_
    obtain ⟨r1, z1, f1, hc, H⟩ := H
    refine rc_call (t := 10) (ls' := [some (vR 0), some (vI x1), some (vI x2)]) (st' := []) (bc4_48_6 (mcall (d + 5)) x2 _ z f) hc ?_
    show RC (mcall (d + 5)) (mP 48) 10 [some (vR 0), some (vI x1), some (vI x2)] [vI r1] (LR z1 f1) res
    refine rc_if (it := 24) (ie := 11) (ls' := [some (vR 0), some (vI x1), some (vI x2)]) (st' := []) (bc4_48_7 (mcall (d + 5)) r1 _ _) (fun q2 => ?_) (fun q2 => ?_)
    · have H := H.1 (cI0t q2)
      refine rc_b (i' := 25) (ls' := [some (vR 0), some (vI x1), some (vI (x2 + 1))]) (st' := []) (L' := LR z1 f1) 1 (bc4_48_8 (mcall (d + 5)) x1 x2 _) ?_
      refine rc_b (i' := 4) (ls' := [some (vR 0), some (vI x1), some (vI (x2 + 1))]) (st' := []) (L' := LR z1 f1) 1 (bc4_48_9 (mcall (d + 5)) x1 (x2 + 1) _) ?_
      exact H
    · have H := H.2 (cI0f q2)
      refine rc_b (i' := 17) (ls' := [some (vR 0), some (vI x1), some (vI x2)]) (st' := [vI (211 + x2), vR 1, vI x1]) (L' := LR z1 f1) 6 (bc4_48_10 (mcall (d + 5)) x1 x2 z1 f1) ?_
      obtain ⟨g1, H⟩ := H
      refine rc_g (i' := 18) (ls' := [some (vR 0), some (vI x1), some (vI x2)]) (st' := [vI (f1 1 (ix (211 + x2))), vI x1]) (L' := LR z1 f1) (bc4_48_11 (mcall (d + 5)) (211 + x2) x1 _ z1 f1) (pinG g1) ?_
      refine rc_b (i' := 20) (ls' := [some (vR 0), some (vI x1), some (vI x2)]) (st' := [vI x2, vR 0, vI (f1 1 (ix (211 + x2))), vI x1]) (L' := LR z1 f1) 2 (bc4_48_12 (mcall (d + 5)) x1 x2 (f1 1 (ix (211 + x2))) x1 _) ?_
      obtain ⟨r2, z2, f2, hc, H⟩ := H
      refine rc_call (t := 21) (ls' := [some (vR 0), some (vI x1), some (vI x2)]) (st' := [vI (f1 1 (ix (211 + x2))), vI x1]) (bc4_48_13 (mcall (d + 5)) x2 (f1 1 (ix (211 + x2))) x1 _ z1 f1) hc ?_
      show RC (mcall (d + 5)) (mP 48) 21 [some (vR 0), some (vI x1), some (vI x2)] [vI r2, vI (f1 1 (ix (211 + x2))), vI x1] (LR z2 f2) res
      refine rc_b (i' := 24) (ls' := [some (vR 0), some (vI (x1 + ((f1 1 (ix (211 + x2))) * r2))), some (vI x2)]) (st' := []) (L' := LR z2 f2) 3 (bc4_48_14 (mcall (d + 5)) x1 x2 r2 (f1 1 (ix (211 + x2))) x1 _) ?_
      refine rc_b (i' := 25) (ls' := [some (vR 0), some (vI (x1 + ((f1 1 (ix (211 + x2))) * r2))), some (vI (x2 + 1))]) (st' := []) (L' := LR z2 f2) 1 (bc4_48_8 (mcall (d + 5)) (x1 + ((f1 1 (ix (211 + x2))) * r2)) x2 _) ?_
      refine rc_b (i' := 4) (ls' := [some (vR 0), some (vI (x1 + ((f1 1 (ix (211 + x2))) * r2))), some (vI (x2 + 1))]) (st' := []) (L' := LR z2 f2) 1 (bc4_48_9 (mcall (d + 5)) (x1 + ((f1 1 (ix (211 + x2))) * r2)) (x2 + 1) _) ?_
      exact H
set_option maxRecDepth 100000 in
theorem b241_1 (call : QC FA) (x1 : Int32) (L : QH FA) (F : Nat) : rnG call 241 (F + 3) 0 [some (vR 0), some (vI x1)] [] L = rnG call 241 F 3 [some (vR 0), some (vI x1)] [vI x1, vR 0, vR 0] L := rfl
set_option maxRecDepth 100000 in
theorem b241_2 (call : QC FA) (a0 : Int32) (ls : List (Option PV)) (z : Nat → Int32) (f : Nat → FA) (F : Nat) : rnG call 241 (F + 1) 3 ls [vI a0, vR 0, vR 0] (LR z f) = cbd (call 238 [vR 0, vI a0] (LR z f)) (fun r L' => rnG call 241 F 4 ls (r.toList ++ [vR 0]) L') := pcY (ih := rnG call 241 F) (call := call) (a := 238) (b := 1) (v := 12) (t := 4) (x := 0) (ls := ls) (As := [vI a0]) (st' := [vR 0]) (L := LR z f) rfl rfl rfl
set_option maxRecDepth 100000 in
theorem b241_3 (call : QC FA) (a0 : Int32) (ls : List (Option PV)) (z : Nat → Int32) (f : Nat → FA) (F : Nat) : rnG call 241 (F + 1) 4 ls [vI a0, vR 0] (LR z f) = cbd (call 216 [vR 0, vI a0] (LR z f)) (fun r L' => rnG call 241 F 5 ls (r.toList ++ []) L') := pcY (ih := rnG call 241 F) (call := call) (a := 216) (b := 1) (v := 12) (t := 5) (x := 0) (ls := ls) (As := [vI a0]) (st' := []) (L := LR z f) rfl rfl rfl
set_option maxRecDepth 100000 in
theorem b241_4 (call : QC FA) (x : Int32) (ls : List (Option PV)) (L : QH FA) (F : Nat) : rnG call 241 (F + 1) 5 ls [vI x] L = bif pcmp 1 x 0 then rnG call 241 F 7 ls [] L else rnG call 241 F 6 ls [] L := rfl
set_option maxRecDepth 100000 in
theorem b241_5 (call : QC FA) (x1 : Int32) (z : Nat → Int32) (f : Nat → FA) (F : Nat) : rnG call 241 (F + 10) 7 [some (vR 0), some (vI x1)] [] (LR z f) = rnG call 241 F 17 [some (vR 0), some (vI x1)] [vI (355 + x1), vR 1, vI (355 + x1), vR 1] (LR z f) := rfl
set_option maxRecDepth 100000 in
theorem b241_6 (call : QC FA) (x : Int32) (s0 : Int32) (ls : List (Option PV)) (z : Nat → Int32) (f : Nat → FA) (F : Nat) : rnG call 241 (F + 1) 17 ls [vI x, vR 1, vI s0, vR 1] (LR z f) = bif (Nat.beq 0 0 && pin x 499) then rnG call 241 F 18 ls [vI (f 1 (ix x)), vI s0, vR 1] (LR z f) else none := rfl
set_option maxRecDepth 100000 in
theorem b241_7 (call : QC FA) (x1 : Int32) (s0 : Int32) (s1 : Int32) (L : QH FA) (F : Nat) : rnG call 241 (F + 2) 18 [some (vR 0), some (vI x1)] [vI s0, vI s1, vR 1] L = rnG call 241 F 20 [some (vR 0), some (vI x1)] [vI (s0 - 1), vI s1, vR 1] L := rfl
set_option maxRecDepth 100000 in
theorem b241_8 (call : QC FA) (x y : Int32) (ls : List (Option PV)) (z : Nat → Int32) (f : Nat → FA) (F : Nat) : rnG call 241 (F + 1) 20 ls [vI y, vI x, vR 1] (LR z f) = bif (Nat.beq 0 0 && pin x 499) then rnG call 241 F 21 ls [] (LR z (uA f 1 (upd (f 1) (ix x) y))) else none := rfl
set_option maxRecDepth 100000 in
theorem b241_9 (call : QC FA) (x1 : Int32) (z : Nat → Int32) (f : Nat → FA) (F : Nat) : rnG call 241 (F + 5) 21 [some (vR 0), some (vI x1)] [] (LR z f) = rnG call 241 F 26 [some (vR 0), some (vI x1)] [vI (355 + x1), vR 1] (LR z f) := rfl
set_option maxRecDepth 100000 in
theorem b241_10 (call : QC FA) (x : Int32) (ls : List (Option PV)) (z : Nat → Int32) (f : Nat → FA) (F : Nat) : rnG call 241 (F + 1) 26 ls [vI x, vR 1] (LR z f) = bif (Nat.beq 0 0 && pin x 499) then rnG call 241 F 27 ls [vI (f 1 (ix x))] (LR z f) else none := rfl
set_option maxRecDepth 100000 in
theorem b241_11 (call : QC FA) (x : Int32) (ls : List (Option PV)) (L : QH FA) (F : Nat) : rnG call 241 (F + 1) 27 ls [vI x] L = bif pcmp 5 x 0 then rnG call 241 F 29 ls [] L else rnG call 241 F 28 ls [] L := rfl
set_option maxRecDepth 100000 in
theorem b241_12 (call : QC FA) (x1 : Int32) (z : Nat → Int32) (f : Nat → FA) (F : Nat) : rnG call 241 (F + 7) 29 [some (vR 0), some (vI x1)] [] (LR z f) = rnG call 241 F 36 [some (vR 0), some (vI x1)] [vI (67 + x1), vR 1, vI 2, vR 0] (LR z f) := rfl
set_option maxRecDepth 100000 in
theorem b241_13 (call : QC FA) (x : Int32) (s0 : Int32) (ls : List (Option PV)) (z : Nat → Int32) (f : Nat → FA) (F : Nat) : rnG call 241 (F + 1) 36 ls [vI x, vR 1, vI s0, vR 0] (LR z f) = bif (Nat.beq 0 0 && pin x 499) then rnG call 241 F 37 ls [vI (f 1 (ix x)), vI s0, vR 0] (LR z f) else none := rfl
set_option maxRecDepth 100000 in
theorem b241_14 (call : QC FA) (x1 : Int32) (s0 : Int32) (s1 : Int32) (L : QH FA) (F : Nat) : rnG call 241 (F + 3) 37 [some (vR 0), some (vI x1)] [vI s0, vI s1, vR 0] L = rnG call 241 F 40 [some (vR 0), some (vI x1)] [vI x1, vI (s0 - 1), vI s1, vR 0] L := rfl
set_option maxRecDepth 100000 in
theorem b241_15 (call : QC FA) (a0 : Int32) (a1 : Int32) (a2 : Int32) (ls : List (Option PV)) (z : Nat → Int32) (f : Nat → FA) (F : Nat) : rnG call 241 (F + 1) 40 ls [vI a2, vI a1, vI a0, vR 0] (LR z f) = cbd (call 243 [vR 0, vI a0, vI a1, vI a2] (LR z f)) (fun r L' => rnG call 241 F 41 ls (r.toList ++ []) L') := pcY (ih := rnG call 241 F) (call := call) (a := 243) (b := 3) (v := 12) (t := 41) (x := 0) (ls := ls) (As := [vI a0, vI a1, vI a2]) (st' := []) (L := LR z f) rfl rfl rfl
set_option maxRecDepth 100000 in
theorem b241_16 (call : QC FA) (x1 : Int32) (L : QH FA) (F : Nat) : rnG call 241 (F + 2) 41 [some (vR 0), some (vI x1)] [] L = rnG call 241 F 43 [some (vR 0), some (vI x1)] [vI x1, vR 0] L := rfl
set_option maxRecDepth 100000 in
theorem b241_17 (call : QC FA) (a0 : Int32) (ls : List (Option PV)) (z : Nat → Int32) (f : Nat → FA) (F : Nat) : rnG call 241 (F + 1) 43 ls [vI a0, vR 0] (LR z f) = cbd (call 220 [vR 0, vI a0] (LR z f)) (fun r L' => rnG call 241 F 44 ls (r.toList ++ []) L') := pcY (ih := rnG call 241 F) (call := call) (a := 220) (b := 1) (v := 12) (t := 44) (x := 0) (ls := ls) (As := [vI a0]) (st' := []) (L := LR z f) rfl rfl rfl
set_option maxRecDepth 100000 in
theorem b241_18 (call : QC FA) (ls : List (Option PV)) (L : QH FA) (F : Nat) : rnG call 241 (F + 1) 44 ls [] L = some (none, L) := rfl
set_option maxRecDepth 100000 in
theorem b241_19 (call : QC FA) (ls : List (Option PV)) (L : QH FA) (F : Nat) : rnG call 241 (F + 1) 28 ls [] L = some (none, L) := rfl
set_option maxRecDepth 100000 in
theorem b241_20 (call : QC FA) (ls : List (Option PV)) (L : QH FA) (F : Nat) : rnG call 241 (F + 1) 6 ls [] L = some (none, L) := rfl
theorem vc241_0 (d : Nat) (x1 : Int32) (z : Nat → Int32) (f : Nat → FA) (res : Option PV × QH FA) (H : (∃ (r1 : Int32) (z1 : Nat → Int32) (f1 : Nat → FA), (mcall (d + 5)) 238 [vR 0, vI x1] (LR z f) = some (some (vI r1), LR z1 f1) ∧ (∃ (r2 : Int32) (z2 : Nat → Int32) (f2 : Nat → FA), (mcall (d + 5)) 216 [vR 0, vI r1] (LR z1 f1) = some (some (vI r2), LR z2 f2) ∧ ((¬ r2 = 0 → (pin (355 + x1) 499 = true ∧ (pin (355 + x1) 499 = true ∧ (pin (355 + x1) 499 = true ∧ ((I ((upd (f2 1) (ix (355 + x1)) ((f2 1 (ix (355 + x1))) - 1)) (ix (355 + x1))) ≤ 0 → (pin (67 + x1) 499 = true ∧ (∃ (z3 : Nat → Int32) (f3 : Nat → FA), (mcall (d + 5)) 243 [vR 0, vI 2, vI (((upd (f2 1) (ix (355 + x1)) ((f2 1 (ix (355 + x1))) - 1)) (ix (67 + x1))) - 1), vI x1] (LR z2 (uA f2 1 (upd (f2 1) (ix (355 + x1)) ((f2 1 (ix (355 + x1))) - 1)))) = some (none, LR z3 f3) ∧ (∃ (z4 : Nat → Int32) (f4 : Nat → FA), (mcall (d + 5)) 220 [vR 0, vI x1] (LR z3 f3) = some (none, LR z4 f4) ∧ res = (none, LR z4 f4))))) ∧ (0 < I ((upd (f2 1) (ix (355 + x1)) ((f2 1 (ix (355 + x1))) - 1)) (ix (355 + x1))) → res = (none, LR z2 (uA f2 1 (upd (f2 1) (ix (355 + x1)) ((f2 1 (ix (355 + x1))) - 1)))))))))) ∧ (r2 = 0 → res = (none, LR z2 f2)))))) : RC (mcall (d + 5)) (mP 241) 0 [some (vR 0), some (vI x1)] [] (LR z f) res := by
  refine rc_b (i' := 3) (ls' := [some (vR 0), some (vI x1)]) (st' := [vI x1, vR 0, vR 0]) (L' := LR z f) 3 (b241_1 (mcall (d + 5)) x1 _) ?_
  obtain ⟨r1, z1, f1, hc, H⟩ := H
  refine rc_call (t := 4) (ls' := [some (vR 0), some (vI x1)]) (st' := [vR 0]) (b241_2 (mcall (d + 5)) x1 _ z f) hc ?_
  show RC (mcall (d + 5)) (mP 241) 4 [some (vR 0), some (vI x1)] [vI r1, vR 0] (LR z1 f1) res
  obtain ⟨r2, z2, f2, hc, H⟩ := H
  refine rc_call (t := 5) (ls' := [some (vR 0), some (vI x1)]) (st' := []) (b241_3 (mcall (d + 5)) r1 _ z1 f1) hc ?_
  show RC (mcall (d + 5)) (mP 241) 5 [some (vR 0), some (vI x1)] [vI r2] (LR z2 f2) res
  refine rc_if (it := 7) (ie := 6) (ls' := [some (vR 0), some (vI x1)]) (st' := []) (b241_4 (mcall (d + 5)) r2 _ _) (fun q1 => ?_) (fun q1 => ?_)
  · have H := H.1 (cI1t q1)
    refine rc_b (i' := 17) (ls' := [some (vR 0), some (vI x1)]) (st' := [vI (355 + x1), vR 1, vI (355 + x1), vR 1]) (L' := LR z2 f2) 10 (b241_5 (mcall (d + 5)) x1 z2 f2) ?_
    obtain ⟨g1, H⟩ := H
    refine rc_g (i' := 18) (ls' := [some (vR 0), some (vI x1)]) (st' := [vI (f2 1 (ix (355 + x1))), vI (355 + x1), vR 1]) (L' := LR z2 f2) (b241_6 (mcall (d + 5)) (355 + x1) (355 + x1) _ z2 f2) (pinG g1) ?_
    refine rc_b (i' := 20) (ls' := [some (vR 0), some (vI x1)]) (st' := [vI ((f2 1 (ix (355 + x1))) - 1), vI (355 + x1), vR 1]) (L' := LR z2 f2) 2 (b241_7 (mcall (d + 5)) x1 (f2 1 (ix (355 + x1))) (355 + x1) _) ?_
    obtain ⟨g1, H⟩ := H
    refine rc_g (i' := 21) (ls' := [some (vR 0), some (vI x1)]) (st' := []) (L' := LR z2 (uA f2 1 (upd (f2 1) (ix (355 + x1)) ((f2 1 (ix (355 + x1))) - 1)))) (b241_8 (mcall (d + 5)) (355 + x1) ((f2 1 (ix (355 + x1))) - 1) _ z2 f2) (pinG g1) ?_
    refine rc_b (i' := 26) (ls' := [some (vR 0), some (vI x1)]) (st' := [vI (355 + x1), vR 1]) (L' := LR z2 (uA f2 1 (upd (f2 1) (ix (355 + x1)) ((f2 1 (ix (355 + x1))) - 1)))) 5 (b241_9 (mcall (d + 5)) x1 z2 (uA f2 1 (upd (f2 1) (ix (355 + x1)) ((f2 1 (ix (355 + x1))) - 1)))) ?_
    obtain ⟨g1, H⟩ := H
    refine rc_g (i' := 27) (ls' := [some (vR 0), some (vI x1)]) (st' := [vI ((upd (f2 1) (ix (355 + x1)) ((f2 1 (ix (355 + x1))) - 1)) (ix (355 + x1)))]) (L' := LR z2 (uA f2 1 (upd (f2 1) (ix (355 + x1)) ((f2 1 (ix (355 + x1))) - 1)))) (b241_10 (mcall (d + 5)) (355 + x1) _ z2 (uA f2 1 (upd (f2 1) (ix (355 + x1)) ((f2 1 (ix (355 + x1))) - 1)))) (pinG g1) ?_
    refine rc_if (it := 29) (ie := 28) (ls' := [some (vR 0), some (vI x1)]) (st' := []) (b241_11 (mcall (d + 5)) ((upd (f2 1) (ix (355 + x1)) ((f2 1 (ix (355 + x1))) - 1)) (ix (355 + x1))) _ _) (fun q2 => ?_) (fun q2 => ?_)
    · have H := H.1 (cI5t q2 rfl rfl)
      refine rc_b (i' := 36) (ls' := [some (vR 0), some (vI x1)]) (st' := [vI (67 + x1), vR 1, vI 2, vR 0]) (L' := LR z2 (uA f2 1 (upd (f2 1) (ix (355 + x1)) ((f2 1 (ix (355 + x1))) - 1)))) 7 (b241_12 (mcall (d + 5)) x1 z2 (uA f2 1 (upd (f2 1) (ix (355 + x1)) ((f2 1 (ix (355 + x1))) - 1)))) ?_
      obtain ⟨g1, H⟩ := H
      refine rc_g (i' := 37) (ls' := [some (vR 0), some (vI x1)]) (st' := [vI ((upd (f2 1) (ix (355 + x1)) ((f2 1 (ix (355 + x1))) - 1)) (ix (67 + x1))), vI 2, vR 0]) (L' := LR z2 (uA f2 1 (upd (f2 1) (ix (355 + x1)) ((f2 1 (ix (355 + x1))) - 1)))) (b241_13 (mcall (d + 5)) (67 + x1) 2 _ z2 (uA f2 1 (upd (f2 1) (ix (355 + x1)) ((f2 1 (ix (355 + x1))) - 1)))) (pinG g1) ?_
      refine rc_b (i' := 40) (ls' := [some (vR 0), some (vI x1)]) (st' := [vI x1, vI (((upd (f2 1) (ix (355 + x1)) ((f2 1 (ix (355 + x1))) - 1)) (ix (67 + x1))) - 1), vI 2, vR 0]) (L' := LR z2 (uA f2 1 (upd (f2 1) (ix (355 + x1)) ((f2 1 (ix (355 + x1))) - 1)))) 3 (b241_14 (mcall (d + 5)) x1 ((upd (f2 1) (ix (355 + x1)) ((f2 1 (ix (355 + x1))) - 1)) (ix (67 + x1))) 2 _) ?_
      obtain ⟨z3, f3, hc, H⟩ := H
      refine rc_call (t := 41) (ls' := [some (vR 0), some (vI x1)]) (st' := []) (b241_15 (mcall (d + 5)) 2 (((upd (f2 1) (ix (355 + x1)) ((f2 1 (ix (355 + x1))) - 1)) (ix (67 + x1))) - 1) x1 _ z2 (uA f2 1 (upd (f2 1) (ix (355 + x1)) ((f2 1 (ix (355 + x1))) - 1)))) hc ?_
      show RC (mcall (d + 5)) (mP 241) 41 [some (vR 0), some (vI x1)] [] (LR z3 f3) res
      refine rc_b (i' := 43) (ls' := [some (vR 0), some (vI x1)]) (st' := [vI x1, vR 0]) (L' := LR z3 f3) 2 (b241_16 (mcall (d + 5)) x1 _) ?_
      obtain ⟨z4, f4, hc, H⟩ := H
      refine rc_call (t := 44) (ls' := [some (vR 0), some (vI x1)]) (st' := []) (b241_17 (mcall (d + 5)) x1 _ z3 f3) hc ?_
      show RC (mcall (d + 5)) (mP 241) 44 [some (vR 0), some (vI x1)] [] (LR z4 f4) res
      subst H
      exact rc_ret (b241_18 (mcall (d + 5)) _ _)
    · have H := H.2 (cI5f q2 rfl rfl)
      subst H
      exact rc_ret (b241_19 (mcall (d + 5)) _ _)
  · have H := H.2 (cI1f q1)
    subst H
    exact rc_ret (b241_20 (mcall (d + 5)) _ _)
set_option maxRecDepth 100000 in
theorem b62_1 (call : QC FA) (x1 : Int32) (x2 : Int32) (L : QH FA) (F : Nat) : rnG call 62 (F + 2) 0 [some (vR 0), some (vI x1), some (vI x2)] [] L = rnG call 62 F 2 [some (vR 0), some (vI x1), some (vI x2)] [vI x2, vI x1] L := rfl
set_option maxRecDepth 100000 in
theorem b62_2 (call : QC FA) (x y : Int32) (ls : List (Option PV)) (L : QH FA) (F : Nat) : rnG call 62 (F + 1) 2 ls [vI y, vI x] L = bif pcmp 3 x y then rnG call 62 F 5 ls [] L else rnG call 62 F 3 ls [] L := rfl
set_option maxRecDepth 100000 in
theorem b62_3 (call : QC FA) (x1 : Int32) (x2 : Int32) (L : QH FA) (F : Nat) : rnG call 62 (F + 1) 5 [some (vR 0), some (vI x1), some (vI x2)] [] L = rnG call 62 F 6 [some (vR 0), some (vI x1), some (vI x2)] [vI x2] L := rfl
set_option maxRecDepth 100000 in
theorem b62_4 (call : QC FA) (x : Int32) (ls : List (Option PV)) (L : QH FA) (F : Nat) : rnG call 62 (F + 1) 6 ls [vI x] L = some (some (vI x), L) := rfl
set_option maxRecDepth 100000 in
theorem b62_5 (call : QC FA) (x1 : Int32) (x2 : Int32) (L : QH FA) (F : Nat) : rnG call 62 (F + 2) 3 [some (vR 0), some (vI x1), some (vI x2)] [] L = rnG call 62 F 6 [some (vR 0), some (vI x1), some (vI x2)] [vI x1] L := rfl
theorem vc62_0 (call : QC FA) (x1 : Int32) (x2 : Int32) (z : Nat → Int32) (f : Nat → FA) (res : Option PV × QH FA) (H : ((I x2 ≤ I x1 → res = (some (vI x2), LR z f)) ∧ (I x1 < I x2 → res = (some (vI x1), LR z f)))) : RC call (mP 62) 0 [some (vR 0), some (vI x1), some (vI x2)] [] (LR z f) res := by
  refine rc_b (i' := 2) (ls' := [some (vR 0), some (vI x1), some (vI x2)]) (st' := [vI x2, vI x1]) (L' := LR z f) 2 (b62_1 call x1 x2 _) ?_
  refine rc_if (it := 5) (ie := 3) (ls' := [some (vR 0), some (vI x1), some (vI x2)]) (st' := []) (b62_2 call x1 x2 _ _) (fun q1 => ?_) (fun q1 => ?_)
  · have H := H.1 (cI3t q1 rfl rfl)
    refine rc_b (i' := 6) (ls' := [some (vR 0), some (vI x1), some (vI x2)]) (st' := [vI x2]) (L' := LR z f) 1 (b62_3 call x1 x2 _) ?_
    subst H
    exact rc_ret (b62_4 call _ _ _)
  · have H := H.2 (cI3f q1 rfl rfl)
    refine rc_b (i' := 6) (ls' := [some (vR 0), some (vI x1), some (vI x2)]) (st' := [vI x1]) (L' := LR z f) 2 (b62_5 call x1 x2 _) ?_
    subst H
    exact rc_ret (b62_4 call _ _ _)
theorem mLess9 (d : Nat) {p : Nat} (hp : p ≤ 9) {z : Nat → Int32} {r : Nat → FA} : mcall (d + 1) 62 [vR 0, vI 9, vI (nI p)] (LR z r) = some (some (vI (nI p)), LR z r) := by
  have go : ∀ res, _ → mcall (d + 1) 62 [vR 0, vI 9, vI (nI p)] (LR z r) = some res := fun res H => mcall_i (mq62 (cu := [])).2.2 rfl (vc62_0 (mcall d) 9 (nI p) z r res H)
  have ip : I (nI p) = p := I_nI (by omega)
  have i9 : I (9 : Int32) = 9 := by decide
  refine go _ ?_
  first
    | exact ⟨fun q => rfl, fun q => by
        have e : (9 : Int32) = nI p := Int32.toInt_inj.mp (show I 9 = I (nI p) by omega)
        rw [e]⟩
    | exact ⟨fun q => by
        have e : (9 : Int32) = nI p := Int32.toInt_inj.mp (show I 9 = I (nI p) by omega)
        rw [e], fun q => rfl⟩
/-- the first row from which on the thumb stays -/
noncomputable def frw (g : FA) (col : Nat) : Nat → Nat → Nat
  | 0, row => row
  | t + 1, row => @ite _ (0 < I (g (67 + (12 * row + col)))) (Classical.propDecidable _) (frw g col t (row + 1)) row
theorem frw_e {g : FA} {col : Nat} : ∀ t row, row ≤ frw g col t row ∧ frw g col t row ≤ row + t ∧ (frw g col t row = row + t ∨ ¬ 0 < I (g (67 + (12 * frw g col t row + col)))) := by
  intro t
  induction t with
  | zero => intro row; exact ⟨Nat.le_refl _, Nat.le_refl _, Or.inl rfl⟩
  | succ t ih =>
    intro row
    by_cases c : 0 < I (g (67 + (12 * row + col)))
    · have e : frw g col (t + 1) row = frw g col t (row + 1) := if_pos c
      rw [e]
      obtain ⟨h1, h2, h3⟩ := ih (row + 1)
      exact ⟨by omega, by omega, h3.imp (fun q => by omega) id⟩
    · have e : frw g col (t + 1) row = row := if_neg c
      rw [e]
      exact ⟨Nat.le_refl _, by omega, Or.inr c⟩
theorem MRS.put {nv v i e : Nat} {m g : FA} {x : Int32} (hv : v < nv) (h1 : 1 ≤ e) (h9 : e ≤ 9) (hx : x = 1 ∨ x = -1) (h : MRS nv m g) (hi : i < 144) : MRS nv (upd m i (x * (nI v * 16 + nI e))) (upd (upd (upd g (67 + i) (nI (v + 1))) (211 + i) x) (355 + i) (nI e)) := by
  intro j hj
  by_cases c : j = i
  · subst c
    rw [pk_us, pk_us, pk_un (show 211 + j ≠ 355 + j by omega), pk_us, pk_un (show 67 + j ≠ 355 + j by omega), pk_un (show 67 + j ≠ 211 + j by omega), pk_us]
    have em : nI v * 16 + nI e = nI (16 * v + e) := by rw [show (16 : Int32) = nI 16 from rfl, mul_nI, nI_add, Nat.mul_comm]
    rw [em]
    refine Or.inr ⟨v, e, hv, h1, h9, rfl, rfl, ?_⟩
    rcases hx with rfl | rfl
    · exact Or.inl ⟨rfl, Int32.one_mul _⟩
    · exact Or.inr ⟨rfl, by rw [Int32.neg_mul, Int32.one_mul]⟩
  · rw [pk_un c, pk_un (show 67 + j ≠ 355 + i by omega), pk_un (show 67 + j ≠ 211 + i by omega), pk_un (show 67 + j ≠ 67 + i by omega), pk_un (show 211 + j ≠ 355 + i by omega), pk_un (show 211 + j ≠ 211 + i by omega), pk_un (show 211 + j ≠ 67 + i by omega), pk_un (show 355 + j ≠ 355 + i by omega), pk_un (show 355 + j ≠ 211 + i by omega), pk_un (show 355 + j ≠ 67 + i by omega)]
    exact h j hj
