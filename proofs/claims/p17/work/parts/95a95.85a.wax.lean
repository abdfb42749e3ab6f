/-! wax: the reference -/
set_option maxRecDepth 100000 in
theorem b46_1 (call : QC FA) (x1 : Int32) (L : QH FA) (F : Nat) : rnG call 46 (F + 2) 0 [some (vR 0), some (vI x1)] [] L = rnG call 46 F 2 [some (vR 0), some (vI x1)] [vI 0, vR 0] L := rfl
set_option maxRecDepth 100000 in
theorem b46_2 (call : QC FA) (y : Int32) (ls : List (Option PV)) (z : Nat → Int32) (f : Nat → FA) (F : Nat) : rnG call 46 (F + 1) 2 ls [vI y, vR 0] (LR z f) = rnG call 46 F 3 ls [] (LR (uZ z 0 y) f) := rfl
set_option maxRecDepth 100000 in
theorem b46_3 (call : QC FA) (x1 : Int32) (L : QH FA) (F : Nat) : rnG call 46 (F + 4) 3 [some (vR 0), some (vI x1)] [] L = rnG call 46 F 7 [some (vR 0), some (vI x1)] [vI 9, vI 0, vI x1, vR 0] L := rfl
set_option maxRecDepth 100000 in
theorem b46_4 (call : QC FA) (a0 : Int32) (a1 : Int32) (a2 : Int32) (ls : List (Option PV)) (z : Nat → Int32) (f : Nat → FA) (F : Nat) : rnG call 46 (F + 1) 7 ls [vI a2, vI a1, vI a0, vR 0] (LR z f) = cbd (call 47 [vR 0, vI a0, vI a1, vI a2] (LR z f)) (fun r L' => rnG call 46 F 8 ls (r.toList ++ []) L') := pcY (ih := rnG call 46 F) (call := call) (a := 47) (b := 3) (v := 12) (t := 8) (x := 0) (ls := ls) (As := [vI a0, vI a1, vI a2]) (st' := []) (L := LR z f) rfl rfl rfl
set_option maxRecDepth 100000 in
theorem b46_5 (call : QC FA) (x : Int32) (ls : List (Option PV)) (L : QH FA) (F : Nat) : rnG call 46 (F + 1) 8 ls [vI x] L = bif pcmp 1 x 0 then rnG call 46 F 11 ls [] L else rnG call 46 F 9 ls [] L := rfl
set_option maxRecDepth 100000 in
theorem b46_6 (call : QC FA) (x1 : Int32) (L : QH FA) (F : Nat) : rnG call 46 (F + 1) 11 [some (vR 0), some (vI x1)] [] L = rnG call 46 F 12 [some (vR 0), some (vI x1)] [vI x1] L := rfl
set_option maxRecDepth 100000 in
theorem b46_7 (call : QC FA) (x : Int32) (ls : List (Option PV)) (L : QH FA) (F : Nat) : rnG call 46 (F + 1) 12 ls [vI x] L = bif pcmp 1 x 0 then rnG call 46 F 16 ls [] L else rnG call 46 F 13 ls [] L := rfl
set_option maxRecDepth 100000 in
theorem b46_8 (call : QC FA) (x1 : Int32) (L : QH FA) (F : Nat) : rnG call 46 (F + 2) 16 [some (vR 0), some (vI x1)] [] L = rnG call 46 F 18 [some (vR 0), some (vI x1)] [vI 1, vI x1] L := rfl
set_option maxRecDepth 100000 in
theorem b46_9 (call : QC FA) (x y : Int32) (ls : List (Option PV)) (L : QH FA) (F : Nat) : rnG call 46 (F + 1) 18 ls [vI y, vI x] L = bif pcmp 1 x y then rnG call 46 F 22 ls [] L else rnG call 46 F 19 ls [] L := rfl
set_option maxRecDepth 100000 in
theorem b46_10 (call : QC FA) (x1 : Int32) (L : QH FA) (F : Nat) : rnG call 46 (F + 2) 22 [some (vR 0), some (vI x1)] [] L = rnG call 46 F 24 [some (vR 0), some (vI x1)] [vI 5, vI x1] L := rfl
set_option maxRecDepth 100000 in
theorem b46_11 (call : QC FA) (x y : Int32) (ls : List (Option PV)) (L : QH FA) (F : Nat) : rnG call 46 (F + 1) 24 ls [vI y, vI x] L = bif pcmp 1 x y then rnG call 46 F 32 ls [] L else rnG call 46 F 25 ls [] L := rfl
set_option maxRecDepth 100000 in
theorem b46_12 (call : QC FA) (x1 : Int32) (L : QH FA) (F : Nat) : rnG call 46 (F + 2) 32 [some (vR 0), some (vI x1)] [] L = rnG call 46 F 34 [some (vR 0), some (vI x1)] [vI 6, vI x1] L := rfl
set_option maxRecDepth 100000 in
theorem b46_13 (call : QC FA) (x y : Int32) (ls : List (Option PV)) (L : QH FA) (F : Nat) : rnG call 46 (F + 1) 34 ls [vI y, vI x] L = bif pcmp 1 x y then rnG call 46 F 38 ls [] L else rnG call 46 F 35 ls [] L := rfl
set_option maxRecDepth 100000 in
theorem b46_14 (call : QC FA) (x1 : Int32) (L : QH FA) (F : Nat) : rnG call 46 (F + 2) 38 [some (vR 0), some (vI x1)] [] L = rnG call 46 F 40 [some (vR 0), some (vI x1)] [vI 6, vI x1] L := rfl
set_option maxRecDepth 100000 in
theorem b46_15 (call : QC FA) (x y : Int32) (ls : List (Option PV)) (L : QH FA) (F : Nat) : rnG call 46 (F + 1) 40 ls [vI y, vI x] L = bif pcmp 5 x y then rnG call 46 F 45 ls [] L else rnG call 46 F 41 ls [] L := rfl
set_option maxRecDepth 100000 in
theorem b46_16 (call : QC FA) (x1 : Int32) (L : QH FA) (F : Nat) : rnG call 46 (F + 1) 45 [some (vR 0), some (vI x1)] [] L = rnG call 46 F 46 [some (vR 0), some (vI x1)] [vR 0] L := rfl
set_option maxRecDepth 100000 in
theorem b46_17 (call : QC FA) (ls : List (Option PV)) (z : Nat → Int32) (f : Nat → FA) (F : Nat) : rnG call 46 (F + 1) 46 ls [vR 0] (LR z f) = cbd (call 63 [vR 0] (LR z f)) (fun r L' => rnG call 46 F 47 ls (r.toList ++ []) L') := pcY (ih := rnG call 46 F) (call := call) (a := 63) (b := 0) (v := 12) (t := 47) (x := 0) (ls := ls) (As := []) (st' := []) (L := LR z f) rfl rfl rfl
set_option maxRecDepth 100000 in
theorem b46_18 (call : QC FA) (x1 : Int32) (L : QH FA) (F : Nat) : rnG call 46 (F + 2) 47 [some (vR 0), some (vI x1)] [] L = rnG call 46 F 49 [some (vR 0), some (vI x1)] [vI 4, vI x1] L := rfl
set_option maxRecDepth 100000 in
theorem b46_19 (call : QC FA) (x y : Int32) (ls : List (Option PV)) (L : QH FA) (F : Nat) : rnG call 46 (F + 1) 49 ls [vI y, vI x] L = bif pcmp 1 x y then rnG call 46 F 53 ls [] L else rnG call 46 F 50 ls [] L := rfl
set_option maxRecDepth 100000 in
theorem b46_20 (call : QC FA) (x1 : Int32) (L : QH FA) (F : Nat) : rnG call 46 (F + 3) 53 [some (vR 0), some (vI x1)] [] L = rnG call 46 F 56 [some (vR 0), some (vI x1)] [vI 3, vI x1, vR 0] L := rfl
set_option maxRecDepth 100000 in
theorem b46_21 (call : QC FA) (x y : Int32) (ls : List (Option PV)) (L : QH FA) (F : Nat) : rnG call 46 (F + 1) 56 ls [vI y, vI x, vR 0] L = bif pcmp 1 x y then rnG call 46 F 59 ls [vR 0] L else rnG call 46 F 57 ls [vR 0] L := rfl
set_option maxRecDepth 100000 in
theorem b46_22 (call : QC FA) (x1 : Int32) (L : QH FA) (F : Nat) : rnG call 46 (F + 1) 59 [some (vR 0), some (vI x1)] [vR 0] L = rnG call 46 F 60 [some (vR 0), some (vI x1)] [vI 0, vR 0] L := rfl
set_option maxRecDepth 100000 in
theorem b46_23 (call : QC FA) (a0 : Int32) (ls : List (Option PV)) (z : Nat → Int32) (f : Nat → FA) (F : Nat) : rnG call 46 (F + 1) 60 ls [vI a0, vR 0] (LR z f) = cbd (call 66 [vR 0, vI a0] (LR z f)) (fun r L' => rnG call 46 F 61 ls (r.toList ++ []) L') := pcY (ih := rnG call 46 F) (call := call) (a := 66) (b := 1) (v := 12) (t := 61) (x := 0) (ls := ls) (As := [vI a0]) (st' := []) (L := LR z f) rfl rfl rfl
set_option maxRecDepth 100000 in
theorem b46_24 (call : QC FA) (x : Int32) (ls : List (Option PV)) (L : QH FA) (F : Nat) : rnG call 46 (F + 1) 61 ls [vI x] L = some (some (vI x), L) := rfl
set_option maxRecDepth 100000 in
theorem b46_25 (call : QC FA) (x1 : Int32) (L : QH FA) (F : Nat) : rnG call 46 (F + 2) 57 [some (vR 0), some (vI x1)] [vR 0] L = rnG call 46 F 60 [some (vR 0), some (vI x1)] [vI 1, vR 0] L := rfl
set_option maxRecDepth 100000 in
theorem b46_26 (call : QC FA) (x1 : Int32) (L : QH FA) (F : Nat) : rnG call 46 (F + 1) 50 [some (vR 0), some (vI x1)] [] L = rnG call 46 F 51 [some (vR 0), some (vI x1)] [vR 0] L := rfl
set_option maxRecDepth 100000 in
theorem b46_27 (call : QC FA) (ls : List (Option PV)) (z : Nat → Int32) (f : Nat → FA) (F : Nat) : rnG call 46 (F + 1) 51 ls [vR 0] (LR z f) = cbd (call 64 [vR 0] (LR z f)) (fun r L' => rnG call 46 F 52 ls (r.toList ++ []) L') := pcY (ih := rnG call 46 F) (call := call) (a := 64) (b := 0) (v := 12) (t := 52) (x := 0) (ls := ls) (As := []) (st' := []) (L := LR z f) rfl rfl rfl
set_option maxRecDepth 100000 in
theorem b46_28 (call : QC FA) (x1 : Int32) (s0 : Int32) (L : QH FA) (F : Nat) : rnG call 46 (F + 1) 52 [some (vR 0), some (vI x1)] [vI s0] L = rnG call 46 F 61 [some (vR 0), some (vI x1)] [vI s0] L := rfl
set_option maxRecDepth 100000 in
theorem b46_29 (call : QC FA) (x1 : Int32) (L : QH FA) (F : Nat) : rnG call 46 (F + 2) 41 [some (vR 0), some (vI x1)] [] L = rnG call 46 F 43 [some (vR 0), some (vI x1)] [vI x1, vR 0] L := rfl
set_option maxRecDepth 100000 in
theorem b46_30 (call : QC FA) (a0 : Int32) (ls : List (Option PV)) (z : Nat → Int32) (f : Nat → FA) (F : Nat) : rnG call 46 (F + 1) 43 ls [vI a0, vR 0] (LR z f) = cbd (call 61 [vR 0, vI a0] (LR z f)) (fun r L' => rnG call 46 F 44 ls (r.toList ++ []) L') := pcY (ih := rnG call 46 F) (call := call) (a := 61) (b := 1) (v := 12) (t := 44) (x := 0) (ls := ls) (As := [vI a0]) (st' := []) (L := LR z f) rfl rfl rfl
set_option maxRecDepth 100000 in
theorem b46_31 (call : QC FA) (x : Int32) (ls : List (Option PV)) (L : QH FA) (F : Nat) : rnG call 46 (F + 1) 44 ls [vI x] L = some (some (vI x), L) := rfl
set_option maxRecDepth 100000 in
theorem b46_32 (call : QC FA) (x1 : Int32) (L : QH FA) (F : Nat) : rnG call 46 (F + 1) 35 [some (vR 0), some (vI x1)] [] L = rnG call 46 F 36 [some (vR 0), some (vI x1)] [vR 0] L := rfl
set_option maxRecDepth 100000 in
theorem b46_33 (call : QC FA) (ls : List (Option PV)) (z : Nat → Int32) (f : Nat → FA) (F : Nat) : rnG call 46 (F + 1) 36 ls [vR 0] (LR z f) = cbd (call 60 [vR 0] (LR z f)) (fun r L' => rnG call 46 F 37 ls (r.toList ++ []) L') := pcY (ih := rnG call 46 F) (call := call) (a := 60) (b := 0) (v := 12) (t := 37) (x := 0) (ls := ls) (As := []) (st' := []) (L := LR z f) rfl rfl rfl
set_option maxRecDepth 100000 in
theorem b46_34 (call : QC FA) (x : Int32) (ls : List (Option PV)) (L : QH FA) (F : Nat) : rnG call 46 (F + 1) 37 ls [vI x] L = some (some (vI x), L) := rfl
set_option maxRecDepth 100000 in
theorem b46_35 (call : QC FA) (x1 : Int32) (L : QH FA) (F : Nat) : rnG call 46 (F + 1) 25 [some (vR 0), some (vI x1)] [] L = rnG call 46 F 26 [some (vR 0), some (vI x1)] [vR 0] L := rfl
set_option maxRecDepth 100000 in
theorem b46_36 (call : QC FA) (ls : List (Option PV)) (z : Nat → Int32) (f : Nat → FA) (F : Nat) : rnG call 46 (F + 1) 26 ls [vR 0] (LR z f) = cbd (call 60 [vR 0] (LR z f)) (fun r L' => rnG call 46 F 27 ls (r.toList ++ []) L') := pcY (ih := rnG call 46 F) (call := call) (a := 60) (b := 0) (v := 12) (t := 27) (x := 0) (ls := ls) (As := []) (st' := []) (L := LR z f) rfl rfl rfl
set_option maxRecDepth 100000 in
theorem b46_37 (call : QC FA) (x : Int32) (ls : List (Option PV)) (L : QH FA) (F : Nat) : rnG call 46 (F + 1) 27 ls [vI x] L = bif pcmp 1 x 0 then rnG call 46 F 30 ls [] L else rnG call 46 F 28 ls [] L := rfl
set_option maxRecDepth 100000 in
theorem b46_38 (call : QC FA) (x1 : Int32) (L : QH FA) (F : Nat) : rnG call 46 (F + 1) 30 [some (vR 0), some (vI x1)] [] L = rnG call 46 F 31 [some (vR 0), some (vI x1)] [vI 0] L := rfl
set_option maxRecDepth 100000 in
theorem b46_39 (call : QC FA) (x : Int32) (ls : List (Option PV)) (L : QH FA) (F : Nat) : rnG call 46 (F + 1) 31 ls [vI x] L = some (some (vI x), L) := rfl
set_option maxRecDepth 100000 in
theorem b46_40 (call : QC FA) (x1 : Int32) (L : QH FA) (F : Nat) : rnG call 46 (F + 2) 28 [some (vR 0), some (vI x1)] [] L = rnG call 46 F 31 [some (vR 0), some (vI x1)] [vI 1] L := rfl
set_option maxRecDepth 100000 in
theorem b46_41 (call : QC FA) (x1 : Int32) (L : QH FA) (F : Nat) : rnG call 46 (F + 1) 19 [some (vR 0), some (vI x1)] [] L = rnG call 46 F 20 [some (vR 0), some (vI x1)] [vR 0] L := rfl
set_option maxRecDepth 100000 in
theorem b46_42 (call : QC FA) (ls : List (Option PV)) (z : Nat → Int32) (f : Nat → FA) (F : Nat) : rnG call 46 (F + 1) 20 ls [vR 0] (LR z f) = cbd (call 59 [vR 0] (LR z f)) (fun r L' => rnG call 46 F 21 ls (r.toList ++ []) L') := pcY (ih := rnG call 46 F) (call := call) (a := 59) (b := 0) (v := 12) (t := 21) (x := 0) (ls := ls) (As := []) (st' := []) (L := LR z f) rfl rfl rfl
set_option maxRecDepth 100000 in
theorem b46_43 (call : QC FA) (x : Int32) (ls : List (Option PV)) (L : QH FA) (F : Nat) : rnG call 46 (F + 1) 21 ls [vI x] L = some (some (vI x), L) := rfl
set_option maxRecDepth 100000 in
theorem b46_44 (call : QC FA) (x1 : Int32) (L : QH FA) (F : Nat) : rnG call 46 (F + 1) 13 [some (vR 0), some (vI x1)] [] L = rnG call 46 F 14 [some (vR 0), some (vI x1)] [vR 0] L := rfl
set_option maxRecDepth 100000 in
theorem b46_45 (call : QC FA) (ls : List (Option PV)) (z : Nat → Int32) (f : Nat → FA) (F : Nat) : rnG call 46 (F + 1) 14 ls [vR 0] (LR z f) = cbd (call 48 [vR 0] (LR z f)) (fun r L' => rnG call 46 F 15 ls (r.toList ++ []) L') := pcY (ih := rnG call 46 F) (call := call) (a := 48) (b := 0) (v := 12) (t := 15) (x := 0) (ls := ls) (As := []) (st' := []) (L := LR z f) rfl rfl rfl
set_option maxRecDepth 100000 in
theorem b46_46 (call : QC FA) (x : Int32) (ls : List (Option PV)) (L : QH FA) (F : Nat) : rnG call 46 (F + 1) 15 ls [vI x] L = some (some (vI x), L) := rfl
set_option maxRecDepth 100000 in
theorem b46_47 (call : QC FA) (x1 : Int32) (L : QH FA) (F : Nat) : rnG call 46 (F + 1) 9 [some (vR 0), some (vI x1)] [] L = rnG call 46 F 10 [some (vR 0), some (vI x1)] [vI ((-100000))] L := rfl
set_option maxRecDepth 100000 in
theorem b46_48 (call : QC FA) (x : Int32) (ls : List (Option PV)) (L : QH FA) (F : Nat) : rnG call 46 (F + 1) 10 ls [vI x] L = some (some (vI x), L) := rfl
theorem vc46_0 (d : Nat) (x1 : Int32) (z : Nat → Int32) (f : Nat → FA) (res : Option PV × QH FA) (H : (((0 ≤ I x1 ∧ I x1 ≤ 9) → ((¬ x1 = 0 → ((¬ x1 = 1 → ((¬ x1 = 5 → ((¬ x1 = 6 → ((I x1 ≤ 6 → (∃ (z1 : Nat → Int32) (f1 : Nat → FA), (mcall (d + 5)) 63 [vR 0] (LR (uZ z 0 0) f) = some (none, LR z1 f1) ∧ ((¬ x1 = 4 → ((¬ x1 = 3 → (∃ (r2 : Int32) (z2 : Nat → Int32) (f2 : Nat → FA), (mcall (d + 5)) 66 [vR 0, vI 0] (LR z1 f1) = some (some (vI r2), LR z2 f2) ∧ res = (some (vI r2), LR z2 f2))) ∧ (x1 = 3 → (∃ (r3 : Int32) (z3 : Nat → Int32) (f3 : Nat → FA), (mcall (d + 5)) 66 [vR 0, vI 1] (LR z1 f1) = some (some (vI r3), LR z3 f3) ∧ res = (some (vI r3), LR z3 f3))))) ∧ (x1 = 4 → (∃ (r4 : Int32) (z4 : Nat → Int32) (f4 : Nat → FA), (mcall (d + 5)) 64 [vR 0] (LR z1 f1) = some (some (vI r4), LR z4 f4) ∧ res = (some (vI r4), LR z4 f4)))))) ∧ (6 < I x1 → (∃ (r5 : Int32) (z5 : Nat → Int32) (f5 : Nat → FA), (mcall (d + 5)) 61 [vR 0, vI x1] (LR (uZ z 0 0) f) = some (some (vI r5), LR z5 f5) ∧ res = (some (vI r5), LR z5 f5))))) ∧ (x1 = 6 → (∃ (r6 : Int32) (z6 : Nat → Int32) (f6 : Nat → FA), (mcall (d + 5)) 60 [vR 0] (LR (uZ z 0 0) f) = some (some (vI r6), LR z6 f6) ∧ res = (some (vI r6), LR z6 f6))))) ∧ (x1 = 5 → (∃ (r7 : Int32) (z7 : Nat → Int32) (f7 : Nat → FA), (mcall (d + 5)) 60 [vR 0] (LR (uZ z 0 0) f) = some (some (vI r7), LR z7 f7) ∧ ((¬ r7 = 0 → res = (some (vI 0), LR z7 f7)) ∧ (r7 = 0 → res = (some (vI 1), LR z7 f7))))))) ∧ (x1 = 1 → (∃ (r8 : Int32) (z8 : Nat → Int32) (f8 : Nat → FA), (mcall (d + 5)) 59 [vR 0] (LR (uZ z 0 0) f) = some (some (vI r8), LR z8 f8) ∧ res = (some (vI r8), LR z8 f8))))) ∧ (x1 = 0 → (∃ (r9 : Int32) (z9 : Nat → Int32) (f9 : Nat → FA), (mcall (d + 5)) 48 [vR 0] (LR (uZ z 0 0) f) = some (some (vI r9), LR z9 f9) ∧ res = (some (vI r9), LR z9 f9))))) ∧ ((¬ (0 ≤ I x1 ∧ I x1 ≤ 9)) → res = (some (vI ((-100000))), LR (uZ z 0 0) f)))) : RC (mcall (d + 5)) (mP 46) 0 [some (vR 0), some (vI x1)] [] (LR z f) res := by
  refine rc_b (i' := 2) (ls' := [some (vR 0), some (vI x1)]) (st' := [vI 0, vR 0]) (L' := LR z f) 2 (b46_1 (mcall (d + 5)) x1 _) ?_
  refine rc_b (i' := 3) (ls' := [some (vR 0), some (vI x1)]) (st' := []) (L' := LR (uZ z 0 0) f) 1 (b46_2 (mcall (d + 5)) 0 _ z f) ?_
  refine rc_b (i' := 7) (ls' := [some (vR 0), some (vI x1)]) (st' := [vI 9, vI 0, vI x1, vR 0]) (L' := LR (uZ z 0 0) f) 4 (b46_3 (mcall (d + 5)) x1 _) ?_
  refine rc_call (t := 8) (ls' := [some (vR 0), some (vI x1)]) (st' := []) (b46_4 (mcall (d + 5)) x1 0 9 _ (uZ z 0 0) f) (isIn_r _ x1 0 9 (uZ z 0 0) f) ?_
  show RC (mcall (d + 5)) (mP 46) 8 [some (vR 0), some (vI x1)] [vI (bI (0 ≤ I x1 ∧ I x1 ≤ 9))] (LR (uZ z 0 0) f) res
  refine rc_bn (it := 11) (ie := 9) (ls' := [some (vR 0), some (vI x1)]) (st' := []) (b46_5 (mcall (d + 5)) (bI (0 ≤ I x1 ∧ I x1 ≤ 9)) _ _) (fun q1 => ?_) (fun q1 => ?_)
  · have H := H.1 q1
    refine rc_b (i' := 12) (ls' := [some (vR 0), some (vI x1)]) (st' := [vI x1]) (L' := LR (uZ z 0 0) f) 1 (b46_6 (mcall (d + 5)) x1 _) ?_
    refine rc_if (it := 16) (ie := 13) (ls' := [some (vR 0), some (vI x1)]) (st' := []) (b46_7 (mcall (d + 5)) x1 _ _) (fun q2 => ?_) (fun q2 => ?_)
    · have H := H.1 (cI1t q2)
      refine rc_b (i' := 18) (ls' := [some (vR 0), some (vI x1)]) (st' := [vI 1, vI x1]) (L' := LR (uZ z 0 0) f) 2 (b46_8 (mcall (d + 5)) x1 _) ?_
      refine rc_if (it := 22) (ie := 19) (ls' := [some (vR 0), some (vI x1)]) (st' := []) (b46_9 (mcall (d + 5)) x1 1 _ _) (fun q3 => ?_) (fun q3 => ?_)
      · have H := H.1 (cI1t q3)
        refine rc_b (i' := 24) (ls' := [some (vR 0), some (vI x1)]) (st' := [vI 5, vI x1]) (L' := LR (uZ z 0 0) f) 2 (b46_10 (mcall (d + 5)) x1 _) ?_
        refine rc_if (it := 32) (ie := 25) (ls' := [some (vR 0), some (vI x1)]) (st' := []) (b46_11 (mcall (d + 5)) x1 5 _ _) (fun q4 => ?_) (fun q4 => ?_)
        · have H := H.1 (cI1t q4)
          refine rc_b (i' := 34) (ls' := [some (vR 0), some (vI x1)]) (st' := [vI 6, vI x1]) (L' := LR (uZ z 0 0) f) 2 (b46_12 (mcall (d + 5)) x1 _) ?_
          refine rc_if (it := 38) (ie := 35) (ls' := [some (vR 0), some (vI x1)]) (st' := []) (b46_13 (mcall (d + 5)) x1 6 _ _) (fun q5 => ?_) (fun q5 => ?_)
          · have H := H.1 (cI1t q5)
            refine rc_b (i' := 40) (ls' := [some (vR 0), some (vI x1)]) (st' := [vI 6, vI x1]) (L' := LR (uZ z 0 0) f) 2 (b46_14 (mcall (d + 5)) x1 _) ?_
            refine rc_if (it := 45) (ie := 41) (ls' := [some (vR 0), some (vI x1)]) (st' := []) (b46_15 (mcall (d + 5)) x1 6 _ _) (fun q6 => ?_) (fun q6 => ?_)
            · have H := H.1 (cI5t q6 rfl rfl)
              refine rc_b (i' := 46) (ls' := [some (vR 0), some (vI x1)]) (st' := [vR 0]) (L' := LR (uZ z 0 0) f) 1 (b46_16 (mcall (d + 5)) x1 _) ?_
              obtain ⟨z1, f1, hc, H⟩ := H
              refine rc_call (t := 47) (ls' := [some (vR 0), some (vI x1)]) (st' := []) (b46_17 (mcall (d + 5)) _ (uZ z 0 0) f) hc ?_
              show RC (mcall (d + 5)) (mP 46) 47 [some (vR 0), some (vI x1)] [] (LR z1 f1) res
              refine rc_b (i' := 49) (ls' := [some (vR 0), some (vI x1)]) (st' := [vI 4, vI x1]) (L' := LR z1 f1) 2 (b46_18 (mcall (d + 5)) x1 _) ?_
              refine rc_if (it := 53) (ie := 50) (ls' := [some (vR 0), some (vI x1)]) (st' := []) (b46_19 (mcall (d + 5)) x1 4 _ _) (fun q7 => ?_) (fun q7 => ?_)
              · have H := H.1 (cI1t q7)
                refine rc_b (i' := 56) (ls' := [some (vR 0), some (vI x1)]) (st' := [vI 3, vI x1, vR 0]) (L' := LR z1 f1) 3 (b46_20 (mcall (d + 5)) x1 _) ?_
                refine rc_if (it := 59) (ie := 57) (ls' := [some (vR 0), some (vI x1)]) (st' := [vR 0]) (b46_21 (mcall (d + 5)) x1 3 _ _) (fun q8 => ?_) (fun q8 => ?_)
                · have H := H.1 (cI1t q8)
                  refine rc_b (i' := 60) (ls' := [some (vR 0), some (vI x1)]) (st' := [vI 0, vR 0]) (L' := LR z1 f1) 1 (b46_22 (mcall (d + 5)) x1 _) ?_
                  obtain ⟨r2, z2, f2, hc, H⟩ := H
                  refine rc_call (t := 61) (ls' := [some (vR 0), some (vI x1)]) (st' := []) (b46_23 (mcall (d + 5)) 0 _ z1 f1) hc ?_
                  show RC (mcall (d + 5)) (mP 46) 61 [some (vR 0), some (vI x1)] [vI r2] (LR z2 f2) res
                  subst H
                  exact rc_ret (b46_24 (mcall (d + 5)) _ _ _)
                · have H := H.2 (cI1f q8)
                  refine rc_b (i' := 60) (ls' := [some (vR 0), some (vI x1)]) (st' := [vI 1, vR 0]) (L' := LR z1 f1) 2 (b46_25 (mcall (d + 5)) x1 _) ?_
                  obtain ⟨r3, z3, f3, hc, H⟩ := H
                  refine rc_call (t := 61) (ls' := [some (vR 0), some (vI x1)]) (st' := []) (b46_23 (mcall (d + 5)) 1 _ z1 f1) hc ?_
                  show RC (mcall (d + 5)) (mP 46) 61 [some (vR 0), some (vI x1)] [vI r3] (LR z3 f3) res
                  subst H
                  exact rc_ret (b46_24 (mcall (d + 5)) _ _ _)
              · have H := H.2 (cI1f q7)
                refine rc_b (i' := 51) (ls' := [some (vR 0), some (vI x1)]) (st' := [vR 0]) (L' := LR z1 f1) 1 (b46_26 (mcall (d + 5)) x1 _) ?_
                obtain ⟨r4, z4, f4, hc, H⟩ := H
                refine rc_call (t := 52) (ls' := [some (vR 0), some (vI x1)]) (st' := []) (b46_27 (mcall (d + 5)) _ z1 f1) hc ?_
                show RC (mcall (d + 5)) (mP 46) 52 [some (vR 0), some (vI x1)] [vI r4] (LR z4 f4) res
                refine rc_b (i' := 61) (ls' := [some (vR 0), some (vI x1)]) (st' := [vI r4]) (L' := LR z4 f4) 1 (b46_28 (mcall (d + 5)) x1 r4 _) ?_
                subst H
                exact rc_ret (b46_24 (mcall (d + 5)) _ _ _)
            · have H := H.2 (cI5f q6 rfl rfl)
              refine rc_b (i' := 43) (ls' := [some (vR 0), some (vI x1)]) (st' := [vI x1, vR 0]) (L' := LR (uZ z 0 0) f) 2 (b46_29 (mcall (d + 5)) x1 _) ?_
              obtain ⟨r5, z5, f5, hc, H⟩ := H
              refine rc_call (t := 44) (ls' := [some (vR 0), some (vI x1)]) (st' := []) (b46_30 (mcall (d + 5)) x1 _ (uZ z 0 0) f) hc ?_
              show RC (mcall (d + 5)) (mP 46) 44 [some (vR 0), some (vI x1)] [vI r5] (LR z5 f5) res
              subst H
              exact rc_ret (b46_31 (mcall (d + 5)) _ _ _)
          · have H := H.2 (cI1f q5)
            refine rc_b (i' := 36) (ls' := [some (vR 0), some (vI x1)]) (st' := [vR 0]) (L' := LR (uZ z 0 0) f) 1 (b46_32 (mcall (d + 5)) x1 _) ?_
            obtain ⟨r6, z6, f6, hc, H⟩ := H
            refine rc_call (t := 37) (ls' := [some (vR 0), some (vI x1)]) (st' := []) (b46_33 (mcall (d + 5)) _ (uZ z 0 0) f) hc ?_
            show RC (mcall (d + 5)) (mP 46) 37 [some (vR 0), some (vI x1)] [vI r6] (LR z6 f6) res
            subst H
            exact rc_ret (b46_34 (mcall (d + 5)) _ _ _)
        · have H := H.2 (cI1f q4)
          refine rc_b (i' := 26) (ls' := [some (vR 0), some (vI x1)]) (st' := [vR 0]) (L' := LR (uZ z 0 0) f) 1 (b46_35 (mcall (d + 5)) x1 _) ?_
          obtain ⟨r7, z7, f7, hc, H⟩ := H
          refine rc_call (t := 27) (ls' := [some (vR 0), some (vI x1)]) (st' := []) (b46_36 (mcall (d + 5)) _ (uZ z 0 0) f) hc ?_
          show RC (mcall (d + 5)) (mP 46) 27 [some (vR 0), some (vI x1)] [vI r7] (LR z7 f7) res
          refine rc_if (it := 30) (ie := 28) (ls' := [some (vR 0), some (vI x1)]) (st' := []) (b46_37 (mcall (d + 5)) r7 _ _) (fun q9 => ?_) (fun q9 => ?_)
          · have H := H.1 (cI1t q9)
            refine rc_b (i' := 31) (ls' := [some (vR 0), some (vI x1)]) (st' := [vI 0]) (L' := LR z7 f7) 1 (b46_38 (mcall (d + 5)) x1 _) ?_
            subst H
            exact rc_ret (b46_39 (mcall (d + 5)) _ _ _)
          · have H := H.2 (cI1f q9)
            refine rc_b (i' := 31) (ls' := [some (vR 0), some (vI x1)]) (st' := [vI 1]) (L' := LR z7 f7) 2 (b46_40 (mcall (d + 5)) x1 _) ?_
            subst H
            exact rc_ret (b46_39 (mcall (d + 5)) _ _ _)
      · have H := H.2 (cI1f q3)
        refine rc_b (i' := 20) (ls' := [some (vR 0), some (vI x1)]) (st' := [vR 0]) (L' := LR (uZ z 0 0) f) 1 (b46_41 (mcall (d + 5)) x1 _) ?_
        obtain ⟨r8, z8, f8, hc, H⟩ := H
        refine rc_call (t := 21) (ls' := [some (vR 0), some (vI x1)]) (st' := []) (b46_42 (mcall (d + 5)) _ (uZ z 0 0) f) hc ?_
        show RC (mcall (d + 5)) (mP 46) 21 [some (vR 0), some (vI x1)] [vI r8] (LR z8 f8) res
        subst H
        exact rc_ret (b46_43 (mcall (d + 5)) _ _ _)
    · have H := H.2 (cI1f q2)
      refine rc_b (i' := 14) (ls' := [some (vR 0), some (vI x1)]) (st' := [vR 0]) (L' := LR (uZ z 0 0) f) 1 (b46_44 (mcall (d + 5)) x1 _) ?_
      obtain ⟨r9, z9, f9, hc, H⟩ := H
      refine rc_call (t := 15) (ls' := [some (vR 0), some (vI x1)]) (st' := []) (b46_45 (mcall (d + 5)) _ (uZ z 0 0) f) hc ?_
      show RC (mcall (d + 5)) (mP 46) 15 [some (vR 0), some (vI x1)] [vI r9] (LR z9 f9) res
      subst H
      exact rc_ret (b46_46 (mcall (d + 5)) _ _ _)
  · have H := H.2 q1
    refine rc_b (i' := 10) (ls' := [some (vR 0), some (vI x1)]) (st' := [vI ((-100000))]) (L' := LR (uZ z 0 0) f) 1 (b46_47 (mcall (d + 5)) x1 _) ?_
    subst H
    exact rc_ret (b46_48 (mcall (d + 5)) _ _ _)
theorem XR_hw : ∀ k, k ∈ XR → k ∉ [1, 2, 3, 4, 5, 6, 7, 21, 22, 23] := by decide
def PSIW (dc kc dr kr : Nat) (As : List Int32) : Prop := ∀ (W : TXW) (L : LAW) (n nv nw ns nt c : Nat) (z zr : Nat → Int32) (f r : Nat → FA), BNDf r → WTX W → LWC W 0 L n → LOK L n → WR W L n nv nw ns z f zr r → RGA c c c nv z f zr r → TWR W nt (r 20) → ∃ v z' f' zr' r' c' nv', xcall dc kc (vR 0 :: As.map vI) (LW W z f) = some (some (vI v), LW W z' f') ∧ mcall dr kr (vR 0 :: As.map vI) (LR zr r) = some (some (vI v), LR zr' r') ∧ WR W L n nv' nw ns z' f' zr' r' ∧ RGA c' c' c' nv' z' f' zr' r' ∧ (∀ j, j ≠ 0 → j ≠ 3 → j ≠ 6 → zr' j = zr j) ∧ (∀ k, k ∉ [1, 2, 3, 4, 5, 6, 7, 21, 22, 23] → r' k = r k) ∧ nv ≤ nv'
theorem play_pairw (l : Launch) (G : PG) {nc nm : Nat} {h : PH} (hI : LIY PCW nc nm h) {sc sr : SU} {dc dr : Nat} (hdc : sc.2.1 ≤ dc) (hdr : sr.2.1 ≤ dr) (hSc : ∀ lam, LAMC lam → SUOK lam TCl EXT l G sc) (hSr : SUOK (lamM nm) TRf (EXR (lamM nm)) l G sr) {As : List Int32} (sim : PSIW dc sc.1 dr sr.1 As)
    (ec : sc.2.2.2.2.all (fun e => !(e.1 == 0 && e.2 == 2)) = true) (er : sr.2.2.2.2.all (fun e => wrR e.1 && !(e.1 == 0 && e.2 == 73)) = true)
    (aC : ∀ lam : Nat → Nat, lam 0 = nc → R2 (vRel lam []) sc.2.2.1 (vR nc :: As.map vI)) (aR : R2 (vRel (lamM nm) []) sr.2.2.1 (vR nm :: As.map vI)) : PRY PCW l G nc nm h sc.1 dc sr.1 dr (As.map vI) := by
  obtain ⟨lam, b, hB, lb, W, z, f, zr, r, hW, ⟨L, n, nv, nw, ns, nt, c, k1, k2, k3, k4, k5, k6, k7, k8⟩, hT, hK, hZ⟩ := hI
  obtain ⟨v, z', f', zr', r', c', nv', x1, x2, x3, x4, x5, x6, x7⟩ := sim W L n nv nw ns nt c z zr f r (BNDf_of hB.2.2.2.2.1 hW.2.2) k1 k3 k4 k5 k6 k7
  refine w_pair l G hB hW hdc hdr (hSc lam hB.2.1) hSr x1 x2 (fun k hk => x6 k (XR_hw k hk)) (x5 73 (by decide) (by decide) (by decide)) ec er (aC lam (hB.2.2.1 0 (by decide))) aR (fun h' _ q2 q3 => ?_)
  refine ⟨lb, W, z', f', zr', r', q2, ⟨L, n, nv', nw, ns, nt, c', k1, k2, k3, k4, x3, x4, by rw [x6 20 (by decide)]; exact k7, by rw [x6 9 (by decide)]; exact k8⟩, hT.tr (x5 12 (by decide) (by decide) (by decide)) (x5 32 (by decide) (by decide) (by decide)) (x5 33 (by decide) (by decide) (by decide)) (x6 8 (by decide)) (fun k hk => q3 _ (fun i hi => hW.1.tp i hi k hk) (fun j hj => tp_nm hB.2.2.1 hB.2.2.2.2.2.2.2 k hk j hj)), hK.tr (fun k hk => q3 _ (fun i hi => hW.1.im i hi k hk) (fun j hj => im_nm hB.2.2.1 hB.2.2.2.2.2.2.2 k hk j hj)) (fun p _ => by rw [x6 42 (by decide)]), hZ.le (x5 38 (by decide) (by decide) (by decide)) (by
    have a1 : nv' ≤ 20 := x3.1.1.1
    rw [k5.2.2.2.2, x3.2.2.2.2, I_nI (by omega), I_nI (by omega)]
    omega)⟩
theorem WR.wx {W : TXW} {L : LAW} {n nv nw ns : Nat} {z z' zr : Nat → Int32} {f f' r r' : Nat → FA} (h : WR W L n nv nw ns z f zr r) (hz : ∀ k, k ≠ 392 → k ≠ 393 → z' k = z k) (hf : ∀ k, k ≠ 9 → k ≠ 10 → k ≠ 11 → k ≠ 40 → k ≠ 41 → f' k = f k) (hr : ∀ k, k ≠ 21 → k ≠ 22 → k ≠ 23 → r' k = r k) : WR W L n nv nw ns z' f' (uZ zr 0 0) r' :=
  h.cg (fun i h1 h2 => hz i (by omega) (by omega)) (fun j _ => by rw [hf 3 (by decide) (by decide) (by decide) (by decide) (by decide)]) (fun j _ => by rw [hf 4 (by decide) (by decide) (by decide) (by decide) (by decide)]) (fun j _ => by rw [hf 6 (by decide) (by decide) (by decide) (by decide) (by decide)]) (fun q hq => uZ_n ((show ∀ q, q ∈ [5, 6, 34, 36] → q ≠ 0 by decide) q hq))
    (fun e he j _ => by
      have := (show ∀ e, e ∈ IMT → e.1 ≠ 21 ∧ e.1 ≠ 22 ∧ e.1 ≠ 23 by decide) e he
      rw [hr e.1 this.1 this.2.1 this.2.2])
theorem RGA.wx {c nv : Nat} {z z' zr : Nat → Int32} {f f' r r' : Nat → FA} (g : RGA c c c nv z f zr r) (hz : ∀ k, k ≠ 392 → k ≠ 393 → z' k = z k) (hf : ∀ k, k ≠ 9 → k ≠ 10 → k ≠ 11 → k ≠ 40 → k ≠ 41 → f' k = f k) (hr : ∀ k, k ≠ 21 → k ≠ 22 → k ≠ 23 → r' k = r k) : RGA c c c nv z' f' (uZ zr 0 0) r' :=
  g.st (fun j h1 h2 => hz j (by omega) (by omega)) (fun j h1 h2 => hf j (by omega) (by omega) (by omega) (by omega) (by omega)) (uZ_n (by decide)) (hr 2 (by decide) (by decide) (by decide)) (hr 4 (by decide) (by decide) (by decide)) (hr 5 (by decide) (by decide) (by decide)) (hr 6 (by decide) (by decide) (by decide))
def mkR (g : FA) (i : Nat) : Bool := decide (0 < I (g (67 + i)))
theorem mkR_r (g : FA) (i : Nat) : mkR g i = true ↔ 0 < I (g (67 + i)) := ⟨fun q => of_decide_eq_true q, fun q => decide_eq_true q⟩
theorem mkR_c {nv : Nat} {m g : FA} (hn : nv ≤ 20) (hm : MRS nv m g) (i : Nat) (hi : i < 144) : mkR g i = true ↔ ¬ m i = 0 := by
  rw [mkR_r]
  obtain ⟨q1, q2, q3⟩ := (hm i hi).val hn
  rcases q3 with ⟨q, -, q5⟩ | ⟨q, v, hv, ho, hwu, -⟩
  · rw [q5]
    exact ⟨fun w => absurd w (by decide), fun w => absurd q w⟩
  · rw [hwu, I_nI (by omega)]
    exact ⟨fun _ => q, fun _ => by omega⟩
theorem bqr_7 (mk : Nat → Bool) : bqr mk (nI 7) = bqs mk 144 := if_pos (by decide)
theorem bqr_8 (mk : Nat → Bool) : bqr mk (nI 8) = if bqb mk 144 = -1 then -1 else bqb mk 144 / 12 := by
  unfold bqr
  rw [if_neg (show ¬ nI 8 = 7 by decide), if_pos (show nI 8 = 8 by decide)]
theorem bqr_9 (mk : Nat → Bool) : bqr mk (nI 9) = if bqb mk 144 = -1 then -1 else bqb mk 144 - bqb mk 144 / 12 * 12 := by
  unfold bqr
  rw [if_neg (show ¬ nI 9 = 7 by decide), if_neg (show ¬ nI 9 = 8 by decide)]
