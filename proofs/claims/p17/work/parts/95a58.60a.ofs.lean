/-! of: the reference -/
set_option maxRecDepth 100000 in
theorem b244_1 (call : QC FA) (x1 : Int32) (x2 : Int32) (L : QH FA) (F : Nat) : rnG call 244 (F + 2) 0 [some (vR 0), some (vI x1), some (vI x2)] [] L = rnG call 244 F 2 [some (vR 0), some (vI x1), some (vI x2)] [vI 0, vR 0] L := rfl
set_option maxRecDepth 100000 in
theorem b244_2 (call : QC FA) (y : Int32) (ls : List (Option PV)) (z : Nat → Int32) (f : Nat → FA) (F : Nat) : rnG call 244 (F + 1) 2 ls [vI y, vR 0] (LR z f) = rnG call 244 F 3 ls [] (LR (uZ z 0 y) f) := rfl
set_option maxRecDepth 100000 in
theorem b244_3 (call : QC FA) (x1 : Int32) (x2 : Int32) (L : QH FA) (F : Nat) : rnG call 244 (F + 2) 3 [some (vR 0), some (vI x1), some (vI x2)] [] L = rnG call 244 F 5 [some (vR 0), some (vI x1), some (vI x2)] [vI x1, vR 0] L := rfl
set_option maxRecDepth 100000 in
theorem b244_4 (call : QC FA) (a0 : Int32) (ls : List (Option PV)) (z : Nat → Int32) (f : Nat → FA) (F : Nat) : rnG call 244 (F + 1) 5 ls [vI a0, vR 0] (LR z f) = cbd (call 227 [vR 0, vI a0] (LR z f)) (fun r L' => rnG call 244 F 6 ls (r.toList ++ []) L') := pcY (ih := rnG call 244 F) (call := call) (a := 227) (b := 1) (v := 12) (t := 6) (x := 0) (ls := ls) (As := [vI a0]) (st' := []) (L := LR z f) rfl rfl rfl
set_option maxRecDepth 100000 in
theorem b244_5 (call : QC FA) (x : Int32) (ls : List (Option PV)) (L : QH FA) (F : Nat) : rnG call 244 (F + 1) 6 ls [vI x] L = bif pcmp 1 x 0 then rnG call 244 F 9 ls [] L else rnG call 244 F 7 ls [] L := rfl
set_option maxRecDepth 100000 in
theorem b244_6 (call : QC FA) (x1 : Int32) (x2 : Int32) (L : QH FA) (F : Nat) : rnG call 244 (F + 1) 9 [some (vR 0), some (vI x1), some (vI x2)] [] L = rnG call 244 F 10 [some (vR 0), some (vI x1), some (vI x2)] [vI x2] L := rfl
set_option maxRecDepth 100000 in
theorem b244_7 (call : QC FA) (x : Int32) (ls : List (Option PV)) (L : QH FA) (F : Nat) : rnG call 244 (F + 1) 10 ls [vI x] L = bif pcmp 1 x 0 then rnG call 244 F 16 ls [] L else rnG call 244 F 11 ls [] L := rfl
set_option maxRecDepth 100000 in
theorem b244_8 (call : QC FA) (x1 : Int32) (x2 : Int32) (L : QH FA) (F : Nat) : rnG call 244 (F + 2) 16 [some (vR 0), some (vI x1), some (vI x2)] [] L = rnG call 244 F 18 [some (vR 0), some (vI x1), some (vI x2)] [vI 1, vI x2] L := rfl
set_option maxRecDepth 100000 in
theorem b244_9 (call : QC FA) (x y : Int32) (ls : List (Option PV)) (L : QH FA) (F : Nat) : rnG call 244 (F + 1) 18 ls [vI y, vI x] L = bif pcmp 1 x y then rnG call 244 F 26 ls [] L else rnG call 244 F 19 ls [] L := rfl
set_option maxRecDepth 100000 in
theorem b244_10 (call : QC FA) (x1 : Int32) (x2 : Int32) (L : QH FA) (F : Nat) : rnG call 244 (F + 2) 26 [some (vR 0), some (vI x1), some (vI x2)] [] L = rnG call 244 F 28 [some (vR 0), some (vI x1), some (vI x2)] [vI 2, vI x2] L := rfl
set_option maxRecDepth 100000 in
theorem b244_11 (call : QC FA) (x y : Int32) (ls : List (Option PV)) (L : QH FA) (F : Nat) : rnG call 244 (F + 1) 28 ls [vI y, vI x] L = bif pcmp 1 x y then rnG call 244 F 34 ls [] L else rnG call 244 F 29 ls [] L := rfl
set_option maxRecDepth 100000 in
theorem b244_12 (call : QC FA) (x1 : Int32) (x2 : Int32) (L : QH FA) (F : Nat) : rnG call 244 (F + 2) 34 [some (vR 0), some (vI x1), some (vI x2)] [] L = rnG call 244 F 36 [some (vR 0), some (vI x1), some (vI x2)] [vI 3, vI x2] L := rfl
set_option maxRecDepth 100000 in
theorem b244_13 (call : QC FA) (x y : Int32) (ls : List (Option PV)) (L : QH FA) (F : Nat) : rnG call 244 (F + 1) 36 ls [vI y, vI x] L = bif pcmp 1 x y then rnG call 244 F 42 ls [] L else rnG call 244 F 37 ls [] L := rfl
set_option maxRecDepth 100000 in
theorem b244_14 (call : QC FA) (x1 : Int32) (x2 : Int32) (L : QH FA) (F : Nat) : rnG call 244 (F + 2) 42 [some (vR 0), some (vI x1), some (vI x2)] [] L = rnG call 244 F 44 [some (vR 0), some (vI x1), some (vI x2)] [vI 4, vI x2] L := rfl
set_option maxRecDepth 100000 in
theorem b244_15 (call : QC FA) (x y : Int32) (ls : List (Option PV)) (L : QH FA) (F : Nat) : rnG call 244 (F + 1) 44 ls [vI y, vI x] L = bif pcmp 1 x y then rnG call 244 F 52 ls [] L else rnG call 244 F 45 ls [] L := rfl
set_option maxRecDepth 100000 in
theorem b244_16 (call : QC FA) (x1 : Int32) (x2 : Int32) (L : QH FA) (F : Nat) : rnG call 244 (F + 2) 52 [some (vR 0), some (vI x1), some (vI x2)] [] L = rnG call 244 F 54 [some (vR 0), some (vI x1), some (vI x2)] [vI 5, vI x2] L := rfl
set_option maxRecDepth 100000 in
theorem b244_17 (call : QC FA) (x y : Int32) (ls : List (Option PV)) (L : QH FA) (F : Nat) : rnG call 244 (F + 1) 54 ls [vI y, vI x] L = bif pcmp 1 x y then rnG call 244 F 62 ls [] L else rnG call 244 F 55 ls [] L := rfl
set_option maxRecDepth 100000 in
theorem b244_18 (call : QC FA) (x1 : Int32) (x2 : Int32) (L : QH FA) (F : Nat) : rnG call 244 (F + 2) 62 [some (vR 0), some (vI x1), some (vI x2)] [] L = rnG call 244 F 64 [some (vR 0), some (vI x1), some (vI x2)] [vI 6, vI x2] L := rfl
set_option maxRecDepth 100000 in
theorem b244_19 (call : QC FA) (x y : Int32) (ls : List (Option PV)) (L : QH FA) (F : Nat) : rnG call 244 (F + 1) 64 ls [vI y, vI x] L = bif pcmp 1 x y then rnG call 244 F 69 ls [] L else rnG call 244 F 65 ls [] L := rfl
set_option maxRecDepth 100000 in
theorem b244_20 (call : QC FA) (x1 : Int32) (x2 : Int32) (L : QH FA) (F : Nat) : rnG call 244 (F + 2) 69 [some (vR 0), some (vI x1), some (vI x2)] [] L = rnG call 244 F 71 [some (vR 0), some (vI x1), some (vI x2)] [vI 7, vI x2] L := rfl
set_option maxRecDepth 100000 in
theorem b244_21 (call : QC FA) (x y : Int32) (ls : List (Option PV)) (L : QH FA) (F : Nat) : rnG call 244 (F + 1) 71 ls [vI y, vI x] L = bif pcmp 1 x y then rnG call 244 F 77 ls [] L else rnG call 244 F 72 ls [] L := rfl
set_option maxRecDepth 100000 in
theorem b244_22 (call : QC FA) (x1 : Int32) (x2 : Int32) (L : QH FA) (F : Nat) : rnG call 244 (F + 1) 77 [some (vR 0), some (vI x1), some (vI x2)] [] L = rnG call 244 F 78 [some (vR 0), some (vI x1), some (vI x2)] [vI ((-2))] L := rfl
set_option maxRecDepth 100000 in
theorem b244_23 (call : QC FA) (x : Int32) (ls : List (Option PV)) (L : QH FA) (F : Nat) : rnG call 244 (F + 1) 78 ls [vI x] L = some (some (vI x), L) := rfl
set_option maxRecDepth 100000 in
theorem b244_24 (call : QC FA) (x1 : Int32) (x2 : Int32) (z : Nat → Int32) (f : Nat → FA) (F : Nat) : rnG call 244 (F + 3) 72 [some (vR 0), some (vI x1), some (vI x2)] [] (LR z f) = rnG call 244 F 75 [some (vR 0), some (vI x1), some (vI x2)] [vI x1, vR 20] (LR z f) := rfl
set_option maxRecDepth 100000 in
theorem b244_25 (call : QC FA) (x : Int32) (ls : List (Option PV)) (z : Nat → Int32) (f : Nat → FA) (F : Nat) : rnG call 244 (F + 1) 75 ls [vI x, vR 20] (LR z f) = bif (Nat.beq 0 0 && pin x 40) then rnG call 244 F 76 ls [vI (f 20 (ix x))] (LR z f) else none := rfl
set_option maxRecDepth 100000 in
theorem b244_26 (call : QC FA) (x1 : Int32) (x2 : Int32) (s0 : Int32) (L : QH FA) (F : Nat) : rnG call 244 (F + 1) 76 [some (vR 0), some (vI x1), some (vI x2)] [vI s0] L = rnG call 244 F 78 [some (vR 0), some (vI x1), some (vI x2)] [vI s0] L := rfl
set_option maxRecDepth 100000 in
theorem b244_27 (call : QC FA) (x1 : Int32) (x2 : Int32) (L : QH FA) (F : Nat) : rnG call 244 (F + 2) 65 [some (vR 0), some (vI x1), some (vI x2)] [] L = rnG call 244 F 67 [some (vR 0), some (vI x1), some (vI x2)] [vI x1, vR 0] L := rfl
set_option maxRecDepth 100000 in
theorem b244_28 (call : QC FA) (a0 : Int32) (ls : List (Option PV)) (z : Nat → Int32) (f : Nat → FA) (F : Nat) : rnG call 244 (F + 1) 67 ls [vI a0, vR 0] (LR z f) = cbd (call 198 [vR 0, vI a0] (LR z f)) (fun r L' => rnG call 244 F 68 ls (r.toList ++ []) L') := pcY (ih := rnG call 244 F) (call := call) (a := 198) (b := 1) (v := 12) (t := 68) (x := 0) (ls := ls) (As := [vI a0]) (st' := []) (L := LR z f) rfl rfl rfl
set_option maxRecDepth 100000 in
theorem b244_29 (call : QC FA) (x1 : Int32) (x2 : Int32) (s0 : Int32) (L : QH FA) (F : Nat) : rnG call 244 (F + 1) 68 [some (vR 0), some (vI x1), some (vI x2)] [vI s0] L = rnG call 244 F 78 [some (vR 0), some (vI x1), some (vI x2)] [vI s0] L := rfl
set_option maxRecDepth 100000 in
theorem b244_30 (call : QC FA) (x1 : Int32) (x2 : Int32) (z : Nat → Int32) (f : Nat → FA) (F : Nat) : rnG call 244 (F + 5) 55 [some (vR 0), some (vI x1), some (vI x2)] [] (LR z f) = rnG call 244 F 60 [some (vR 0), some (vI x1), some (vI x2)] [vI (47 + x1), vR 1] (LR z f) := rfl
set_option maxRecDepth 100000 in
theorem b244_31 (call : QC FA) (x : Int32) (ls : List (Option PV)) (z : Nat → Int32) (f : Nat → FA) (F : Nat) : rnG call 244 (F + 1) 60 ls [vI x, vR 1] (LR z f) = bif (Nat.beq 0 0 && pin x 499) then rnG call 244 F 61 ls [vI (f 1 (ix x))] (LR z f) else none := rfl
set_option maxRecDepth 100000 in
theorem b244_32 (call : QC FA) (x : Int32) (ls : List (Option PV)) (L : QH FA) (F : Nat) : rnG call 244 (F + 1) 61 ls [vI x] L = some (some (vI x), L) := rfl
set_option maxRecDepth 100000 in
theorem b244_33 (call : QC FA) (x1 : Int32) (x2 : Int32) (z : Nat → Int32) (f : Nat → FA) (F : Nat) : rnG call 244 (F + 5) 45 [some (vR 0), some (vI x1), some (vI x2)] [] (LR z f) = rnG call 244 F 50 [some (vR 0), some (vI x1), some (vI x2)] [vI (27 + x1), vR 1] (LR z f) := rfl
set_option maxRecDepth 100000 in
theorem b244_34 (call : QC FA) (x : Int32) (ls : List (Option PV)) (z : Nat → Int32) (f : Nat → FA) (F : Nat) : rnG call 244 (F + 1) 50 ls [vI x, vR 1] (LR z f) = bif (Nat.beq 0 0 && pin x 499) then rnG call 244 F 51 ls [vI (f 1 (ix x))] (LR z f) else none := rfl
set_option maxRecDepth 100000 in
theorem b244_35 (call : QC FA) (x : Int32) (ls : List (Option PV)) (L : QH FA) (F : Nat) : rnG call 244 (F + 1) 51 ls [vI x] L = some (some (vI x), L) := rfl
set_option maxRecDepth 100000 in
theorem b244_36 (call : QC FA) (x1 : Int32) (x2 : Int32) (z : Nat → Int32) (f : Nat → FA) (F : Nat) : rnG call 244 (F + 3) 37 [some (vR 0), some (vI x1), some (vI x2)] [] (LR z f) = rnG call 244 F 40 [some (vR 0), some (vI x1), some (vI x2)] [vI x1, vR 6] (LR z f) := rfl
set_option maxRecDepth 100000 in
theorem b244_37 (call : QC FA) (x : Int32) (ls : List (Option PV)) (z : Nat → Int32) (f : Nat → FA) (F : Nat) : rnG call 244 (F + 1) 40 ls [vI x, vR 6] (LR z f) = bif (Nat.beq 0 0 && pin x 20) then rnG call 244 F 41 ls [vI (f 6 (ix x))] (LR z f) else none := rfl
set_option maxRecDepth 100000 in
theorem b244_38 (call : QC FA) (x : Int32) (ls : List (Option PV)) (L : QH FA) (F : Nat) : rnG call 244 (F + 1) 41 ls [vI x] L = some (some (vI x), L) := rfl
set_option maxRecDepth 100000 in
theorem b244_39 (call : QC FA) (x1 : Int32) (x2 : Int32) (z : Nat → Int32) (f : Nat → FA) (F : Nat) : rnG call 244 (F + 3) 29 [some (vR 0), some (vI x1), some (vI x2)] [] (LR z f) = rnG call 244 F 32 [some (vR 0), some (vI x1), some (vI x2)] [vI x1, vR 5] (LR z f) := rfl
set_option maxRecDepth 100000 in
theorem b244_40 (call : QC FA) (x : Int32) (ls : List (Option PV)) (z : Nat → Int32) (f : Nat → FA) (F : Nat) : rnG call 244 (F + 1) 32 ls [vI x, vR 5] (LR z f) = bif (Nat.beq 0 0 && pin x 20) then rnG call 244 F 33 ls [vI (f 5 (ix x))] (LR z f) else none := rfl
set_option maxRecDepth 100000 in
theorem b244_41 (call : QC FA) (x : Int32) (ls : List (Option PV)) (L : QH FA) (F : Nat) : rnG call 244 (F + 1) 33 ls [vI x] L = some (some (vI x), L) := rfl
set_option maxRecDepth 100000 in
theorem b244_42 (call : QC FA) (x1 : Int32) (x2 : Int32) (z : Nat → Int32) (f : Nat → FA) (F : Nat) : rnG call 244 (F + 5) 19 [some (vR 0), some (vI x1), some (vI x2)] [] (LR z f) = rnG call 244 F 24 [some (vR 0), some (vI x1), some (vI x2)] [vI (7 + x1), vR 1] (LR z f) := rfl
set_option maxRecDepth 100000 in
theorem b244_43 (call : QC FA) (x : Int32) (ls : List (Option PV)) (z : Nat → Int32) (f : Nat → FA) (F : Nat) : rnG call 244 (F + 1) 24 ls [vI x, vR 1] (LR z f) = bif (Nat.beq 0 0 && pin x 499) then rnG call 244 F 25 ls [vI (f 1 (ix x))] (LR z f) else none := rfl
set_option maxRecDepth 100000 in
theorem b244_44 (call : QC FA) (x : Int32) (ls : List (Option PV)) (L : QH FA) (F : Nat) : rnG call 244 (F + 1) 25 ls [vI x] L = some (some (vI x), L) := rfl
set_option maxRecDepth 100000 in
theorem b244_45 (call : QC FA) (x1 : Int32) (x2 : Int32) (z : Nat → Int32) (f : Nat → FA) (F : Nat) : rnG call 244 (F + 3) 11 [some (vR 0), some (vI x1), some (vI x2)] [] (LR z f) = rnG call 244 F 14 [some (vR 0), some (vI x1), some (vI x2)] [vI x1, vR 4] (LR z f) := rfl
set_option maxRecDepth 100000 in
theorem b244_46 (call : QC FA) (x : Int32) (ls : List (Option PV)) (z : Nat → Int32) (f : Nat → FA) (F : Nat) : rnG call 244 (F + 1) 14 ls [vI x, vR 4] (LR z f) = bif (Nat.beq 0 0 && pin x 20) then rnG call 244 F 15 ls [vI (f 4 (ix x))] (LR z f) else none := rfl
set_option maxRecDepth 100000 in
theorem b244_47 (call : QC FA) (x : Int32) (ls : List (Option PV)) (L : QH FA) (F : Nat) : rnG call 244 (F + 1) 15 ls [vI x] L = some (some (vI x), L) := rfl
set_option maxRecDepth 100000 in
theorem b244_48 (call : QC FA) (x1 : Int32) (x2 : Int32) (L : QH FA) (F : Nat) : rnG call 244 (F + 1) 7 [some (vR 0), some (vI x1), some (vI x2)] [] L = rnG call 244 F 8 [some (vR 0), some (vI x1), some (vI x2)] [vI ((-2))] L := rfl
set_option maxRecDepth 100000 in
theorem b244_49 (call : QC FA) (x : Int32) (ls : List (Option PV)) (L : QH FA) (F : Nat) : rnG call 244 (F + 1) 8 ls [vI x] L = some (some (vI x), L) := rfl
theorem vc244_0 (d : Nat) (x1 : Int32) (x2 : Int32) (z : Nat → Int32) (f : Nat → FA) (res : Option PV × QH FA) (H : (∃ (r1 : Int32) (z1 : Nat → Int32) (f1 : Nat → FA), (mcall (d + 5)) 227 [vR 0, vI x1] (LR (uZ z 0 0) f) = some (some (vI r1), LR z1 f1) ∧ ((¬ r1 = 0 → ((¬ x2 = 0 → ((¬ x2 = 1 → ((¬ x2 = 2 → ((¬ x2 = 3 → ((¬ x2 = 4 → ((¬ x2 = 5 → ((¬ x2 = 6 → ((¬ x2 = 7 → res = (some (vI ((-2))), LR z1 f1)) ∧ (x2 = 7 → (pin x1 40 = true ∧ res = (some (vI (f1 20 (ix x1))), LR z1 f1))))) ∧ (x2 = 6 → (∃ (r2 : Int32) (z2 : Nat → Int32) (f2 : Nat → FA), (mcall (d + 5)) 198 [vR 0, vI x1] (LR z1 f1) = some (some (vI r2), LR z2 f2) ∧ res = (some (vI r2), LR z2 f2))))) ∧ (x2 = 5 → (pin (47 + x1) 499 = true ∧ res = (some (vI (f1 1 (ix (47 + x1)))), LR z1 f1))))) ∧ (x2 = 4 → (pin (27 + x1) 499 = true ∧ res = (some (vI (f1 1 (ix (27 + x1)))), LR z1 f1))))) ∧ (x2 = 3 → (pin x1 20 = true ∧ res = (some (vI (f1 6 (ix x1))), LR z1 f1))))) ∧ (x2 = 2 → (pin x1 20 = true ∧ res = (some (vI (f1 5 (ix x1))), LR z1 f1))))) ∧ (x2 = 1 → (pin (7 + x1) 499 = true ∧ res = (some (vI (f1 1 (ix (7 + x1)))), LR z1 f1))))) ∧ (x2 = 0 → (pin x1 20 = true ∧ res = (some (vI (f1 4 (ix x1))), LR z1 f1))))) ∧ (r1 = 0 → res = (some (vI ((-2))), LR z1 f1))))) : RC (mcall (d + 5)) (mP 244) 0 [some (vR 0), some (vI x1), some (vI x2)] [] (LR z f) res := by
  refine rc_b (i' := 2) (ls' := [some (vR 0), some (vI x1), some (vI x2)]) (st' := [vI 0, vR 0]) (L' := LR z f) 2 (b244_1 (mcall (d + 5)) x1 x2 _) ?_
  refine rc_b (i' := 3) (ls' := [some (vR 0), some (vI x1), some (vI x2)]) (st' := []) (L' := LR (uZ z 0 0) f) 1 (b244_2 (mcall (d + 5)) 0 _ z f) ?_
  refine rc_b (i' := 5) (ls' := [some (vR 0), some (vI x1), some (vI x2)]) (st' := [vI x1, vR 0]) (L' := LR (uZ z 0 0) f) 2 (b244_3 (mcall (d + 5)) x1 x2 _) ?_
  obtain ⟨r1, z1, f1, hc, H⟩ := H
  refine rc_call (t := 6) (ls' := [some (vR 0), some (vI x1), some (vI x2)]) (st' := []) (b244_4 (mcall (d + 5)) x1 _ (uZ z 0 0) f) hc ?_
  show RC (mcall (d + 5)) (mP 244) 6 [some (vR 0), some (vI x1), some (vI x2)] [vI r1] (LR z1 f1) res
  refine rc_if (it := 9) (ie := 7) (ls' := [some (vR 0), some (vI x1), some (vI x2)]) (st' := []) (b244_5 (mcall (d + 5)) r1 _ _) (fun q1 => ?_) (fun q1 => ?_)
  · have H := H.1 (cI1t q1)
    refine rc_b (i' := 10) (ls' := [some (vR 0), some (vI x1), some (vI x2)]) (st' := [vI x2]) (L' := LR z1 f1) 1 (b244_6 (mcall (d + 5)) x1 x2 _) ?_
    refine rc_if (it := 16) (ie := 11) (ls' := [some (vR 0), some (vI x1), some (vI x2)]) (st' := []) (b244_7 (mcall (d + 5)) x2 _ _) (fun q2 => ?_) (fun q2 => ?_)
    · have H := H.1 (cI1t q2)
      refine rc_b (i' := 18) (ls' := [some (vR 0), some (vI x1), some (vI x2)]) (st' := [vI 1, vI x2]) (L' := LR z1 f1) 2 (b244_8 (mcall (d + 5)) x1 x2 _) ?_
      refine rc_if (it := 26) (ie := 19) (ls' := [some (vR 0), some (vI x1), some (vI x2)]) (st' := []) (b244_9 (mcall (d + 5)) x2 1 _ _) (fun q3 => ?_) (fun q3 => ?_)
      · have H := H.1 (cI1t q3)
        refine rc_b (i' := 28) (ls' := [some (vR 0), some (vI x1), some (vI x2)]) (st' := [vI 2, vI x2]) (L' := LR z1 f1) 2 (b244_10 (mcall (d + 5)) x1 x2 _) ?_
        refine rc_if (it := 34) (ie := 29) (ls' := [some (vR 0), some (vI x1), some (vI x2)]) (st' := []) (b244_11 (mcall (d + 5)) x2 2 _ _) (fun q4 => ?_) (fun q4 => ?_)
        · have H := H.1 (cI1t q4)
          refine rc_b (i' := 36) (ls' := [some (vR 0), some (vI x1), some (vI x2)]) (st' := [vI 3, vI x2]) (L' := LR z1 f1) 2 (b244_12 (mcall (d + 5)) x1 x2 _) ?_
          refine rc_if (it := 42) (ie := 37) (ls' := [some (vR 0), some (vI x1), some (vI x2)]) (st' := []) (b244_13 (mcall (d + 5)) x2 3 _ _) (fun q5 => ?_) (fun q5 => ?_)
          · have H := H.1 (cI1t q5)
            refine rc_b (i' := 44) (ls' := [some (vR 0), some (vI x1), some (vI x2)]) (st' := [vI 4, vI x2]) (L' := LR z1 f1) 2 (b244_14 (mcall (d + 5)) x1 x2 _) ?_
            refine rc_if (it := 52) (ie := 45) (ls' := [some (vR 0), some (vI x1), some (vI x2)]) (st' := []) (b244_15 (mcall (d + 5)) x2 4 _ _) (fun q6 => ?_) (fun q6 => ?_)
            · have H := H.1 (cI1t q6)
              refine rc_b (i' := 54) (ls' := [some (vR 0), some (vI x1), some (vI x2)]) (st' := [vI 5, vI x2]) (L' := LR z1 f1) 2 (b244_16 (mcall (d + 5)) x1 x2 _) ?_
              refine rc_if (it := 62) (ie := 55) (ls' := [some (vR 0), some (vI x1), some (vI x2)]) (st' := []) (b244_17 (mcall (d + 5)) x2 5 _ _) (fun q7 => ?_) (fun q7 => ?_)
              · have H := H.1 (cI1t q7)
                refine rc_b (i' := 64) (ls' := [some (vR 0), some (vI x1), some (vI x2)]) (st' := [vI 6, vI x2]) (L' := LR z1 f1) 2 (b244_18 (mcall (d + 5)) x1 x2 _) ?_
                refine rc_if (it := 69) (ie := 65) (ls' := [some (vR 0), some (vI x1), some (vI x2)]) (st' := []) (b244_19 (mcall (d + 5)) x2 6 _ _) (fun q8 => ?_) (fun q8 => ?_)
                · have H := H.1 (cI1t q8)
                  refine rc_b (i' := 71) (ls' := [some (vR 0), some (vI x1), some (vI x2)]) (st' := [vI 7, vI x2]) (L' := LR z1 f1) 2 (b244_20 (mcall (d + 5)) x1 x2 _) ?_
                  refine rc_if (it := 77) (ie := 72) (ls' := [some (vR 0), some (vI x1), some (vI x2)]) (st' := []) (b244_21 (mcall (d + 5)) x2 7 _ _) (fun q9 => ?_) (fun q9 => ?_)
                  · have H := H.1 (cI1t q9)
                    refine rc_b (i' := 78) (ls' := [some (vR 0), some (vI x1), some (vI x2)]) (st' := [vI ((-2))]) (L' := LR z1 f1) 1 (b244_22 (mcall (d + 5)) x1 x2 _) ?_
                    subst H
                    exact rc_ret (b244_23 (mcall (d + 5)) _ _ _)
                  · have H := H.2 (cI1f q9)
                    refine rc_b (i' := 75) (ls' := [some (vR 0), some (vI x1), some (vI x2)]) (st' := [vI x1, vR 20]) (L' := LR z1 f1) 3 (b244_24 (mcall (d + 5)) x1 x2 z1 f1) ?_
                    obtain ⟨g1, H⟩ := H
                    refine rc_g (i' := 76) (ls' := [some (vR 0), some (vI x1), some (vI x2)]) (st' := [vI (f1 20 (ix x1))]) (L' := LR z1 f1) (b244_25 (mcall (d + 5)) x1 _ z1 f1) (pinG g1) ?_
                    refine rc_b (i' := 78) (ls' := [some (vR 0), some (vI x1), some (vI x2)]) (st' := [vI (f1 20 (ix x1))]) (L' := LR z1 f1) 1 (b244_26 (mcall (d + 5)) x1 x2 (f1 20 (ix x1)) _) ?_
                    subst H
                    exact rc_ret (b244_23 (mcall (d + 5)) _ _ _)
                · have H := H.2 (cI1f q8)
                  refine rc_b (i' := 67) (ls' := [some (vR 0), some (vI x1), some (vI x2)]) (st' := [vI x1, vR 0]) (L' := LR z1 f1) 2 (b244_27 (mcall (d + 5)) x1 x2 _) ?_
                  obtain ⟨r2, z2, f2, hc, H⟩ := H
                  refine rc_call (t := 68) (ls' := [some (vR 0), some (vI x1), some (vI x2)]) (st' := []) (b244_28 (mcall (d + 5)) x1 _ z1 f1) hc ?_
                  show RC (mcall (d + 5)) (mP 244) 68 [some (vR 0), some (vI x1), some (vI x2)] [vI r2] (LR z2 f2) res
                  refine rc_b (i' := 78) (ls' := [some (vR 0), some (vI x1), some (vI x2)]) (st' := [vI r2]) (L' := LR z2 f2) 1 (b244_29 (mcall (d + 5)) x1 x2 r2 _) ?_
                  subst H
                  exact rc_ret (b244_23 (mcall (d + 5)) _ _ _)
              · have H := H.2 (cI1f q7)
                refine rc_b (i' := 60) (ls' := [some (vR 0), some (vI x1), some (vI x2)]) (st' := [vI (47 + x1), vR 1]) (L' := LR z1 f1) 5 (b244_30 (mcall (d + 5)) x1 x2 z1 f1) ?_
                obtain ⟨g1, H⟩ := H
                refine rc_g (i' := 61) (ls' := [some (vR 0), some (vI x1), some (vI x2)]) (st' := [vI (f1 1 (ix (47 + x1)))]) (L' := LR z1 f1) (b244_31 (mcall (d + 5)) (47 + x1) _ z1 f1) (pinG g1) ?_
                subst H
                exact rc_ret (b244_32 (mcall (d + 5)) _ _ _)
            · have H := H.2 (cI1f q6)
              refine rc_b (i' := 50) (ls' := [some (vR 0), some (vI x1), some (vI x2)]) (st' := [vI (27 + x1), vR 1]) (L' := LR z1 f1) 5 (b244_33 (mcall (d + 5)) x1 x2 z1 f1) ?_
              obtain ⟨g1, H⟩ := H
              refine rc_g (i' := 51) (ls' := [some (vR 0), some (vI x1), some (vI x2)]) (st' := [vI (f1 1 (ix (27 + x1)))]) (L' := LR z1 f1) (b244_34 (mcall (d + 5)) (27 + x1) _ z1 f1) (pinG g1) ?_
              subst H
              exact rc_ret (b244_35 (mcall (d + 5)) _ _ _)
          · have H := H.2 (cI1f q5)
            refine rc_b (i' := 40) (ls' := [some (vR 0), some (vI x1), some (vI x2)]) (st' := [vI x1, vR 6]) (L' := LR z1 f1) 3 (b244_36 (mcall (d + 5)) x1 x2 z1 f1) ?_
            obtain ⟨g1, H⟩ := H
            refine rc_g (i' := 41) (ls' := [some (vR 0), some (vI x1), some (vI x2)]) (st' := [vI (f1 6 (ix x1))]) (L' := LR z1 f1) (b244_37 (mcall (d + 5)) x1 _ z1 f1) (pinG g1) ?_
            subst H
            exact rc_ret (b244_38 (mcall (d + 5)) _ _ _)
        · have H := H.2 (cI1f q4)
          refine rc_b (i' := 32) (ls' := [some (vR 0), some (vI x1), some (vI x2)]) (st' := [vI x1, vR 5]) (L' := LR z1 f1) 3 (b244_39 (mcall (d + 5)) x1 x2 z1 f1) ?_
          obtain ⟨g1, H⟩ := H
          refine rc_g (i' := 33) (ls' := [some (vR 0), some (vI x1), some (vI x2)]) (st' := [vI (f1 5 (ix x1))]) (L' := LR z1 f1) (b244_40 (mcall (d + 5)) x1 _ z1 f1) (pinG g1) ?_
          subst H
          exact rc_ret (b244_41 (mcall (d + 5)) _ _ _)
      · have H := H.2 (cI1f q3)
        refine rc_b (i' := 24) (ls' := [some (vR 0), some (vI x1), some (vI x2)]) (st' := [vI (7 + x1), vR 1]) (L' := LR z1 f1) 5 (b244_42 (mcall (d + 5)) x1 x2 z1 f1) ?_
        obtain ⟨g1, H⟩ := H
        refine rc_g (i' := 25) (ls' := [some (vR 0), some (vI x1), some (vI x2)]) (st' := [vI (f1 1 (ix (7 + x1)))]) (L' := LR z1 f1) (b244_43 (mcall (d + 5)) (7 + x1) _ z1 f1) (pinG g1) ?_
        subst H
        exact rc_ret (b244_44 (mcall (d + 5)) _ _ _)
    · have H := H.2 (cI1f q2)
      refine rc_b (i' := 14) (ls' := [some (vR 0), some (vI x1), some (vI x2)]) (st' := [vI x1, vR 4]) (L' := LR z1 f1) 3 (b244_45 (mcall (d + 5)) x1 x2 z1 f1) ?_
      obtain ⟨g1, H⟩ := H
      refine rc_g (i' := 15) (ls' := [some (vR 0), some (vI x1), some (vI x2)]) (st' := [vI (f1 4 (ix x1))]) (L' := LR z1 f1) (b244_46 (mcall (d + 5)) x1 _ z1 f1) (pinG g1) ?_
      subst H
      exact rc_ret (b244_47 (mcall (d + 5)) _ _ _)
  · have H := H.2 (cI1f q1)
    refine rc_b (i' := 8) (ls' := [some (vR 0), some (vI x1), some (vI x2)]) (st' := [vI ((-2))]) (L' := LR z1 f1) 1 (b244_48 (mcall (d + 5)) x1 x2 _) ?_
    subst H
    exact rc_ret (b244_49 (mcall (d + 5)) _ _ _)
def twS (g : FA) (x : Int32) : Nat → Int32
  | 0 => 0
  | i + 1 => if g (5 * i + 1) = x then (if g (5 * i) = x then twS g x i ||| (1 <<< (g (5 * i + 1) &&& 31)) else twS g x i) ||| (1 <<< (g (5 * i) &&& 31)) else if g (5 * i) = x then twS g x i ||| (1 <<< (g (5 * i + 1) &&& 31)) else twS g x i
/-- the twins on both sides -/
def TWR (W : TXW) (nt : Nat) (r : FA) : Prop := nt ≤ 16 ∧ wn W 3 = nI nt ∧ wN W 3 = 5 * nt ∧ ∀ v, v < 20 → r v = twS (wg W 3) (nI v) nt
