/-! the whole law: lines, and how it comes into force -/
set_option maxRecDepth 100000 in
theorem b255_1 (call : QC FA) (o1 : Option PV) (o2 : Option PV) (L : QH FA) (F : Nat) : rnG call 255 (F + 2) 0 [some (vR 0), o1, o2] [] L = rnG call 255 F 2 [some (vR 0), some (vI 0), o2] [] L := rfl
theorem vc255_0 (d : Nat) (o1 : Option PV) (o2 : Option PV) (z : Nat → Int32) (f : Nat → FA) (res : Option PV × QH FA) (H : RC (mcall (d + 8)) (mP 255) 2 [some (vR 0), some (vI 0), o2] [] (LR z f) res) : RC (mcall (d + 8)) (mP 255) 0 [some (vR 0), o1, o2] [] (LR z f) res := by
  refine rc_b (i' := 2) (ls' := [some (vR 0), some (vI 0), o2]) (st' := []) (L' := LR z f) 2 (b255_1 (mcall (d + 8)) o1 o2 _) ?_
  exact H
set_option maxRecDepth 100000 in
theorem bc2_255_1 (call : QC FA) (x1 : Int32) (o2 : Option PV) (L : QH FA) (F : Nat) : rnG call 255 (F + 1) 2 [some (vR 0), some (vI x1), o2] [] L = rnG call 255 F 3 [some (vR 0), some (vI x1), o2] [vR 0] L := rfl
set_option maxRecDepth 100000 in
theorem bc2_255_2 (call : QC FA) (ls : List (Option PV)) (z : Nat → Int32) (f : Nat → FA) (F : Nat) : rnG call 255 (F + 1) 3 ls [vR 0] (LR z f) = cbd (call 224 [vR 0] (LR z f)) (fun r L' => rnG call 255 F 4 ls (r.toList ++ []) L') := pcY (ih := rnG call 255 F) (call := call) (a := 224) (b := 0) (v := 12) (t := 4) (x := 0) (ls := ls) (As := []) (st' := []) (L := LR z f) rfl rfl rfl
set_option maxRecDepth 100000 in
theorem bc2_255_3 (call : QC FA) (x : Int32) (ls : List (Option PV)) (L : QH FA) (F : Nat) : rnG call 255 (F + 1) 4 ls [vI x] L = bif pcmp 0 x 0 then rnG call 255 F 75 ls [] L else rnG call 255 F 5 ls [] L := rfl
set_option maxRecDepth 100000 in
theorem bc2_255_4 (call : QC FA) (x1 : Int32) (o2 : Option PV) (z : Nat → Int32) (f : Nat → FA) (F : Nat) : rnG call 255 (F + 2) 75 [some (vR 0), some (vI x1), o2] [] (LR z f) = rnG call 255 F 77 [some (vR 0), some (vI x1), o2] [vI (z 15)] (LR z f) := rfl
set_option maxRecDepth 100000 in
theorem bc2_255_5 (call : QC FA) (x : Int32) (ls : List (Option PV)) (L : QH FA) (F : Nat) : rnG call 255 (F + 1) 77 ls [vI x] L = bif pcmp 1 x 0 then rnG call 255 F 80 ls [] L else rnG call 255 F 78 ls [] L := rfl
set_option maxRecDepth 100000 in
theorem bc2_255_6 (call : QC FA) (x1 : Int32) (o2 : Option PV) (L : QH FA) (F : Nat) : rnG call 255 (F + 2) 80 [some (vR 0), some (vI x1), o2] [] L = rnG call 255 F 82 [some (vR 0), some (vI x1), o2] [vI 1, vR 0] L := rfl
set_option maxRecDepth 100000 in
theorem bc2_255_7 (call : QC FA) (a0 : Int32) (ls : List (Option PV)) (z : Nat → Int32) (f : Nat → FA) (F : Nat) : rnG call 255 (F + 1) 82 ls [vI a0, vR 0] (LR z f) = cbd (call 208 [vR 0, vI a0] (LR z f)) (fun r L' => rnG call 255 F 83 ls (r.toList ++ []) L') := pcY (ih := rnG call 255 F) (call := call) (a := 208) (b := 1) (v := 12) (t := 83) (x := 0) (ls := ls) (As := [vI a0]) (st' := []) (L := LR z f) rfl rfl rfl
set_option maxRecDepth 100000 in
theorem bc2_255_8 (call : QC FA) (x : Int32) (ls : List (Option PV)) (L : QH FA) (F : Nat) : rnG call 255 (F + 1) 83 ls [vI x] L = some (some (vI x), L) := rfl
set_option maxRecDepth 100000 in
theorem bc2_255_9 (call : QC FA) (x1 : Int32) (o2 : Option PV) (L : QH FA) (F : Nat) : rnG call 255 (F + 2) 78 [some (vR 0), some (vI x1), o2] [] L = rnG call 255 F 83 [some (vR 0), some (vI x1), o2] [vI x1] L := rfl
set_option maxRecDepth 100000 in
theorem bc2_255_10 (call : QC FA) (x1 : Int32) (o2 : Option PV) (L : QH FA) (F : Nat) : rnG call 255 (F + 2) 5 [some (vR 0), some (vI x1), o2] [] L = rnG call 255 F 7 [some (vR 0), some (vI x1), o2] [vI 16, vI x1] L := rfl
set_option maxRecDepth 100000 in
theorem bc2_255_11 (call : QC FA) (x y : Int32) (ls : List (Option PV)) (L : QH FA) (F : Nat) : rnG call 255 (F + 1) 7 ls [vI y, vI x] L = bif pcmp 1 x y then rnG call 255 F 12 ls [] L else rnG call 255 F 8 ls [] L := rfl
set_option maxRecDepth 100000 in
theorem bc2_255_12 (call : QC FA) (x1 : Int32) (o2 : Option PV) (z : Nat → Int32) (f : Nat → FA) (F : Nat) : rnG call 255 (F + 9) 12 [some (vR 0), some (vI x1), o2] [] (LR z f) = rnG call 255 F 21 [some (vR 0), some (vI x1), some (vI (32 + x1))] [vI (z 16), vI (32 + x1), vR 11] (LR z f) := rfl
set_option maxRecDepth 100000 in
theorem bc2_255_13 (call : QC FA) (x y : Int32) (ls : List (Option PV)) (z : Nat → Int32) (f : Nat → FA) (F : Nat) : rnG call 255 (F + 1) 21 ls [vI y, vI x, vR 11] (LR z f) = bif (Nat.beq 0 0 && pin x 48) then rnG call 255 F 22 ls [] (LR z (uA f 11 (upd (f 11) (ix x) y))) else none := rfl
set_option maxRecDepth 100000 in
theorem bc2_255_14 (call : QC FA) (x1 : Int32) (x2 : Int32) (L : QH FA) (F : Nat) : rnG call 255 (F + 1) 22 [some (vR 0), some (vI x1), some (vI x2)] [] L = rnG call 255 F 23 [some (vR 0), some (vI x1), some (vI x2)] [vR 0] L := rfl
set_option maxRecDepth 100000 in
theorem bc2_255_15 (call : QC FA) (ls : List (Option PV)) (z : Nat → Int32) (f : Nat → FA) (F : Nat) : rnG call 255 (F + 1) 23 ls [vR 0] (LR z f) = cbd (call 269 [vR 0] (LR z f)) (fun r L' => rnG call 255 F 24 ls (r.toList ++ []) L') := pcY (ih := rnG call 255 F) (call := call) (a := 269) (b := 0) (v := 12) (t := 24) (x := 0) (ls := ls) (As := []) (st' := []) (L := LR z f) rfl rfl rfl
set_option maxRecDepth 100000 in
theorem bc2_255_16 (call : QC FA) (x1 : Int32) (x2 : Int32) (z : Nat → Int32) (f : Nat → FA) (F : Nat) : rnG call 255 (F + 5) 24 [some (vR 0), some (vI x1), some (vI x2)] [] (LR z f) = rnG call 255 F 29 [some (vR 0), some (vI x1), some (vI x2)] [vI (z 26), vI x2, vR 12] (LR z f) := rfl
set_option maxRecDepth 100000 in
theorem bc2_255_17 (call : QC FA) (x y : Int32) (ls : List (Option PV)) (z : Nat → Int32) (f : Nat → FA) (F : Nat) : rnG call 255 (F + 1) 29 ls [vI y, vI x, vR 12] (LR z f) = bif (Nat.beq 0 0 && pin x 48) then rnG call 255 F 30 ls [] (LR z (uA f 12 (upd (f 12) (ix x) y))) else none := rfl
set_option maxRecDepth 100000 in
theorem bc2_255_18 (call : QC FA) (x1 : Int32) (x2 : Int32) (L : QH FA) (F : Nat) : rnG call 255 (F + 1) 30 [some (vR 0), some (vI x1), some (vI x2)] [] L = rnG call 255 F 31 [some (vR 0), some (vI x1), some (vI x2)] [vR 0] L := rfl
set_option maxRecDepth 100000 in
theorem bc2_255_19 (call : QC FA) (ls : List (Option PV)) (z : Nat → Int32) (f : Nat → FA) (F : Nat) : rnG call 255 (F + 1) 31 ls [vR 0] (LR z f) = cbd (call 262 [vR 0] (LR z f)) (fun r L' => rnG call 255 F 32 ls (r.toList ++ []) L') := pcY (ih := rnG call 255 F) (call := call) (a := 262) (b := 0) (v := 12) (t := 32) (x := 0) (ls := ls) (As := []) (st' := []) (L := LR z f) rfl rfl rfl
set_option maxRecDepth 100000 in
theorem bc2_255_20 (call : QC FA) (x1 : Int32) (x2 : Int32) (s0 : Int32) (L : QH FA) (F : Nat) : rnG call 255 (F + 1) 32 [some (vR 0), some (vI x1), some (vI x2)] [vI s0] L = rnG call 255 F 33 [some (vR 0), some (vI x1), some (vI x2)] [vI ((-1)), vI s0] L := rfl
set_option maxRecDepth 100000 in
theorem bc2_255_21 (call : QC FA) (x y : Int32) (ls : List (Option PV)) (L : QH FA) (F : Nat) : rnG call 255 (F + 1) 33 ls [vI y, vI x] L = bif pcmp 1 x y then rnG call 255 F 36 ls [] L else rnG call 255 F 34 ls [] L := rfl
set_option maxRecDepth 100000 in
theorem bc2_255_22 (call : QC FA) (x1 : Int32) (x2 : Int32) (z : Nat → Int32) (f : Nat → FA) (F : Nat) : rnG call 255 (F + 5) 36 [some (vR 0), some (vI x1), some (vI x2)] [] (LR z f) = rnG call 255 F 41 [some (vR 0), some (vI x1), some (vI x2)] [vI (z 26), vI x2, vR 13] (LR z f) := rfl
set_option maxRecDepth 100000 in
theorem bc2_255_23 (call : QC FA) (x y : Int32) (ls : List (Option PV)) (z : Nat → Int32) (f : Nat → FA) (F : Nat) : rnG call 255 (F + 1) 41 ls [vI y, vI x, vR 13] (LR z f) = bif (Nat.beq 0 0 && pin x 48) then rnG call 255 F 42 ls [] (LR z (uA f 13 (upd (f 13) (ix x) y))) else none := rfl
set_option maxRecDepth 100000 in
theorem bc2_255_24 (call : QC FA) (x1 : Int32) (x2 : Int32) (L : QH FA) (F : Nat) : rnG call 255 (F + 2) 42 [some (vR 0), some (vI x1), some (vI x2)] [] L = rnG call 255 F 44 [some (vR 0), some (vI x1), some (vI x2)] [vI 3, vR 0] L := rfl
set_option maxRecDepth 100000 in
theorem bc2_255_25 (call : QC FA) (a0 : Int32) (ls : List (Option PV)) (z : Nat → Int32) (f : Nat → FA) (F : Nat) : rnG call 255 (F + 1) 44 ls [vI a0, vR 0] (LR z f) = cbd (call 228 [vR 0, vI a0] (LR z f)) (fun r L' => rnG call 255 F 45 ls (r.toList ++ []) L') := pcY (ih := rnG call 255 F) (call := call) (a := 228) (b := 1) (v := 12) (t := 45) (x := 0) (ls := ls) (As := [vI a0]) (st' := []) (L := LR z f) rfl rfl rfl
set_option maxRecDepth 100000 in
theorem bc2_255_26 (call : QC FA) (x : Int32) (ls : List (Option PV)) (L : QH FA) (F : Nat) : rnG call 255 (F + 1) 45 ls [vI x] L = bif pcmp 0 x 0 then rnG call 255 F 54 ls [] L else rnG call 255 F 46 ls [] L := rfl
set_option maxRecDepth 100000 in
theorem bc2_255_27 (call : QC FA) (x1 : Int32) (x2 : Int32) (L : QH FA) (F : Nat) : rnG call 255 (F + 1) 46 [some (vR 0), some (vI x1), some (vI x2)] [] L = rnG call 255 F 47 [some (vR 0), some (vI x1), some (vI x2)] [vR 0] L := rfl
set_option maxRecDepth 100000 in
theorem bc2_255_28 (call : QC FA) (ls : List (Option PV)) (z : Nat → Int32) (f : Nat → FA) (F : Nat) : rnG call 255 (F + 1) 47 ls [vR 0] (LR z f) = cbd (call 269 [vR 0] (LR z f)) (fun r L' => rnG call 255 F 48 ls (r.toList ++ []) L') := pcY (ih := rnG call 255 F) (call := call) (a := 269) (b := 0) (v := 12) (t := 48) (x := 0) (ls := ls) (As := []) (st' := []) (L := LR z f) rfl rfl rfl
set_option maxRecDepth 100000 in
theorem bc2_255_29 (call : QC FA) (x1 : Int32) (x2 : Int32) (L : QH FA) (F : Nat) : rnG call 255 (F + 1) 48 [some (vR 0), some (vI x1), some (vI x2)] [] L = rnG call 255 F 49 [some (vR 0), some (vI x1), some (vI x2)] [vR 0] L := rfl
set_option maxRecDepth 100000 in
theorem bc2_255_30 (call : QC FA) (ls : List (Option PV)) (z : Nat → Int32) (f : Nat → FA) (F : Nat) : rnG call 255 (F + 1) 49 ls [vR 0] (LR z f) = cbd (call 251 [vR 0] (LR z f)) (fun r L' => rnG call 255 F 50 ls (r.toList ++ []) L') := pcY (ih := rnG call 255 F) (call := call) (a := 251) (b := 0) (v := 12) (t := 50) (x := 0) (ls := ls) (As := []) (st' := []) (L := LR z f) rfl rfl rfl
set_option maxRecDepth 100000 in
theorem bc2_255_31 (call : QC FA) (x1 : Int32) (x2 : Int32) (s0 : Int32) (L : QH FA) (F : Nat) : rnG call 255 (F + 1) 50 [some (vR 0), some (vI x1), some (vI x2)] [vI s0] L = rnG call 255 F 51 [some (vR 0), some (vI x1), some (vI x2)] [vI ((-1)), vI s0] L := rfl
set_option maxRecDepth 100000 in
theorem bc2_255_32 (call : QC FA) (x y : Int32) (ls : List (Option PV)) (L : QH FA) (F : Nat) : rnG call 255 (F + 1) 51 ls [vI y, vI x] L = bif pcmp 1 x y then rnG call 255 F 54 ls [] L else rnG call 255 F 52 ls [] L := rfl
set_option maxRecDepth 100000 in
theorem bc2_255_33 (call : QC FA) (x1 : Int32) (x2 : Int32) (L : QH FA) (F : Nat) : rnG call 255 (F + 1) 52 [some (vR 0), some (vI x1), some (vI x2)] [] L = rnG call 255 F 53 [some (vR 0), some (vI x1), some (vI x2)] [vI ((-1))] L := rfl
set_option maxRecDepth 100000 in
theorem bc2_255_34 (call : QC FA) (x : Int32) (ls : List (Option PV)) (L : QH FA) (F : Nat) : rnG call 255 (F + 1) 53 ls [vI x] L = some (some (vI x), L) := rfl
set_option maxRecDepth 100000 in
theorem bc2_255_35 (call : QC FA) (x1 : Int32) (x2 : Int32) (L : QH FA) (F : Nat) : rnG call 255 (F + 1) 34 [some (vR 0), some (vI x1), some (vI x2)] [] L = rnG call 255 F 35 [some (vR 0), some (vI x1), some (vI x2)] [vI ((-1))] L := rfl
set_option maxRecDepth 100000 in
theorem bc2_255_36 (call : QC FA) (x : Int32) (ls : List (Option PV)) (L : QH FA) (F : Nat) : rnG call 255 (F + 1) 35 ls [vI x] L = some (some (vI x), L) := rfl
set_option maxRecDepth 100000 in
theorem bc2_255_37 (call : QC FA) (x1 : Int32) (o2 : Option PV) (L : QH FA) (F : Nat) : rnG call 255 (F + 2) 8 [some (vR 0), some (vI x1), o2] [] L = rnG call 255 F 10 [some (vR 0), some (vI x1), o2] [vI 3, vR 0] L := rfl
set_option maxRecDepth 100000 in
theorem bc2_255_38 (call : QC FA) (a0 : Int32) (ls : List (Option PV)) (z : Nat → Int32) (f : Nat → FA) (F : Nat) : rnG call 255 (F + 1) 10 ls [vI a0, vR 0] (LR z f) = cbd (call 208 [vR 0, vI a0] (LR z f)) (fun r L' => rnG call 255 F 11 ls (r.toList ++ []) L') := pcY (ih := rnG call 255 F) (call := call) (a := 208) (b := 1) (v := 12) (t := 11) (x := 0) (ls := ls) (As := [vI a0]) (st' := []) (L := LR z f) rfl rfl rfl
set_option maxRecDepth 100000 in
theorem bc2_255_39 (call : QC FA) (x : Int32) (ls : List (Option PV)) (L : QH FA) (F : Nat) : rnG call 255 (F + 1) 11 ls [vI x] L = some (some (vI x), L) := rfl
theorem vcc2_255_2 (d : Nat) (x1 : Int32) (o2 : Option PV) (z : Nat → Int32) (f : Nat → FA) (res : Option PV × QH FA) (H : (((z 15 = 2 ∧ (0 ≤ I (z 16) ∧ I (z 16) ≤ 2)) → ((¬ x1 = 16 → (pin (32 + x1) 48 = true ∧ (∃ (z2 : Nat → Int32) (f2 : Nat → FA), (mcall (d + 8)) 269 [vR 0] (LR z (uA f 11 (upd (f 11) (ix (32 + x1)) (z 16)))) = some (none, LR z2 f2) ∧ (pin (32 + x1) 48 = true ∧ (∃ (r3 : Int32) (z3 : Nat → Int32) (f3 : Nat → FA), (mcall (d + 8)) 262 [vR 0] (LR z2 (uA f2 12 (upd (f2 12) (ix (32 + x1)) (z2 26)))) = some (some (vI r3), LR z3 f3) ∧ ((¬ r3 = (-1) → (pin (32 + x1) 48 = true ∧ (((z3 15 = 2 ∧ z3 16 = 3) → (∃ (z4 : Nat → Int32) (f4 : Nat → FA), (mcall (d + 8)) 269 [vR 0] (LR z3 (uA f3 13 (upd (f3 13) (ix (32 + x1)) (z3 26)))) = some (none, LR z4 f4) ∧ (∃ (r5 : Int32) (z5 : Nat → Int32) (f5 : Nat → FA), (mcall (d + 8)) 251 [vR 0] (LR z4 f4) = some (some (vI r5), LR z5 f5) ∧ ((¬ r5 = (-1) → RC (mcall (d + 8)) (mP 255) 54 [some (vR 0), some (vI x1), some (vI (32 + x1))] [] (LR z5 f5) res) ∧ (r5 = (-1) → res = (some (vI ((-1))), LR z5 f5)))))) ∧ ((¬ (z3 15 = 2 ∧ z3 16 = 3)) → RC (mcall (d + 8)) (mP 255) 54 [some (vR 0), some (vI x1), some (vI (32 + x1))] [] (LR z3 (uA f3 13 (upd (f3 13) (ix (32 + x1)) (z3 26)))) res)))) ∧ (r3 = (-1) → res = (some (vI ((-1))), LR z3 f3)))))))) ∧ (x1 = 16 → (∃ (r6 : Int32) (z6 : Nat → Int32) (f6 : Nat → FA), (mcall (d + 8)) 208 [vR 0, vI 3] (LR z f) = some (some (vI r6), LR z6 f6) ∧ res = (some (vI r6), LR z6 f6))))) ∧ ((¬ (z 15 = 2 ∧ (0 ≤ I (z 16) ∧ I (z 16) ≤ 2))) → ((¬ z 15 = 0 → (∃ (r1 : Int32) (z1 : Nat → Int32) (f1 : Nat → FA), (mcall (d + 8)) 208 [vR 0, vI 1] (LR z f) = some (some (vI r1), LR z1 f1) ∧ res = (some (vI r1), LR z1 f1))) ∧ (z 15 = 0 → res = (some (vI x1), LR z f)))))) : RC (mcall (d + 8)) (mP 255) 2 [some (vR 0), some (vI x1), o2] [] (LR z f) res := by
  refine rc_b (i' := 3) (ls' := [some (vR 0), some (vI x1), o2]) (st' := [vR 0]) (L' := LR z f) 1 (bc2_255_1 (mcall (d + 8)) x1 o2 _) ?_
  refine rc_call (t := 4) (ls' := [some (vR 0), some (vI x1), o2]) (st' := []) (bc2_255_2 (mcall (d + 8)) _ z f) (isLineWord_r _ z f) ?_
  show RC (mcall (d + 8)) (mP 255) 4 [some (vR 0), some (vI x1), o2] [vI (bI (z 15 = 2 ∧ (0 ≤ I (z 16) ∧ I (z 16) ≤ 2)))] (LR z f) res
  refine rc_bz (it := 75) (ie := 5) (ls' := [some (vR 0), some (vI x1), o2]) (st' := []) (bc2_255_3 (mcall (d + 8)) (bI (z 15 = 2 ∧ (0 ≤ I (z 16) ∧ I (z 16) ≤ 2))) _ _) (fun q1 => ?_) (fun q1 => ?_)
  · have H := H.2 q1
    refine rc_b (i' := 77) (ls' := [some (vR 0), some (vI x1), o2]) (st' := [vI (z 15)]) (L' := LR z f) 2 (bc2_255_4 (mcall (d + 8)) x1 o2 z f) ?_
    refine rc_if (it := 80) (ie := 78) (ls' := [some (vR 0), some (vI x1), o2]) (st' := []) (bc2_255_5 (mcall (d + 8)) (z 15) _ _) (fun q2 => ?_) (fun q2 => ?_)
    · have H := H.1 (cI1t q2)
      refine rc_b (i' := 82) (ls' := [some (vR 0), some (vI x1), o2]) (st' := [vI 1, vR 0]) (L' := LR z f) 2 (bc2_255_6 (mcall (d + 8)) x1 o2 _) ?_
      obtain ⟨r1, z1, f1, hc, H⟩ := H
      refine rc_call (t := 83) (ls' := [some (vR 0), some (vI x1), o2]) (st' := []) (bc2_255_7 (mcall (d + 8)) 1 _ z f) hc ?_
      show RC (mcall (d + 8)) (mP 255) 83 [some (vR 0), some (vI x1), o2] [vI r1] (LR z1 f1) res
      subst H
      exact rc_ret (bc2_255_8 (mcall (d + 8)) _ _ _)
    · have H := H.2 (cI1f q2)
      refine rc_b (i' := 83) (ls' := [some (vR 0), some (vI x1), o2]) (st' := [vI x1]) (L' := LR z f) 2 (bc2_255_9 (mcall (d + 8)) x1 o2 _) ?_
      subst H
      exact rc_ret (bc2_255_8 (mcall (d + 8)) _ _ _)
  · have H := H.1 q1
    refine rc_b (i' := 7) (ls' := [some (vR 0), some (vI x1), o2]) (st' := [vI 16, vI x1]) (L' := LR z f) 2 (bc2_255_10 (mcall (d + 8)) x1 o2 _) ?_
    refine rc_if (it := 12) (ie := 8) (ls' := [some (vR 0), some (vI x1), o2]) (st' := []) (bc2_255_11 (mcall (d + 8)) x1 16 _ _) (fun q3 => ?_) (fun q3 => ?_)
    · have H := H.1 (cI1t q3)
      refine rc_b (i' := 21) (ls' := [some (vR 0), some (vI x1), some (vI (32 + x1))]) (st' := [vI (z 16), vI (32 + x1), vR 11]) (L' := LR z f) 9 (bc2_255_12 (mcall (d + 8)) x1 o2 z f) ?_
      obtain ⟨g1, H⟩ := H
      refine rc_g (i' := 22) (ls' := [some (vR 0), some (vI x1), some (vI (32 + x1))]) (st' := []) (L' := LR z (uA f 11 (upd (f 11) (ix (32 + x1)) (z 16)))) (bc2_255_13 (mcall (d + 8)) (32 + x1) (z 16) _ z f) (pinG g1) ?_
      refine rc_b (i' := 23) (ls' := [some (vR 0), some (vI x1), some (vI (32 + x1))]) (st' := [vR 0]) (L' := LR z (uA f 11 (upd (f 11) (ix (32 + x1)) (z 16)))) 1 (bc2_255_14 (mcall (d + 8)) x1 (32 + x1) _) ?_
      obtain ⟨z2, f2, hc, H⟩ := H
      refine rc_call (t := 24) (ls' := [some (vR 0), some (vI x1), some (vI (32 + x1))]) (st' := []) (bc2_255_15 (mcall (d + 8)) _ z (uA f 11 (upd (f 11) (ix (32 + x1)) (z 16)))) hc ?_
      show RC (mcall (d + 8)) (mP 255) 24 [some (vR 0), some (vI x1), some (vI (32 + x1))] [] (LR z2 f2) res
      refine rc_b (i' := 29) (ls' := [some (vR 0), some (vI x1), some (vI (32 + x1))]) (st' := [vI (z2 26), vI (32 + x1), vR 12]) (L' := LR z2 f2) 5 (bc2_255_16 (mcall (d + 8)) x1 (32 + x1) z2 f2) ?_
      obtain ⟨g1, H⟩ := H
      refine rc_g (i' := 30) (ls' := [some (vR 0), some (vI x1), some (vI (32 + x1))]) (st' := []) (L' := LR z2 (uA f2 12 (upd (f2 12) (ix (32 + x1)) (z2 26)))) (bc2_255_17 (mcall (d + 8)) (32 + x1) (z2 26) _ z2 f2) (pinG g1) ?_
      refine rc_b (i' := 31) (ls' := [some (vR 0), some (vI x1), some (vI (32 + x1))]) (st' := [vR 0]) (L' := LR z2 (uA f2 12 (upd (f2 12) (ix (32 + x1)) (z2 26)))) 1 (bc2_255_18 (mcall (d + 8)) x1 (32 + x1) _) ?_
      obtain ⟨r3, z3, f3, hc, H⟩ := H
      refine rc_call (t := 32) (ls' := [some (vR 0), some (vI x1), some (vI (32 + x1))]) (st' := []) (bc2_255_19 (mcall (d + 8)) _ z2 (uA f2 12 (upd (f2 12) (ix (32 + x1)) (z2 26)))) hc ?_
      show RC (mcall (d + 8)) (mP 255) 32 [some (vR 0), some (vI x1), some (vI (32 + x1))] [vI r3] (LR z3 f3) res
      refine rc_b (i' := 33) (ls' := [some (vR 0), some (vI x1), some (vI (32 + x1))]) (st' := [vI ((-1)), vI r3]) (L' := LR z3 f3) 1 (bc2_255_20 (mcall (d + 8)) x1 (32 + x1) r3 _) ?_
      refine rc_if (it := 36) (ie := 34) (ls' := [some (vR 0), some (vI x1), some (vI (32 + x1))]) (st' := []) (bc2_255_21 (mcall (d + 8)) r3 ((-1)) _ _) (fun q4 => ?_) (fun q4 => ?_)
      · have H := H.1 (cI1t q4)
        refine rc_b (i' := 41) (ls' := [some (vR 0), some (vI x1), some (vI (32 + x1))]) (st' := [vI (z3 26), vI (32 + x1), vR 13]) (L' := LR z3 f3) 5 (bc2_255_22 (mcall (d + 8)) x1 (32 + x1) z3 f3) ?_
        obtain ⟨g1, H⟩ := H
        refine rc_g (i' := 42) (ls' := [some (vR 0), some (vI x1), some (vI (32 + x1))]) (st' := []) (L' := LR z3 (uA f3 13 (upd (f3 13) (ix (32 + x1)) (z3 26)))) (bc2_255_23 (mcall (d + 8)) (32 + x1) (z3 26) _ z3 f3) (pinG g1) ?_
        refine rc_b (i' := 44) (ls' := [some (vR 0), some (vI x1), some (vI (32 + x1))]) (st' := [vI 3, vR 0]) (L' := LR z3 (uA f3 13 (upd (f3 13) (ix (32 + x1)) (z3 26)))) 2 (bc2_255_24 (mcall (d + 8)) x1 (32 + x1) _) ?_
        refine rc_call (t := 45) (ls' := [some (vR 0), some (vI x1), some (vI (32 + x1))]) (st' := []) (bc2_255_25 (mcall (d + 8)) 3 _ z3 (uA f3 13 (upd (f3 13) (ix (32 + x1)) (z3 26)))) (isWord_r _ 3 z3 (uA f3 13 (upd (f3 13) (ix (32 + x1)) (z3 26)))) ?_
        show RC (mcall (d + 8)) (mP 255) 45 [some (vR 0), some (vI x1), some (vI (32 + x1))] [vI (bI (z3 15 = 2 ∧ z3 16 = 3))] (LR z3 (uA f3 13 (upd (f3 13) (ix (32 + x1)) (z3 26)))) res
        refine rc_bz (it := 54) (ie := 46) (ls' := [some (vR 0), some (vI x1), some (vI (32 + x1))]) (st' := []) (bc2_255_26 (mcall (d + 8)) (bI (z3 15 = 2 ∧ z3 16 = 3)) _ _) (fun q5 => ?_) (fun q5 => ?_)
        · have H := H.2 q5
          exact H
        · have H := H.1 q5
          refine rc_b (i' := 47) (ls' := [some (vR 0), some (vI x1), some (vI (32 + x1))]) (st' := [vR 0]) (L' := LR z3 (uA f3 13 (upd (f3 13) (ix (32 + x1)) (z3 26)))) 1 (bc2_255_27 (mcall (d + 8)) x1 (32 + x1) _) ?_
          obtain ⟨z4, f4, hc, H⟩ := H
          refine rc_call (t := 48) (ls' := [some (vR 0), some (vI x1), some (vI (32 + x1))]) (st' := []) (bc2_255_28 (mcall (d + 8)) _ z3 (uA f3 13 (upd (f3 13) (ix (32 + x1)) (z3 26)))) hc ?_
          show RC (mcall (d + 8)) (mP 255) 48 [some (vR 0), some (vI x1), some (vI (32 + x1))] [] (LR z4 f4) res
          refine rc_b (i' := 49) (ls' := [some (vR 0), some (vI x1), some (vI (32 + x1))]) (st' := [vR 0]) (L' := LR z4 f4) 1 (bc2_255_29 (mcall (d + 8)) x1 (32 + x1) _) ?_
          obtain ⟨r5, z5, f5, hc, H⟩ := H
          refine rc_call (t := 50) (ls' := [some (vR 0), some (vI x1), some (vI (32 + x1))]) (st' := []) (bc2_255_30 (mcall (d + 8)) _ z4 f4) hc ?_
          show RC (mcall (d + 8)) (mP 255) 50 [some (vR 0), some (vI x1), some (vI (32 + x1))] [vI r5] (LR z5 f5) res
          refine rc_b (i' := 51) (ls' := [some (vR 0), some (vI x1), some (vI (32 + x1))]) (st' := [vI ((-1)), vI r5]) (L' := LR z5 f5) 1 (bc2_255_31 (mcall (d + 8)) x1 (32 + x1) r5 _) ?_
          refine rc_if (it := 54) (ie := 52) (ls' := [some (vR 0), some (vI x1), some (vI (32 + x1))]) (st' := []) (bc2_255_32 (mcall (d + 8)) r5 ((-1)) _ _) (fun q6 => ?_) (fun q6 => ?_)
          · have H := H.1 (cI1t q6)
            exact H
          · have H := H.2 (cI1f q6)
            refine rc_b (i' := 53) (ls' := [some (vR 0), some (vI x1), some (vI (32 + x1))]) (st' := [vI ((-1))]) (L' := LR z5 f5) 1 (bc2_255_33 (mcall (d + 8)) x1 (32 + x1) _) ?_
            subst H
            exact rc_ret (bc2_255_34 (mcall (d + 8)) _ _ _)
      · have H := H.2 (cI1f q4)
        refine rc_b (i' := 35) (ls' := [some (vR 0), some (vI x1), some (vI (32 + x1))]) (st' := [vI ((-1))]) (L' := LR z3 f3) 1 (bc2_255_35 (mcall (d + 8)) x1 (32 + x1) _) ?_
        subst H
        exact rc_ret (bc2_255_36 (mcall (d + 8)) _ _ _)
    · have H := H.2 (cI1f q3)
      refine rc_b (i' := 10) (ls' := [some (vR 0), some (vI x1), o2]) (st' := [vI 3, vR 0]) (L' := LR z f) 2 (bc2_255_37 (mcall (d + 8)) x1 o2 _) ?_
      obtain ⟨r6, z6, f6, hc, H⟩ := H
      refine rc_call (t := 11) (ls' := [some (vR 0), some (vI x1), o2]) (st' := []) (bc2_255_38 (mcall (d + 8)) 3 _ z f) hc ?_
      show RC (mcall (d + 8)) (mP 255) 11 [some (vR 0), some (vI x1), o2] [vI r6] (LR z6 f6) res
      subst H
      exact rc_ret (bc2_255_39 (mcall (d + 8)) _ _ _)
set_option maxRecDepth 100000 in
theorem bc54_255_1 (call : QC FA) (x1 : Int32) (x2 : Int32) (z : Nat → Int32) (f : Nat → FA) (F : Nat) : rnG call 255 (F + 5) 54 [some (vR 0), some (vI x1), some (vI x2)] [] (LR z f) = rnG call 255 F 59 [some (vR 0), some (vI x1), some (vI x2)] [vI (z 26), vI x2, vR 14] (LR z f) := rfl
set_option maxRecDepth 100000 in
theorem bc54_255_2 (call : QC FA) (x y : Int32) (ls : List (Option PV)) (z : Nat → Int32) (f : Nat → FA) (F : Nat) : rnG call 255 (F + 1) 59 ls [vI y, vI x, vR 14] (LR z f) = bif (Nat.beq 0 0 && pin x 48) then rnG call 255 F 60 ls [] (LR z (uA f 14 (upd (f 14) (ix x) y))) else none := rfl
set_option maxRecDepth 100000 in
theorem bc54_255_3 (call : QC FA) (x1 : Int32) (x2 : Int32) (L : QH FA) (F : Nat) : rnG call 255 (F + 2) 60 [some (vR 0), some (vI x1), some (vI x2)] [] L = rnG call 255 F 62 [some (vR 0), some (vI x1), some (vI x2)] [vI 59, vR 0] L := rfl
set_option maxRecDepth 100000 in
theorem bc54_255_4 (call : QC FA) (a0 : Int32) (ls : List (Option PV)) (z : Nat → Int32) (f : Nat → FA) (F : Nat) : rnG call 255 (F + 1) 62 ls [vI a0, vR 0] (LR z f) = cbd (call 226 [vR 0, vI a0] (LR z f)) (fun r L' => rnG call 255 F 63 ls (r.toList ++ []) L') := pcY (ih := rnG call 255 F) (call := call) (a := 226) (b := 1) (v := 12) (t := 63) (x := 0) (ls := ls) (As := [vI a0]) (st' := []) (L := LR z f) rfl rfl rfl
set_option maxRecDepth 100000 in
theorem bc54_255_5 (call : QC FA) (x : Int32) (ls : List (Option PV)) (L : QH FA) (F : Nat) : rnG call 255 (F + 1) 63 ls [vI x] L = bif pcmp 1 x 0 then rnG call 255 F 68 ls [] L else rnG call 255 F 64 ls [] L := rfl
set_option maxRecDepth 100000 in
theorem bc54_255_6 (call : QC FA) (x1 : Int32) (x2 : Int32) (L : QH FA) (F : Nat) : rnG call 255 (F + 1) 68 [some (vR 0), some (vI x1), some (vI x2)] [] L = rnG call 255 F 69 [some (vR 0), some (vI x1), some (vI x2)] [vR 0] L := rfl
set_option maxRecDepth 100000 in
theorem bc54_255_7 (call : QC FA) (ls : List (Option PV)) (z : Nat → Int32) (f : Nat → FA) (F : Nat) : rnG call 255 (F + 1) 69 ls [vR 0] (LR z f) = cbd (call 269 [vR 0] (LR z f)) (fun r L' => rnG call 255 F 70 ls (r.toList ++ []) L') := pcY (ih := rnG call 255 F) (call := call) (a := 269) (b := 0) (v := 12) (t := 70) (x := 0) (ls := ls) (As := []) (st' := []) (L := LR z f) rfl rfl rfl
set_option maxRecDepth 100000 in
theorem bc54_255_8 (call : QC FA) (x1 : Int32) (x2 : Int32) (L : QH FA) (F : Nat) : rnG call 255 (F + 5) 70 [some (vR 0), some (vI x1), some (vI x2)] [] L = rnG call 255 F 2 [some (vR 0), some (vI (x1 + 1)), some (vI x2)] [] L := rfl
set_option maxRecDepth 100000 in
theorem bc54_255_9 (call : QC FA) (x1 : Int32) (x2 : Int32) (L : QH FA) (F : Nat) : rnG call 255 (F + 2) 64 [some (vR 0), some (vI x1), some (vI x2)] [] L = rnG call 255 F 66 [some (vR 0), some (vI x1), some (vI x2)] [vI 1, vR 0] L := rfl
set_option maxRecDepth 100000 in
theorem bc54_255_10 (call : QC FA) (a0 : Int32) (ls : List (Option PV)) (z : Nat → Int32) (f : Nat → FA) (F : Nat) : rnG call 255 (F + 1) 66 ls [vI a0, vR 0] (LR z f) = cbd (call 208 [vR 0, vI a0] (LR z f)) (fun r L' => rnG call 255 F 67 ls (r.toList ++ []) L') := pcY (ih := rnG call 255 F) (call := call) (a := 208) (b := 1) (v := 12) (t := 67) (x := 0) (ls := ls) (As := [vI a0]) (st' := []) (L := LR z f) rfl rfl rfl
set_option maxRecDepth 100000 in
theorem bc54_255_11 (call : QC FA) (x : Int32) (ls : List (Option PV)) (L : QH FA) (F : Nat) : rnG call 255 (F + 1) 67 ls [vI x] L = some (some (vI x), L) := rfl
theorem vcc54_255_54 (d : Nat) (x1 : Int32) (x2 : Int32) (z : Nat → Int32) (f : Nat → FA) (res : Option PV × QH FA) (H : (pin x2 48 = true ∧ (((z 15 = 4 ∧ z 16 = 59) → (∃ (z1 : Nat → Int32) (f1 : Nat → FA), (mcall (d + 8)) 269 [vR 0] (LR z (uA f 14 (upd (f 14) (ix x2) (z 26)))) = some (none, LR z1 f1) ∧ RC (mcall (d + 8)) (mP 255) 2 [some (vR 0), some (vI (x1 + 1)), some (vI x2)] [] (LR z1 f1) res)) ∧ ((¬ (z 15 = 4 ∧ z 16 = 59)) → (∃ (r2 : Int32) (z2 : Nat → Int32) (f2 : Nat → FA), (mcall (d + 8)) 208 [vR 0, vI 1] (LR z (uA f 14 (upd (f 14) (ix x2) (z 26)))) = some (some (vI r2), LR z2 f2) ∧ res = (some (vI r2), LR z2 f2)))))) : RC (mcall (d + 8)) (mP 255) 54 [some (vR 0), some (vI x1), some (vI x2)] [] (LR z f) res := by
  refine rc_b (i' := 59) (ls' := [some (vR 0), some (vI x1), some (vI x2)]) (st' := [vI (z 26), vI x2, vR 14]) (L' := LR z f) 5 (bc54_255_1 (mcall (d + 8)) x1 x2 z f) ?_
  obtain ⟨g1, H⟩ := H
  refine rc_g (i' := 60) (ls' := [some (vR 0), some (vI x1), some (vI x2)]) (st' := []) (L' := LR z (uA f 14 (upd (f 14) (ix x2) (z 26)))) (bc54_255_2 (mcall (d + 8)) x2 (z 26) _ z f) (pinG g1) ?_
  refine rc_b (i' := 62) (ls' := [some (vR 0), some (vI x1), some (vI x2)]) (st' := [vI 59, vR 0]) (L' := LR z (uA f 14 (upd (f 14) (ix x2) (z 26)))) 2 (bc54_255_3 (mcall (d + 8)) x1 x2 _) ?_
  refine rc_call (t := 63) (ls' := [some (vR 0), some (vI x1), some (vI x2)]) (st' := []) (bc54_255_4 (mcall (d + 8)) 59 _ z (uA f 14 (upd (f 14) (ix x2) (z 26)))) (isSign_r _ 59 z (uA f 14 (upd (f 14) (ix x2) (z 26)))) ?_
  show RC (mcall (d + 8)) (mP 255) 63 [some (vR 0), some (vI x1), some (vI x2)] [vI (bI (z 15 = 4 ∧ z 16 = 59))] (LR z (uA f 14 (upd (f 14) (ix x2) (z 26)))) res
  refine rc_bn (it := 68) (ie := 64) (ls' := [some (vR 0), some (vI x1), some (vI x2)]) (st' := []) (bc54_255_5 (mcall (d + 8)) (bI (z 15 = 4 ∧ z 16 = 59)) _ _) (fun q1 => ?_) (fun q1 => ?_)
  · have H := H.1 q1
    refine rc_b (i' := 69) (ls' := [some (vR 0), some (vI x1), some (vI x2)]) (st' := [vR 0]) (L' := LR z (uA f 14 (upd (f 14) (ix x2) (z 26)))) 1 (bc54_255_6 (mcall (d + 8)) x1 x2 _) ?_
    obtain ⟨z1, f1, hc, H⟩ := H
    refine rc_call (t := 70) (ls' := [some (vR 0), some (vI x1), some (vI x2)]) (st' := []) (bc54_255_7 (mcall (d + 8)) _ z (uA f 14 (upd (f 14) (ix x2) (z 26)))) hc ?_
    show RC (mcall (d + 8)) (mP 255) 70 [some (vR 0), some (vI x1), some (vI x2)] [] (LR z1 f1) res
    refine rc_b (i' := 2) (ls' := [some (vR 0), some (vI (x1 + 1)), some (vI x2)]) (st' := []) (L' := LR z1 f1) 5 (bc54_255_8 (mcall (d + 8)) x1 x2 _) ?_
    exact H
  · have H := H.2 q1
    refine rc_b (i' := 66) (ls' := [some (vR 0), some (vI x1), some (vI x2)]) (st' := [vI 1, vR 0]) (L' := LR z (uA f 14 (upd (f 14) (ix x2) (z 26)))) 2 (bc54_255_9 (mcall (d + 8)) x1 x2 _) ?_
    obtain ⟨r2, z2, f2, hc, H⟩ := H
    refine rc_call (t := 67) (ls' := [some (vR 0), some (vI x1), some (vI x2)]) (st' := []) (bc54_255_10 (mcall (d + 8)) 1 _ z (uA f 14 (upd (f 14) (ix x2) (z 26)))) hc ?_
    show RC (mcall (d + 8)) (mP 255) 67 [some (vR 0), some (vI x1), some (vI x2)] [vI r2] (LR z2 f2) res
    subst H
    exact rc_ret (bc54_255_11 (mcall (d + 8)) _ _ _)
def BL (f : Nat → FA) : Prop := ∀ k, 12 ≤ k → k ≤ 14 → ∀ j, j < 48 → inb 2147483648 2147484048 (f k j)
def FRl (z : Nat → Int32) (f : Nat → FA) (z' : Nat → Int32) (f' : Nat → FA) : Prop := (∀ j, j ≠ 13 → j ≠ 14 → j ≠ 15 → j ≠ 16 → j ≠ 26 → j ≠ 27 → j ≠ 29 → j ≠ 30 → j ≠ 31 → z' j = z j) ∧ (∀ k, (k < 11 ∨ 17 < k) → f' k = f k) ∧ (∀ k, 11 ≤ k → k ≤ 14 → ∀ j, j < 32 → f' k j = f k j) ∧ (∀ j, j < 800 → f' 15 j = f 15 j ∧ f' 16 j = f 16 j) ∧ (BL f → BL f')
theorem FRl.refl {z : Nat → Int32} {f : Nat → FA} : FRl z f z f := ⟨fun _ _ _ _ _ _ _ _ _ _ => rfl, fun _ _ => rfl, fun _ _ _ _ _ => rfl, fun _ _ => ⟨rfl, rfl⟩, id⟩
theorem FRl.trans {z z1 z2 : Nat → Int32} {f f1 f2 : Nat → FA} (h1 : FRl z f z1 f1) (h2 : FRl z1 f1 z2 f2) : FRl z f z2 f2 := by
  obtain ⟨a1, a2, a3, a4, a5⟩ := h1
  obtain ⟨b1, b2, b3, b4, b5⟩ := h2
  refine ⟨fun j q1 q2 q3 q4 q5 q6 q7 q8 q9 => (b1 j q1 q2 q3 q4 q5 q6 q7 q8 q9).trans (a1 j q1 q2 q3 q4 q5 q6 q7 q8 q9), fun k q1 => (b2 k q1).trans (a2 k q1), fun k q1 q2 j hj => (b3 k q1 q2 j hj).trans (a3 k q1 q2 j hj), fun j hj => ?_, fun h => b5 (a5 h)⟩
  obtain ⟨c1, c2⟩ := b4 j hj
  obtain ⟨d1, d2⟩ := a4 j hj
  exact ⟨c1.trans d1, c2.trans d2⟩
theorem FRa.l {b : Nat} {z z' : Nat → Int32} {f f' : Nat → FA} (h : FRa (800 + b) z f z' f') : FRl z f z' f' := ⟨h.1, fun k q => h.2.1 k (by omega) (by omega) (by omega), fun k q1 q2 j hj => by rw [h.2.1 k (by omega) (by omega) (by omega)], fun j hj => h.2.2 j (by omega), fun hb k q1 q2 j hj => by rw [h.2.1 k (by omega) (by omega) (by omega)]; exact hb k q1 q2 j hj⟩
theorem FRl.w {z : Nat → Int32} {f : Nat → FA} {k l : Nat} {x : Int32} (h1 : 11 ≤ k) (h2 : k ≤ 14) (hx : 12 ≤ k → inb 2147483648 2147484048 x) : FRl z f z (uA f k (upd (f k) (32 + l) x)) := by
  refine ⟨fun _ _ _ _ _ _ _ _ _ _ => rfl, fun j hj => uA_ne (by omega), fun j q1 q2 i hi => ?_, fun j _ => ⟨by rw [uA_ne (by omega)], by rw [uA_ne (by omega)]⟩, fun hb j q1 q2 i hi => ?_⟩
  · by_cases e : j = k
    · subst e
      rw [uA_self, pk_un (by omega)]
    · rw [uA_ne e]
  · by_cases e : j = k
    · subst e
      rw [uA_self]
      by_cases c : i = 32 + l
      · subst c; rw [pk_us]; exact hx q1
      · rw [pk_un c]; exact hb j q1 q2 i hi
    · rw [uA_ne e]; exact hb j q1 q2 i hi
theorem inb_c4 {x : Int32} {c : Nat} (h : x = nI c) (hc : c ≤ 400) : inb 2147483648 2147484048 x := by
  rw [h]
  unfold inb
  rw [ky_nI (by omega)]
  omega
theorem CS.f {t p i n d a k : Nat} {z : Nat → Int32} {f : Nat → FA} {g : FA} (h : CS t p i n d a z f) (hk : 11 ≤ k ∧ k ≤ 14) : CS t p i n d a z (uA f k g) := by
  obtain ⟨h0, h1, h2, h3, h4, h5, h6, h7⟩ := h
  refine ⟨?_, h1, h2, h3, h4, h5, h6, ?_⟩
  · rw [uA_ne (by omega)]; exact h0
  · rw [uA_ne (by omega), uA_ne (by omega)]; exact h7
theorem CS.base {t p i n d a : Nat} {z : Nat → Int32} {f : Nat → FA} (h : CS t p i n d a z f) : CS t p (i + n) 0 0 a z f := by
  obtain ⟨h0, h1, h2, h3, h4, h5, h6, h7⟩ := h
  exact ⟨h0, h1, h2, h3, h4, h5, h6, rfl⟩
def LWd (k c : Nat) (f : Nat → FA) : Prop := ∀ l, l < k → ∃ a b e, f 12 (32 + l) = nI a ∧ f 13 (32 + l) = nI b ∧ f 14 (32 + l) = nI e ∧ a ≤ b ∧ b ≤ e ∧ e ≤ c ∧ (∃ d, DP (sh 800 (f 15)) (sh 800 (f 16)) a (b - a) = some d) ∧ (∃ d, DP (sh 800 (f 15)) (sh 800 (f 16)) b (e - b) = some d)
theorem LWd.mono {k c c' : Nat} {f : Nat → FA} (h : LWd k c f) (hc : c ≤ c') : LWd k c' f := fun l hl => by
  obtain ⟨a, b, e, h1, h2, h3, h4, h5, h6, h7, h8⟩ := h l hl
  exact ⟨a, b, e, h1, h2, h3, h4, h5, by omega, h7, h8⟩
theorem DP_sh {o a o' a' : FA} {i n d c : Nat} (h : DP (sh 800 o) (sh 800 a) i n = some d) (hc : i + n ≤ c) (he : ∀ j, j < 800 + c → o' j = o j ∧ a' j = a j) : DP (sh 800 o') (sh 800 a') i n = some d := by
  rw [DP_eq (o' := sh 800 o') (a' := sh 800 a') (o := sh 800 o) (a := sh 800 a) n (fun j h1 h2 => he (800 + j) (by omega))]
  exact h
theorem LWd.tr {k c : Nat} {f f' : Nat → FA} (h : LWd k c f) (he : ∀ j, j < 800 + c → f' 15 j = f 15 j ∧ f' 16 j = f 16 j) (hl : ∀ l, l < k → f' 12 (32 + l) = f 12 (32 + l) ∧ f' 13 (32 + l) = f 13 (32 + l) ∧ f' 14 (32 + l) = f 14 (32 + l)) : LWd k c f' := fun l hlk => by
  obtain ⟨a, b, e, h1, h2, h3, h4, h5, h6, ⟨d1, h7⟩, d2, h8⟩ := h l hlk
  obtain ⟨g1, g2, g3⟩ := hl l hlk
  exact ⟨a, b, e, g1.trans h1, g2.trans h2, g3.trans h3, h4, h5, h6, ⟨d1, DP_sh h7 (by omega) he⟩, d2, DP_sh h8 (by omega) he⟩
theorem LWd.w {k c j l : Nat} {f : Nat → FA} {x : Int32} (h : LWd k c f) (hj : 11 ≤ j ∧ j ≤ 14) (hl : k ≤ l) : LWd k c (uA f j (upd (f j) (32 + l) x)) := by
  refine h.tr (fun i _ => ⟨by rw [uA_ne (by omega)], by rw [uA_ne (by omega)]⟩) (fun i hi => ?_)
  have key : ∀ r, uA f j (upd (f j) (32 + l) x) r (32 + i) = f r (32 + i) := by
    intro r
    by_cases e : r = j
    · subst e
      rw [uA_self, pk_un (by omega)]
    · rw [uA_ne e]
  exact ⟨key 12, key 13, key 14⟩
/-- what readLaw comes to -/
def RLw (z : Nat → Int32) (f : Nat → FA) (r : Int32) (z' : Nat → Int32) (f' : Nat → FA) : Prop := FRl z f z' f' ∧ ST1 z' ∧ (r = -1 ∨ ∃ k c, r = nI k ∧ k ≤ 16 ∧ c ≤ 400 ∧ z' 26 = nI c ∧ LWd k c f')
theorem RLw.pre {z z1 z' : Nat → Int32} {f f1 f' : Nat → FA} {r : Int32} (h : FRl z f z1 f1) (h2 : RLw z1 f1 r z' f') : RLw z f r z' f' := ⟨h.trans h2.1, h2.2⟩
theorem RLw.er {t i n d a : Nat} {z : Nat → Int32} {f : Nat → FA} {x y : Int32} (h : ST1 z) : RLw z f (-1) (uZ (uZ z 30 x) 31 y) f := ⟨FRc.er.a.l (b := 0), h.er, Or.inl rfl⟩
theorem rl2 (d0 t : Nat) : ∀ mm k c a z f (q : Option PV), t - a < mm → k ≤ 16 → CS t 0 c 0 0 a z f → z 27 = nI 0 → (∃ p, z 29 = nI p ∧ p ≤ 40) → LWd k c f → ∃ r z' f', RC (mcall (d0 + 8)) (mP 255) 2 [some (vR 0), some (vI (nI k)), q] [] (LR z f) (some (vI r), LR z' f') ∧ RLw z f r z' f' := by
  intro mm
  induction mm with
  | zero => intro k c a z f q hm; omega
  | succ mm ih =>
    intro k c a z f q hm hk hC h27 h29 hW
    have hal := hC.a_le
    have t400 := hC.2.1
    have hca := hC.2.2.2.2.2.1
    have st : ∀ {p i n d a : Nat} {z : Nat → Int32} {f : Nat → FA}, CS t p i n d a z f → z 27 = nI 0 → (∃ p, z 29 = nI p ∧ p ≤ 40) → ST1 z := fun h1 h2 ⟨p, h3, h4⟩ => ⟨h1.st0, 0, p, h2, h3, by omega, h4⟩
    have e32 : (32 : Int32) + nI k = nI (32 + k) := nI_add 32 k
    by_cases c1 : z 15 = 2 ∧ (0 ≤ I (z 16) ∧ I (z 16) ≤ 2)
    · by_cases c2 : k = 16
      · subst c2
        exact ⟨-1, _, f, vcc2_255_2 _ _ _ _ _ _ ⟨fun _ => ⟨fun q => absurd rfl q, fun _ => ⟨-1, _, f, errs_r (d0 + 7) 3 z f, rfl⟩⟩, fun q => absurd c1 q⟩, RLw.er (t := 0) (i := 0) (n := 0) (d := 0) (a := 0) (st hC h27 h29)⟩
      · have k16 : ¬ nI k = 16 := fun q => c2 (nI_inj (b := 16) (by omega) (by omega) q)
        have p32 : pin (nI (32 + k)) 48 = true := pin_nI (by omega) (by omega)
        have x32 : ix (nI (32 + k)) = 32 + k := ix_nI (by omega)
        -- behind the condition
        have at54 : ∀ b e a5 z5 f5, CS t 0 e 0 0 a5 z5 f5 → z5 27 = nI 0 → (∃ p, z5 29 = nI p ∧ p ≤ 40) → LWd k c f5 → f5 12 (32 + k) = nI c → f5 13 (32 + k) = nI b → c ≤ b → b ≤ e → (∃ d, DP (sh 800 (f5 15)) (sh 800 (f5 16)) c (b - c) = some d) → (∃ d, DP (sh 800 (f5 15)) (sh 800 (f5 16)) b (e - b) = some d) → a < a5 → ∃ r z' f', RC (mcall (d0 + 8)) (mP 255) 54 [some (vR 0), some (vI (nI k)), some (vI (nI (32 + k)))] [] (LR z5 f5) (some (vI r), LR z' f') ∧ RLw z5 f5 r z' f' := by
          intro b e a5 z5 f5 hC5 h27 h29 hW5 h12 h13 hcb hbe D1 D2 ha5
          have g26 : z5 26 = nI e := hC5.2.2.2.2.1
          have hea := hC5.2.2.2.2.2.1
          have hal5 := hC5.a_le
          by_cases c3 : z5 15 = 4 ∧ z5 16 = 59
          · obtain ⟨z6, a6, g1, g2, g3, g4⟩ := rd_c (d0 + 5) (hC5.f (k := 14) (g := upd (f5 14) (32 + k) (z5 26)) (by omega)) (by rw [c3.1]; decide)
            have hal6 := g2.a_le
            obtain ⟨r, z', f', v1, v2⟩ := ih (k + 1) e a6 z6 (uA f5 14 (upd (f5 14) (32 + k) (z5 26))) (some (vI (nI (32 + k)))) (by omega) (by omega) (g2.weak (by omega)) ((g4 27 (by decide) (by decide) (by decide) (by decide)).trans h27) (by
              obtain ⟨p, q1, q2⟩ := h29
              exact ⟨p, (g4 29 (by decide) (by decide) (by decide) (by decide)).trans q1, q2⟩) (by
              intro l hl
              by_cases el : l = k
              · subst el
                exact ⟨c, b, e, h12, h13, by rw [uA_self, pk_us]; exact g26, hcb, hbe, Nat.le_refl _, D1, D2⟩
              · exact ((hW5.w (j := 14) (l := k) (by omega) (Nat.le_refl _)).mono (show c ≤ e by omega)) l (by omega))
            refine ⟨r, z', f', vcc54_255_54 _ _ _ _ _ _ ⟨p32, fun _ => ⟨z6, uA f5 14 (upd (f5 14) (32 + k) (z5 26)), by rw [x32]; exact g1, ?_⟩, fun q => absurd c3 q⟩, RLw.pre ((FRl.w (k := 14) (by omega) (by omega) (fun _ => inb_c4 g26 (by omega))).trans ((FRc.rd (b := 800 + 0) g4).a.l)) v2⟩
            rw [show nI k + 1 = nI (k + 1) from nI_add k 1]
            exact v1
          · refine ⟨-1, _, uA f5 14 (upd (f5 14) (32 + k) (z5 26)), vcc54_255_54 _ _ _ _ _ _ ⟨p32, fun q => absurd q c3, fun _ => ⟨-1, _, uA f5 14 (upd (f5 14) (32 + k) (z5 26)), ?_, rfl⟩⟩, RLw.pre (FRl.w (k := 14) (by omega) (by omega) (fun _ => inb_c4 g26 (by omega))) (RLw.er (t := 0) (i := 0) (n := 0) (d := 0) (a := 0) (x := 1) (y := z5 14) (st hC5 h27 h29))⟩
            rw [x32]
            exact errs_r (d0 + 7) 1 z5 _
        -- the word, the sum
        obtain ⟨z2, a2, g1, g2, g3, g4⟩ := rd_c (d0 + 5) (hC.f (k := 11) (g := upd (f 11) (32 + k) (z 16)) (by omega)) (by rw [c1.1]; decide)
        have g26 : z2 26 = nI c := g2.2.2.2.2.1
        have k27 : z2 27 = nI 0 := (g4 27 (by decide) (by decide) (by decide) (by decide)).trans h27
        have k29 : ∃ p, z2 29 = nI p ∧ p ≤ 40 := by
          obtain ⟨p, q1, q2⟩ := h29
          exact ⟨p, (g4 29 (by decide) (by decide) (by decide) (by decide)).trans q1, q2⟩
        obtain ⟨r, z3, f3, u1, u2⟩ := readSum_r (d0 + 2) (g2.f (k := 12) (g := upd (f 12) (32 + k) (z2 26)) (by omega))
        have W2 : LWd k c (uA (uA f 11 (upd (f 11) (32 + k) (z 16))) 12 (upd (f 12) (32 + k) (z2 26))) := (hW.w (j := 11) (l := k) (by omega) (Nat.le_refl _)).w (j := 12) (l := k) (by omega) (Nat.le_refl _)
        have F2 : FRl z f z2 (uA (uA f 11 (upd (f 11) (32 + k) (z 16))) 12 (upd (f 12) (32 + k) (z2 26))) := ((FRl.w (k := 11) (by omega) (by omega) (fun q => absurd q (by omega))).trans (FRc.rd (b := 800 + 0) g4).a.l).trans (FRl.w (k := 12) (by omega) (by omega) (fun _ => inb_c4 g26 (by omega)))
        have F3 := F2.trans u2.1.a.l
        have W3 : LWd k c f3 := W2.tr (fun j hj => u2.1.2.2 j (by omega)) (fun l _ => ⟨by rw [u2.1.2.1 12 (by decide) (by decide)], by rw [u2.1.2.1 13 (by decide) (by decide)], by rw [u2.1.2.1 14 (by decide) (by decide)]⟩)
        have m27 : z3 27 = nI 0 := (u2.1.1 27 (by decide) (by decide) (by decide) (by decide) (by decide) (by decide) (by decide)).trans k27
        have m29 : ∃ p, z3 29 = nI p ∧ p ≤ 40 := by
          obtain ⟨p, q1, q2⟩ := k29
          exact ⟨p, (u2.1.1 29 (by decide) (by decide) (by decide) (by decide) (by decide) (by decide) (by decide)).trans q1, q2⟩
        have i12 : f3 12 (32 + k) = nI c := by
          rw [u2.1.2.1 12 (by decide) (by decide), uA_self, pk_us]
          exact g26
        rcases u2.2 with ⟨rfl, u3⟩ | ⟨rfl, n1, a3, u4, u5, u6⟩
        · refine ⟨-1, z3, f3, vcc2_255_2 _ _ _ _ _ _ ⟨fun _ => ⟨fun _ => ?_, fun q => absurd q k16⟩, fun q => absurd c1 q⟩, F3, ⟨u3, 0, m29.choose, m27, m29.choose_spec.1, by omega, m29.choose_spec.2⟩, Or.inl rfl⟩
          rw [e32, x32]
          exact ⟨p32, z2, _, g1, p32, -1, z3, f3, u1, fun q => absurd rfl q, fun _ => rfl⟩
        · have h26 : z3 26 = nI (c + n1) := u6.2.2.2.2.1
          have h7 := u6.2.2.2.2.2.2.2
          have hal3 := u6.a_le
          have hca3 := u6.2.2.2.2.2.1
          have C3 := u6.f (k := 13) (g := upd (f3 13) (32 + k) (z3 26)) (by omega)
          have W4 : LWd k c (uA f3 13 (upd (f3 13) (32 + k) (z3 26))) := W3.w (j := 13) (l := k) (by omega) (Nat.le_refl _)
          have F4 := F3.trans (FRl.w (z := z3) (k := 13) (l := k) (x := z3 26) (by omega) (by omega) (fun _ => inb_c4 h26 (by omega)))
          have i13 : uA f3 13 (upd (f3 13) (32 + k) (z3 26)) 13 (32 + k) = nI (c + n1) := by
            rw [uA_self, pk_us]
            exact h26
          by_cases c4 : z3 15 = 2 ∧ z3 16 = 3
          · obtain ⟨z4, a4, j1, j2, j3, j4⟩ := rd_c (d0 + 5) C3 (by rw [c4.1]; decide)
            obtain ⟨r, z5, f5, v1, v2⟩ := readAny_r d0 (j2.base.weak (Nat.zero_le _)) ((j4 27 (by decide) (by decide) (by decide) (by decide)).trans m27)
            have F5 := F4.trans ((FRc.rd (b := 800 + 0) j4).a.l.trans v2.1.l)
            rcases v2.2 with ⟨rfl, v3⟩ | ⟨rfl, n2, a5, w1, w2, w3, w4, w5⟩
            · refine ⟨-1, z5, f5, vcc2_255_2 _ _ _ _ _ _ ⟨fun _ => ⟨fun _ => ?_, fun q => absurd q k16⟩, fun q => absurd c1 q⟩, F5, v3, Or.inl rfl⟩
              rw [e32, x32]
              exact ⟨p32, z2, _, g1, p32, 0, z3, f3, u1, fun _ => ⟨p32, fun _ => ⟨z4, _, j1, -1, z5, f5, v1, fun q => absurd rfl q, fun _ => rfl⟩, fun q => absurd c4 q⟩, fun q => absurd q m1n⟩
            · have f15 : ∀ j, j < 800 + (c + n1) → f5 15 j = f3 15 j ∧ f5 16 j = f3 16 j := fun j hj => v2.1.2.2 j (by omega)
              obtain ⟨r, z', f', y1, y2⟩ := at54 (c + n1) (c + n1 + n2) a5 z5 f5 w3.base w4 ⟨0, w5, by omega⟩ (W4.tr (fun j hj => f15 j (by omega)) (fun l _ => ⟨by rw [v2.1.2.1 12 (by decide) (by decide) (by decide)], by rw [v2.1.2.1 13 (by decide) (by decide) (by decide)], by rw [v2.1.2.1 14 (by decide) (by decide) (by decide)]⟩)) (by rw [v2.1.2.1 12 (by decide) (by decide) (by decide)]; exact i12) (by rw [v2.1.2.1 13 (by decide) (by decide) (by decide)]; exact i13) (by omega) (by omega) ⟨1, by rw [show c + n1 - c = n1 by omega]; exact DP_sh h7 (Nat.le_refl _) f15⟩ ⟨1, by rw [show c + n1 + n2 - (c + n1) = n2 by omega]; exact w3.2.2.2.2.2.2.2⟩ (by omega)
              refine ⟨r, z', f', vcc2_255_2 _ _ _ _ _ _ ⟨fun _ => ⟨fun _ => ?_, fun q => absurd q k16⟩, fun q => absurd c1 q⟩, RLw.pre F5 y2⟩
              rw [e32, x32]
              exact ⟨p32, z2, _, g1, p32, 0, z3, f3, u1, fun _ => ⟨p32, fun _ => ⟨z4, _, j1, 0, z5, f5, v1, fun _ => y1, fun q => absurd q m1n⟩, fun q => absurd c4 q⟩, fun q => absurd q m1n⟩
          · obtain ⟨r, z', f', y1, y2⟩ := at54 (c + n1) (c + n1) a3 z3 (uA f3 13 (upd (f3 13) (32 + k) (z3 26))) (C3.base.weak (Nat.zero_le _)) m27 m29 W4 i12 i13 (by omega) (by omega) ⟨1, by rw [show c + n1 - c = n1 by omega]; exact h7⟩ ⟨0, by rw [show c + n1 - (c + n1) = 0 by omega]; rfl⟩ (by omega)
            refine ⟨r, z', f', vcc2_255_2 _ _ _ _ _ _ ⟨fun _ => ⟨fun _ => ?_, fun q => absurd q k16⟩, fun q => absurd c1 q⟩, RLw.pre F4 y2⟩
            rw [e32, x32]
            exact ⟨p32, z2, _, g1, p32, 0, z3, f3, u1, fun _ => ⟨p32, fun q => absurd q c4, fun _ => y1⟩, fun q => absurd q m1n⟩
    · by_cases c5 : z 15 = 0
      · exact ⟨nI k, z, f, vcc2_255_2 _ _ _ _ _ _ ⟨fun q => absurd q c1, fun _ => ⟨fun q => absurd c5 q, fun _ => rfl⟩⟩, FRl.refl, st hC h27 h29, Or.inr ⟨k, c, rfl, hk, by omega, hC.2.2.2.2.1, hW⟩⟩
      · exact ⟨-1, _, f, vcc2_255_2 _ _ _ _ _ _ ⟨fun q => absurd q c1, fun _ => ⟨fun _ => ⟨-1, _, f, errs_r (d0 + 7) 1 z f, rfl⟩, fun q => absurd q c5⟩⟩, RLw.er (t := 0) (i := 0) (n := 0) (d := 0) (a := 0) (st hC h27 h29)⟩
theorem readLaw_r (d0 : Nat) {t a : Nat} {z : Nat → Int32} {f : Nat → FA} (h : CS t 0 0 0 0 a z f) (h27 : z 27 = nI 0) (h29 : ∃ p, z 29 = nI p ∧ p ≤ 40) : ∃ r z' f', mcall (d0 + 9) 255 [vR 0] (LR z f) = some (some (vI r), LR z' f') ∧ RLw z f r z' f' := by
  obtain ⟨r, z', f', v1, v2⟩ := rl2 d0 t _ 0 0 a z f none (Nat.lt_succ_self _) (by omega) h h27 h29 (fun l hl => absurd hl (by omega))
  exact ⟨r, z', f', mcall_i (mq255 (cu := [])).2.2 rfl (vc255_0 _ _ _ _ _ _ v1), v2⟩
set_option maxRecDepth 100000 in
theorem b278_1 (call : QC FA) (x1 : Int32) (o2 : Option PV) (L : QH FA) (F : Nat) : rnG call 278 (F + 2) 0 [some (vR 0), some (vI x1), o2] [] L = rnG call 278 F 2 [some (vR 0), some (vI x1), some (vI 0)] [] L := rfl
theorem vc278_0 (call : QC FA) (x1 : Int32) (o2 : Option PV) (z : Nat → Int32) (f : Nat → FA) (res : Option PV × QH FA) (H : RC call (mP 278) 2 [some (vR 0), some (vI x1), some (vI 0)] [] (LR z f) res) : RC call (mP 278) 0 [some (vR 0), some (vI x1), o2] [] (LR z f) res := by
  refine rc_b (i' := 2) (ls' := [some (vR 0), some (vI x1), some (vI 0)]) (st' := []) (L' := LR z f) 2 (b278_1 call x1 o2 _) ?_
  exact H
set_option maxRecDepth 100000 in
theorem bc2_278_1 (call : QC FA) (x1 : Int32) (x2 : Int32) (L : QH FA) (F : Nat) : rnG call 278 (F + 2) 2 [some (vR 0), some (vI x1), some (vI x2)] [] L = rnG call 278 F 4 [some (vR 0), some (vI x1), some (vI x2)] [vI x1, vI x2] L := rfl
set_option maxRecDepth 100000 in
theorem bc2_278_2 (call : QC FA) (x y : Int32) (ls : List (Option PV)) (L : QH FA) (F : Nat) : rnG call 278 (F + 1) 4 ls [vI y, vI x] L = bif pcmp 3 x y then rnG call 278 F 67 ls [] L else rnG call 278 F 5 ls [] L := rfl
set_option maxRecDepth 100000 in
theorem bc2_278_3 (call : QC FA) (x1 : Int32) (x2 : Int32) (L : QH FA) (F : Nat) : rnG call 278 (F + 2) 67 [some (vR 0), some (vI x1), some (vI x2)] [] L = rnG call 278 F 69 [some (vR 0), some (vI x1), some (vI 0)] [] L := rfl
set_option maxRecDepth 100000 in
theorem bc2_278_4 (call : QC FA) (x1 : Int32) (x2 : Int32) (z : Nat → Int32) (f : Nat → FA) (F : Nat) : rnG call 278 (F + 13) 5 [some (vR 0), some (vI x1), some (vI x2)] [] (LR z f) = rnG call 278 F 18 [some (vR 0), some (vI x1), some (vI x2)] [vI (32 + x2), vR 11, vI ((16 * (z 25)) + x2), vR 11] (LR z f) := rfl
set_option maxRecDepth 100000 in
theorem bc2_278_5 (call : QC FA) (x : Int32) (s0 : Int32) (ls : List (Option PV)) (z : Nat → Int32) (f : Nat → FA) (F : Nat) : rnG call 278 (F + 1) 18 ls [vI x, vR 11, vI s0, vR 11] (LR z f) = bif (Nat.beq 0 0 && pin x 48) then rnG call 278 F 19 ls [vI (f 11 (ix x)), vI s0, vR 11] (LR z f) else none := rfl
set_option maxRecDepth 100000 in
theorem bc2_278_6 (call : QC FA) (x y : Int32) (ls : List (Option PV)) (z : Nat → Int32) (f : Nat → FA) (F : Nat) : rnG call 278 (F + 1) 19 ls [vI y, vI x, vR 11] (LR z f) = bif (Nat.beq 0 0 && pin x 48) then rnG call 278 F 20 ls [] (LR z (uA f 11 (upd (f 11) (ix x) y))) else none := rfl
set_option maxRecDepth 100000 in
theorem bc2_278_7 (call : QC FA) (x1 : Int32) (x2 : Int32) (z : Nat → Int32) (f : Nat → FA) (F : Nat) : rnG call 278 (F + 13) 20 [some (vR 0), some (vI x1), some (vI x2)] [] (LR z f) = rnG call 278 F 33 [some (vR 0), some (vI x1), some (vI x2)] [vI (32 + x2), vR 12, vI ((16 * (z 25)) + x2), vR 12] (LR z f) := rfl
set_option maxRecDepth 100000 in
theorem bc2_278_8 (call : QC FA) (x : Int32) (s0 : Int32) (ls : List (Option PV)) (z : Nat → Int32) (f : Nat → FA) (F : Nat) : rnG call 278 (F + 1) 33 ls [vI x, vR 12, vI s0, vR 12] (LR z f) = bif (Nat.beq 0 0 && pin x 48) then rnG call 278 F 34 ls [vI (f 12 (ix x)), vI s0, vR 12] (LR z f) else none := rfl
set_option maxRecDepth 100000 in
theorem bc2_278_9 (call : QC FA) (x y : Int32) (ls : List (Option PV)) (z : Nat → Int32) (f : Nat → FA) (F : Nat) : rnG call 278 (F + 1) 34 ls [vI y, vI x, vR 12] (LR z f) = bif (Nat.beq 0 0 && pin x 48) then rnG call 278 F 35 ls [] (LR z (uA f 12 (upd (f 12) (ix x) y))) else none := rfl
set_option maxRecDepth 100000 in
theorem bc2_278_10 (call : QC FA) (x1 : Int32) (x2 : Int32) (z : Nat → Int32) (f : Nat → FA) (F : Nat) : rnG call 278 (F + 13) 35 [some (vR 0), some (vI x1), some (vI x2)] [] (LR z f) = rnG call 278 F 48 [some (vR 0), some (vI x1), some (vI x2)] [vI (32 + x2), vR 13, vI ((16 * (z 25)) + x2), vR 13] (LR z f) := rfl
set_option maxRecDepth 100000 in
theorem bc2_278_11 (call : QC FA) (x : Int32) (s0 : Int32) (ls : List (Option PV)) (z : Nat → Int32) (f : Nat → FA) (F : Nat) : rnG call 278 (F + 1) 48 ls [vI x, vR 13, vI s0, vR 13] (LR z f) = bif (Nat.beq 0 0 && pin x 48) then rnG call 278 F 49 ls [vI (f 13 (ix x)), vI s0, vR 13] (LR z f) else none := rfl
set_option maxRecDepth 100000 in
theorem bc2_278_12 (call : QC FA) (x y : Int32) (ls : List (Option PV)) (z : Nat → Int32) (f : Nat → FA) (F : Nat) : rnG call 278 (F + 1) 49 ls [vI y, vI x, vR 13] (LR z f) = bif (Nat.beq 0 0 && pin x 48) then rnG call 278 F 50 ls [] (LR z (uA f 13 (upd (f 13) (ix x) y))) else none := rfl
set_option maxRecDepth 100000 in
theorem bc2_278_13 (call : QC FA) (x1 : Int32) (x2 : Int32) (z : Nat → Int32) (f : Nat → FA) (F : Nat) : rnG call 278 (F + 13) 50 [some (vR 0), some (vI x1), some (vI x2)] [] (LR z f) = rnG call 278 F 63 [some (vR 0), some (vI x1), some (vI x2)] [vI (32 + x2), vR 14, vI ((16 * (z 25)) + x2), vR 14] (LR z f) := rfl
set_option maxRecDepth 100000 in
theorem bc2_278_14 (call : QC FA) (x : Int32) (s0 : Int32) (ls : List (Option PV)) (z : Nat → Int32) (f : Nat → FA) (F : Nat) : rnG call 278 (F + 1) 63 ls [vI x, vR 14, vI s0, vR 14] (LR z f) = bif (Nat.beq 0 0 && pin x 48) then rnG call 278 F 64 ls [vI (f 14 (ix x)), vI s0, vR 14] (LR z f) else none := rfl
set_option maxRecDepth 100000 in
theorem bc2_278_15 (call : QC FA) (x y : Int32) (ls : List (Option PV)) (z : Nat → Int32) (f : Nat → FA) (F : Nat) : rnG call 278 (F + 1) 64 ls [vI y, vI x, vR 14] (LR z f) = bif (Nat.beq 0 0 && pin x 48) then rnG call 278 F 65 ls [] (LR z (uA f 14 (upd (f 14) (ix x) y))) else none := rfl
set_option maxRecDepth 100000 in
theorem bc2_278_16 (call : QC FA) (x1 : Int32) (x2 : Int32) (L : QH FA) (F : Nat) : rnG call 278 (F + 1) 65 [some (vR 0), some (vI x1), some (vI x2)] [] L = rnG call 278 F 66 [some (vR 0), some (vI x1), some (vI (x2 + 1))] [] L := rfl
set_option maxRecDepth 100000 in
theorem bc2_278_17 (call : QC FA) (x1 : Int32) (x2 : Int32) (L : QH FA) (F : Nat) : rnG call 278 (F + 1) 66 [some (vR 0), some (vI x1), some (vI x2)] [] L = rnG call 278 F 2 [some (vR 0), some (vI x1), some (vI x2)] [] L := rfl
theorem vcc2_278_2 (call : QC FA) (x1 : Int32) (x2 : Int32) (z : Nat → Int32) (f : Nat → FA) (res : Option PV × QH FA) (H : ((I x1 ≤ I x2 → RC call (mP 278) 69 [some (vR 0), some (vI x1), some (vI 0)] [] (LR z f) res) ∧ (I x2 < I x1 → (pin (32 + x2) 48 = true ∧ (pin ((16 * (z 25)) + x2) 48 = true ∧ (pin (32 + x2) 48 = true ∧ (pin ((16 * (z 25)) + x2) 48 = true ∧ (pin (32 + x2) 48 = true ∧ (pin ((16 * (z 25)) + x2) 48 = true ∧ (pin (32 + x2) 48 = true ∧ (pin ((16 * (z 25)) + x2) 48 = true ∧ RC call (mP 278) 2 [some (vR 0), some (vI x1), some (vI (x2 + 1))] [] (LR z (uA (uA (uA (uA f 11 (upd (f 11) (ix ((16 * (z 25)) + x2)) (f 11 (ix (32 + x2))))) 12 (upd (f 12) (ix ((16 * (z 25)) + x2)) (f 12 (ix (32 + x2))))) 13 (upd (f 13) (ix ((16 * (z 25)) + x2)) (f 13 (ix (32 + x2))))) 14 (upd (f 14) (ix ((16 * (z 25)) + x2)) (f 14 (ix (32 + x2)))))) res))))))))))) : RC call (mP 278) 2 [some (vR 0), some (vI x1), some (vI x2)] [] (LR z f) res := by
  refine rc_b (i' := 4) (ls' := [some (vR 0), some (vI x1), some (vI x2)]) (st' := [vI x1, vI x2]) (L' := LR z f) 2 (bc2_278_1 call x1 x2 _) ?_
  refine rc_if (it := 67) (ie := 5) (ls' := [some (vR 0), some (vI x1), some (vI x2)]) (st' := []) (bc2_278_2 call x2 x1 _ _) (fun q1 => ?_) (fun q1 => ?_)
  · have H := H.1 (cI3t q1 rfl rfl)
    refine rc_b (i' := 69) (ls' := [some (vR 0), some (vI x1), some (vI 0)]) (st' := []) (L' := LR z f) 2 (bc2_278_3 call x1 x2 _) ?_
    exact H
  · have H := H.2 (cI3f q1 rfl rfl)
    refine rc_b (i' := 18) (ls' := [some (vR 0), some (vI x1), some (vI x2)]) (st' := [vI (32 + x2), vR 11, vI ((16 * (z 25)) + x2), vR 11]) (L' := LR z f) 13 (bc2_278_4 call x1 x2 z f) ?_
    obtain ⟨g1, H⟩ := H
    refine rc_g (i' := 19) (ls' := [some (vR 0), some (vI x1), some (vI x2)]) (st' := [vI (f 11 (ix (32 + x2))), vI ((16 * (z 25)) + x2), vR 11]) (L' := LR z f) (bc2_278_5 call (32 + x2) ((16 * (z 25)) + x2) _ z f) (pinG g1) ?_
    obtain ⟨g1, H⟩ := H
    refine rc_g (i' := 20) (ls' := [some (vR 0), some (vI x1), some (vI x2)]) (st' := []) (L' := LR z (uA f 11 (upd (f 11) (ix ((16 * (z 25)) + x2)) (f 11 (ix (32 + x2)))))) (bc2_278_6 call ((16 * (z 25)) + x2) (f 11 (ix (32 + x2))) _ z f) (pinG g1) ?_
    refine rc_b (i' := 33) (ls' := [some (vR 0), some (vI x1), some (vI x2)]) (st' := [vI (32 + x2), vR 12, vI ((16 * (z 25)) + x2), vR 12]) (L' := LR z (uA f 11 (upd (f 11) (ix ((16 * (z 25)) + x2)) (f 11 (ix (32 + x2)))))) 13 (bc2_278_7 call x1 x2 z (uA f 11 (upd (f 11) (ix ((16 * (z 25)) + x2)) (f 11 (ix (32 + x2)))))) ?_
    obtain ⟨g1, H⟩ := H
    refine rc_g (i' := 34) (ls' := [some (vR 0), some (vI x1), some (vI x2)]) (st' := [vI (f 12 (ix (32 + x2))), vI ((16 * (z 25)) + x2), vR 12]) (L' := LR z (uA f 11 (upd (f 11) (ix ((16 * (z 25)) + x2)) (f 11 (ix (32 + x2)))))) (bc2_278_8 call (32 + x2) ((16 * (z 25)) + x2) _ z (uA f 11 (upd (f 11) (ix ((16 * (z 25)) + x2)) (f 11 (ix (32 + x2)))))) (pinG g1) ?_
    obtain ⟨g1, H⟩ := H
    refine rc_g (i' := 35) (ls' := [some (vR 0), some (vI x1), some (vI x2)]) (st' := []) (L' := LR z (uA (uA f 11 (upd (f 11) (ix ((16 * (z 25)) + x2)) (f 11 (ix (32 + x2))))) 12 (upd (f 12) (ix ((16 * (z 25)) + x2)) (f 12 (ix (32 + x2)))))) (bc2_278_9 call ((16 * (z 25)) + x2) (f 12 (ix (32 + x2))) _ z (uA f 11 (upd (f 11) (ix ((16 * (z 25)) + x2)) (f 11 (ix (32 + x2)))))) (pinG g1) ?_
    refine rc_b (i' := 48) (ls' := [some (vR 0), some (vI x1), some (vI x2)]) (st' := [vI (32 + x2), vR 13, vI ((16 * (z 25)) + x2), vR 13]) (L' := LR z (uA (uA f 11 (upd (f 11) (ix ((16 * (z 25)) + x2)) (f 11 (ix (32 + x2))))) 12 (upd (f 12) (ix ((16 * (z 25)) + x2)) (f 12 (ix (32 + x2)))))) 13 (bc2_278_10 call x1 x2 z (uA (uA f 11 (upd (f 11) (ix ((16 * (z 25)) + x2)) (f 11 (ix (32 + x2))))) 12 (upd (f 12) (ix ((16 * (z 25)) + x2)) (f 12 (ix (32 + x2)))))) ?_
    obtain ⟨g1, H⟩ := H
    refine rc_g (i' := 49) (ls' := [some (vR 0), some (vI x1), some (vI x2)]) (st' := [vI (f 13 (ix (32 + x2))), vI ((16 * (z 25)) + x2), vR 13]) (L' := LR z (uA (uA f 11 (upd (f 11) (ix ((16 * (z 25)) + x2)) (f 11 (ix (32 + x2))))) 12 (upd (f 12) (ix ((16 * (z 25)) + x2)) (f 12 (ix (32 + x2)))))) (bc2_278_11 call (32 + x2) ((16 * (z 25)) + x2) _ z (uA (uA f 11 (upd (f 11) (ix ((16 * (z 25)) + x2)) (f 11 (ix (32 + x2))))) 12 (upd (f 12) (ix ((16 * (z 25)) + x2)) (f 12 (ix (32 + x2)))))) (pinG g1) ?_
    obtain ⟨g1, H⟩ := H
    refine rc_g (i' := 50) (ls' := [some (vR 0), some (vI x1), some (vI x2)]) (st' := []) (L' := LR z (uA (uA (uA f 11 (upd (f 11) (ix ((16 * (z 25)) + x2)) (f 11 (ix (32 + x2))))) 12 (upd (f 12) (ix ((16 * (z 25)) + x2)) (f 12 (ix (32 + x2))))) 13 (upd (f 13) (ix ((16 * (z 25)) + x2)) (f 13 (ix (32 + x2)))))) (bc2_278_12 call ((16 * (z 25)) + x2) (f 13 (ix (32 + x2))) _ z (uA (uA f 11 (upd (f 11) (ix ((16 * (z 25)) + x2)) (f 11 (ix (32 + x2))))) 12 (upd (f 12) (ix ((16 * (z 25)) + x2)) (f 12 (ix (32 + x2)))))) (pinG g1) ?_
    refine rc_b (i' := 63) (ls' := [some (vR 0), some (vI x1), some (vI x2)]) (st' := [vI (32 + x2), vR 14, vI ((16 * (z 25)) + x2), vR 14]) (L' := LR z (uA (uA (uA f 11 (upd (f 11) (ix ((16 * (z 25)) + x2)) (f 11 (ix (32 + x2))))) 12 (upd (f 12) (ix ((16 * (z 25)) + x2)) (f 12 (ix (32 + x2))))) 13 (upd (f 13) (ix ((16 * (z 25)) + x2)) (f 13 (ix (32 + x2)))))) 13 (bc2_278_13 call x1 x2 z (uA (uA (uA f 11 (upd (f 11) (ix ((16 * (z 25)) + x2)) (f 11 (ix (32 + x2))))) 12 (upd (f 12) (ix ((16 * (z 25)) + x2)) (f 12 (ix (32 + x2))))) 13 (upd (f 13) (ix ((16 * (z 25)) + x2)) (f 13 (ix (32 + x2)))))) ?_
    obtain ⟨g1, H⟩ := H
    refine rc_g (i' := 64) (ls' := [some (vR 0), some (vI x1), some (vI x2)]) (st' := [vI (f 14 (ix (32 + x2))), vI ((16 * (z 25)) + x2), vR 14]) (L' := LR z (uA (uA (uA f 11 (upd (f 11) (ix ((16 * (z 25)) + x2)) (f 11 (ix (32 + x2))))) 12 (upd (f 12) (ix ((16 * (z 25)) + x2)) (f 12 (ix (32 + x2))))) 13 (upd (f 13) (ix ((16 * (z 25)) + x2)) (f 13 (ix (32 + x2)))))) (bc2_278_14 call (32 + x2) ((16 * (z 25)) + x2) _ z (uA (uA (uA f 11 (upd (f 11) (ix ((16 * (z 25)) + x2)) (f 11 (ix (32 + x2))))) 12 (upd (f 12) (ix ((16 * (z 25)) + x2)) (f 12 (ix (32 + x2))))) 13 (upd (f 13) (ix ((16 * (z 25)) + x2)) (f 13 (ix (32 + x2)))))) (pinG g1) ?_
    obtain ⟨g1, H⟩ := H
    refine rc_g (i' := 65) (ls' := [some (vR 0), some (vI x1), some (vI x2)]) (st' := []) (L' := LR z (uA (uA (uA (uA f 11 (upd (f 11) (ix ((16 * (z 25)) + x2)) (f 11 (ix (32 + x2))))) 12 (upd (f 12) (ix ((16 * (z 25)) + x2)) (f 12 (ix (32 + x2))))) 13 (upd (f 13) (ix ((16 * (z 25)) + x2)) (f 13 (ix (32 + x2))))) 14 (upd (f 14) (ix ((16 * (z 25)) + x2)) (f 14 (ix (32 + x2)))))) (bc2_278_15 call ((16 * (z 25)) + x2) (f 14 (ix (32 + x2))) _ z (uA (uA (uA f 11 (upd (f 11) (ix ((16 * (z 25)) + x2)) (f 11 (ix (32 + x2))))) 12 (upd (f 12) (ix ((16 * (z 25)) + x2)) (f 12 (ix (32 + x2))))) 13 (upd (f 13) (ix ((16 * (z 25)) + x2)) (f 13 (ix (32 + x2)))))) (pinG g1) ?_
    refine rc_b (i' := 66) (ls' := [some (vR 0), some (vI x1), some (vI (x2 + 1))]) (st' := []) (L' := LR z (uA (uA (uA (uA f 11 (upd (f 11) (ix ((16 * (z 25)) + x2)) (f 11 (ix (32 + x2))))) 12 (upd (f 12) (ix ((16 * (z 25)) + x2)) (f 12 (ix (32 + x2))))) 13 (upd (f 13) (ix ((16 * (z 25)) + x2)) (f 13 (ix (32 + x2))))) 14 (upd (f 14) (ix ((16 * (z 25)) + x2)) (f 14 (ix (32 + x2)))))) 1 (bc2_278_16 call x1 x2 _) ?_
    refine rc_b (i' := 2) (ls' := [some (vR 0), some (vI x1), some (vI (x2 + 1))]) (st' := []) (L' := LR z (uA (uA (uA (uA f 11 (upd (f 11) (ix ((16 * (z 25)) + x2)) (f 11 (ix (32 + x2))))) 12 (upd (f 12) (ix ((16 * (z 25)) + x2)) (f 12 (ix (32 + x2))))) 13 (upd (f 13) (ix ((16 * (z 25)) + x2)) (f 13 (ix (32 + x2))))) 14 (upd (f 14) (ix ((16 * (z 25)) + x2)) (f 14 (ix (32 + x2)))))) 1 (bc2_278_17 call x1 (x2 + 1) _) ?_
    exact H
set_option maxRecDepth 100000 in
theorem bc69_278_1 (call : QC FA) (x1 : Int32) (x2 : Int32) (z : Nat → Int32) (f : Nat → FA) (F : Nat) : rnG call 278 (F + 3) 69 [some (vR 0), some (vI x1), some (vI x2)] [] (LR z f) = rnG call 278 F 72 [some (vR 0), some (vI x1), some (vI x2)] [vI (z 26), vI x2] (LR z f) := rfl
set_option maxRecDepth 100000 in
theorem bc69_278_2 (call : QC FA) (x y : Int32) (ls : List (Option PV)) (L : QH FA) (F : Nat) : rnG call 278 (F + 1) 72 ls [vI y, vI x] L = bif pcmp 3 x y then rnG call 278 F 105 ls [] L else rnG call 278 F 73 ls [] L := rfl
set_option maxRecDepth 100000 in
theorem bc69_278_3 (call : QC FA) (x1 : Int32) (x2 : Int32) (z : Nat → Int32) (f : Nat → FA) (F : Nat) : rnG call 278 (F + 5) 105 [some (vR 0), some (vI x1), some (vI x2)] [] (LR z f) = rnG call 278 F 110 [some (vR 0), some (vI x1), some (vI x2)] [vI x1, vI (z 25), vR 10] (LR z f) := rfl
set_option maxRecDepth 100000 in
theorem bc69_278_4 (call : QC FA) (x y : Int32) (ls : List (Option PV)) (z : Nat → Int32) (f : Nat → FA) (F : Nat) : rnG call 278 (F + 1) 110 ls [vI y, vI x, vR 10] (LR z f) = bif (Nat.beq 0 0 && pin x 2) then rnG call 278 F 111 ls [] (LR z (uA f 10 (upd (f 10) (ix x) y))) else none := rfl
set_option maxRecDepth 100000 in
theorem bc69_278_5 (call : QC FA) (ls : List (Option PV)) (L : QH FA) (F : Nat) : rnG call 278 (F + 1) 111 ls [] L = some (none, L) := rfl
set_option maxRecDepth 100000 in
theorem bc69_278_6 (call : QC FA) (x1 : Int32) (x2 : Int32) (z : Nat → Int32) (f : Nat → FA) (F : Nat) : rnG call 278 (F + 13) 73 [some (vR 0), some (vI x1), some (vI x2)] [] (LR z f) = rnG call 278 F 86 [some (vR 0), some (vI x1), some (vI x2)] [vI (800 + x2), vR 15, vI ((400 * (z 25)) + x2), vR 15] (LR z f) := rfl
set_option maxRecDepth 100000 in
theorem bc69_278_7 (call : QC FA) (x : Int32) (s0 : Int32) (ls : List (Option PV)) (z : Nat → Int32) (f : Nat → FA) (F : Nat) : rnG call 278 (F + 1) 86 ls [vI x, vR 15, vI s0, vR 15] (LR z f) = bif (Nat.beq 0 0 && pin x 1200) then rnG call 278 F 87 ls [vI (f 15 (ix x)), vI s0, vR 15] (LR z f) else none := rfl
set_option maxRecDepth 100000 in
theorem bc69_278_8 (call : QC FA) (x y : Int32) (ls : List (Option PV)) (z : Nat → Int32) (f : Nat → FA) (F : Nat) : rnG call 278 (F + 1) 87 ls [vI y, vI x, vR 15] (LR z f) = bif (Nat.beq 0 0 && pin x 1200) then rnG call 278 F 88 ls [] (LR z (uA f 15 (upd (f 15) (ix x) y))) else none := rfl
set_option maxRecDepth 100000 in
theorem bc69_278_9 (call : QC FA) (x1 : Int32) (x2 : Int32) (z : Nat → Int32) (f : Nat → FA) (F : Nat) : rnG call 278 (F + 13) 88 [some (vR 0), some (vI x1), some (vI x2)] [] (LR z f) = rnG call 278 F 101 [some (vR 0), some (vI x1), some (vI x2)] [vI (800 + x2), vR 16, vI ((400 * (z 25)) + x2), vR 16] (LR z f) := rfl
set_option maxRecDepth 100000 in
theorem bc69_278_10 (call : QC FA) (x : Int32) (s0 : Int32) (ls : List (Option PV)) (z : Nat → Int32) (f : Nat → FA) (F : Nat) : rnG call 278 (F + 1) 101 ls [vI x, vR 16, vI s0, vR 16] (LR z f) = bif (Nat.beq 0 0 && pin x 1200) then rnG call 278 F 102 ls [vI (f 16 (ix x)), vI s0, vR 16] (LR z f) else none := rfl
set_option maxRecDepth 100000 in
theorem bc69_278_11 (call : QC FA) (x y : Int32) (ls : List (Option PV)) (z : Nat → Int32) (f : Nat → FA) (F : Nat) : rnG call 278 (F + 1) 102 ls [vI y, vI x, vR 16] (LR z f) = bif (Nat.beq 0 0 && pin x 1200) then rnG call 278 F 103 ls [] (LR z (uA f 16 (upd (f 16) (ix x) y))) else none := rfl
set_option maxRecDepth 100000 in
theorem bc69_278_12 (call : QC FA) (x1 : Int32) (x2 : Int32) (L : QH FA) (F : Nat) : rnG call 278 (F + 1) 103 [some (vR 0), some (vI x1), some (vI x2)] [] L = rnG call 278 F 104 [some (vR 0), some (vI x1), some (vI (x2 + 1))] [] L := rfl
set_option maxRecDepth 100000 in
theorem bc69_278_13 (call : QC FA) (x1 : Int32) (x2 : Int32) (L : QH FA) (F : Nat) : rnG call 278 (F + 1) 104 [some (vR 0), some (vI x1), some (vI x2)] [] L = rnG call 278 F 69 [some (vR 0), some (vI x1), some (vI x2)] [] L := rfl
theorem vcc69_278_69 (call : QC FA) (x1 : Int32) (x2 : Int32) (z : Nat → Int32) (f : Nat → FA) (res : Option PV × QH FA) (H : ((I (z 26) ≤ I x2 → (pin (z 25) 2 = true ∧ res = (none, LR z (uA f 10 (upd (f 10) (ix (z 25)) x1))))) ∧ (I x2 < I (z 26) → (pin (800 + x2) 1200 = true ∧ (pin ((400 * (z 25)) + x2) 1200 = true ∧ (pin (800 + x2) 1200 = true ∧ (pin ((400 * (z 25)) + x2) 1200 = true ∧ RC call (mP 278) 69 [some (vR 0), some (vI x1), some (vI (x2 + 1))] [] (LR z (uA (uA f 15 (upd (f 15) (ix ((400 * (z 25)) + x2)) (f 15 (ix (800 + x2))))) 16 (upd (f 16) (ix ((400 * (z 25)) + x2)) (f 16 (ix (800 + x2)))))) res))))))) : RC call (mP 278) 69 [some (vR 0), some (vI x1), some (vI x2)] [] (LR z f) res := by
  refine rc_b (i' := 72) (ls' := [some (vR 0), some (vI x1), some (vI x2)]) (st' := [vI (z 26), vI x2]) (L' := LR z f) 3 (bc69_278_1 call x1 x2 z f) ?_
  refine rc_if (it := 105) (ie := 73) (ls' := [some (vR 0), some (vI x1), some (vI x2)]) (st' := []) (bc69_278_2 call x2 (z 26) _ _) (fun q1 => ?_) (fun q1 => ?_)
  · have H := H.1 (cI3t q1 rfl rfl)
    refine rc_b (i' := 110) (ls' := [some (vR 0), some (vI x1), some (vI x2)]) (st' := [vI x1, vI (z 25), vR 10]) (L' := LR z f) 5 (bc69_278_3 call x1 x2 z f) ?_
    obtain ⟨g1, H⟩ := H
    refine rc_g (i' := 111) (ls' := [some (vR 0), some (vI x1), some (vI x2)]) (st' := []) (L' := LR z (uA f 10 (upd (f 10) (ix (z 25)) x1))) (bc69_278_4 call (z 25) x1 _ z f) (pinG g1) ?_
    subst H
    exact rc_ret (bc69_278_5 call _ _)
  · have H := H.2 (cI3f q1 rfl rfl)
    refine rc_b (i' := 86) (ls' := [some (vR 0), some (vI x1), some (vI x2)]) (st' := [vI (800 + x2), vR 15, vI ((400 * (z 25)) + x2), vR 15]) (L' := LR z f) 13 (bc69_278_6 call x1 x2 z f) ?_
    obtain ⟨g1, H⟩ := H
    refine rc_g (i' := 87) (ls' := [some (vR 0), some (vI x1), some (vI x2)]) (st' := [vI (f 15 (ix (800 + x2))), vI ((400 * (z 25)) + x2), vR 15]) (L' := LR z f) (bc69_278_7 call (800 + x2) ((400 * (z 25)) + x2) _ z f) (pinG g1) ?_
    obtain ⟨g1, H⟩ := H
    refine rc_g (i' := 88) (ls' := [some (vR 0), some (vI x1), some (vI x2)]) (st' := []) (L' := LR z (uA f 15 (upd (f 15) (ix ((400 * (z 25)) + x2)) (f 15 (ix (800 + x2)))))) (bc69_278_8 call ((400 * (z 25)) + x2) (f 15 (ix (800 + x2))) _ z f) (pinG g1) ?_
    refine rc_b (i' := 101) (ls' := [some (vR 0), some (vI x1), some (vI x2)]) (st' := [vI (800 + x2), vR 16, vI ((400 * (z 25)) + x2), vR 16]) (L' := LR z (uA f 15 (upd (f 15) (ix ((400 * (z 25)) + x2)) (f 15 (ix (800 + x2)))))) 13 (bc69_278_9 call x1 x2 z (uA f 15 (upd (f 15) (ix ((400 * (z 25)) + x2)) (f 15 (ix (800 + x2)))))) ?_
    obtain ⟨g1, H⟩ := H
    refine rc_g (i' := 102) (ls' := [some (vR 0), some (vI x1), some (vI x2)]) (st' := [vI (f 16 (ix (800 + x2))), vI ((400 * (z 25)) + x2), vR 16]) (L' := LR z (uA f 15 (upd (f 15) (ix ((400 * (z 25)) + x2)) (f 15 (ix (800 + x2)))))) (bc69_278_10 call (800 + x2) ((400 * (z 25)) + x2) _ z (uA f 15 (upd (f 15) (ix ((400 * (z 25)) + x2)) (f 15 (ix (800 + x2)))))) (pinG g1) ?_
    obtain ⟨g1, H⟩ := H
    refine rc_g (i' := 103) (ls' := [some (vR 0), some (vI x1), some (vI x2)]) (st' := []) (L' := LR z (uA (uA f 15 (upd (f 15) (ix ((400 * (z 25)) + x2)) (f 15 (ix (800 + x2))))) 16 (upd (f 16) (ix ((400 * (z 25)) + x2)) (f 16 (ix (800 + x2)))))) (bc69_278_11 call ((400 * (z 25)) + x2) (f 16 (ix (800 + x2))) _ z (uA f 15 (upd (f 15) (ix ((400 * (z 25)) + x2)) (f 15 (ix (800 + x2)))))) (pinG g1) ?_
    refine rc_b (i' := 104) (ls' := [some (vR 0), some (vI x1), some (vI (x2 + 1))]) (st' := []) (L' := LR z (uA (uA f 15 (upd (f 15) (ix ((400 * (z 25)) + x2)) (f 15 (ix (800 + x2))))) 16 (upd (f 16) (ix ((400 * (z 25)) + x2)) (f 16 (ix (800 + x2)))))) 1 (bc69_278_12 call x1 x2 _) ?_
    refine rc_b (i' := 69) (ls' := [some (vR 0), some (vI x1), some (vI (x2 + 1))]) (st' := []) (L' := LR z (uA (uA f 15 (upd (f 15) (ix ((400 * (z 25)) + x2)) (f 15 (ix (800 + x2))))) 16 (upd (f 16) (ix ((400 * (z 25)) + x2)) (f 16 (ix (800 + x2)))))) 1 (bc69_278_13 call x1 (x2 + 1) _) ?_
    exact H
/-- a row whose first n are those from s on -/
def cpr (g : FA) (s n : Nat) : FA := fun j => if j < n then g (s + j) else g j
theorem cpr_0 (g : FA) (s : Nat) : cpr g s 0 = g := by
  funext j
  exact if_neg (by omega)
theorem cpr_s {g : FA} {s n : Nat} : upd (cpr g s n) n (cpr g s n (s + n)) = cpr g s (n + 1) := by
  funext j
  have e1 : cpr g s n (s + n) = g (s + n) := if_neg (by omega)
  rw [e1]
  by_cases e : j = n
  · subst e
    rw [pk_us]
    exact (if_pos (by omega)).symm
  · rw [pk_un e]
    unfold cpr
    by_cases c : j < n
    · rw [if_pos c, if_pos (by omega)]
    · rw [if_neg c, if_neg (by omega)]
def F1 (n : Nat) (f : Nat → FA) : Nat → FA := uA (uA (uA (uA f 11 (cpr (f 11) 32 n)) 12 (cpr (f 12) 32 n)) 13 (cpr (f 13) 32 n)) 14 (cpr (f 14) 32 n)
def F2 (n : Nat) (f : Nat → FA) : Nat → FA := uA (uA f 15 (cpr (f 15) 800 n)) 16 (cpr (f 16) 800 n)
theorem F1_o {n : Nat} {f : Nat → FA} {k : Nat} (h : k < 11 ∨ 14 < k) : F1 n f k = f k := by
  unfold F1
  rw [uA_ne (by omega), uA_ne (by omega), uA_ne (by omega), uA_ne (by omega)]
theorem F1_i {n : Nat} {f : Nat → FA} {k : Nat} (h : 11 ≤ k ∧ k ≤ 14) : F1 n f k = cpr (f k) 32 n := by
  have : k = 11 ∨ k = 12 ∨ k = 13 ∨ k = 14 := by omega
  rcases this with rfl | rfl | rfl | rfl <;> rfl
theorem F2_o {n : Nat} {f : Nat → FA} {k : Nat} (h : k ≠ 15 ∧ k ≠ 16) : F2 n f k = f k := by
  unfold F2
  rw [uA_ne (by omega), uA_ne (by omega)]
theorem F2_i {n : Nat} {f : Nat → FA} {k : Nat} (h : k = 15 ∨ k = 16) : F2 n f k = cpr (f k) 800 n := by
  rcases h with rfl | rfl <;> rfl
theorem F1_s (n : Nat) (f : Nat → FA) : uA (uA (uA (uA (F1 n f) 11 (upd (F1 n f 11) n (F1 n f 11 (32 + n)))) 12 (upd (F1 n f 12) n (F1 n f 12 (32 + n)))) 13 (upd (F1 n f 13) n (F1 n f 13 (32 + n)))) 14 (upd (F1 n f 14) n (F1 n f 14 (32 + n))) = F1 (n + 1) f := by
  rw [F1_i (k := 11) (by omega), F1_i (k := 12) (by omega), F1_i (k := 13) (by omega), F1_i (k := 14) (by omega), cpr_s, cpr_s, cpr_s, cpr_s]
  funext k
  by_cases h : 11 ≤ k ∧ k ≤ 14
  · have : k = 11 ∨ k = 12 ∨ k = 13 ∨ k = 14 := by omega
    rcases this with rfl | rfl | rfl | rfl <;> rfl
  · rw [F1_o (by omega), uA_ne (by omega), uA_ne (by omega), uA_ne (by omega), uA_ne (by omega), F1_o (by omega)]
theorem F2_s (n : Nat) (f : Nat → FA) : uA (uA (F2 n f) 15 (upd (F2 n f 15) n (F2 n f 15 (800 + n)))) 16 (upd (F2 n f 16) n (F2 n f 16 (800 + n))) = F2 (n + 1) f := by
  rw [F2_i (k := 15) (by omega), F2_i (k := 16) (by omega), cpr_s, cpr_s]
  funext k
  by_cases h : k = 15 ∨ k = 16
  · rcases h with rfl | rfl <;> rfl
  · rw [F2_o (by omega), uA_ne (by omega), uA_ne (by omega), F2_o (by omega)]
theorem F1_0 (f : Nat → FA) : F1 0 f = f := by
  funext k
  by_cases h : 11 ≤ k ∧ k ≤ 14
  · rw [F1_i h, cpr_0]
  · rw [F1_o (by omega)]
theorem F2_0 (f : Nat → FA) : F2 0 f = f := by
  funext k
  by_cases h : k = 15 ∨ k = 16
  · rw [F2_i h, cpr_0]
  · rw [F2_o (by omega)]
theorem tl69 (call : QC FA) (x1 : Int32) (z : Nat → Int32) (f : Nat → FA) (c : Nat) (hz : z 25 = 0) (hc : z 26 = nI c) (h4 : c ≤ 400) : ∀ t n, n + t = c → RC call (mP 278) 69 [some (vR 0), some (vI x1), some (vI (nI n))] [] (LR z (F2 n f)) (none, LR z (uA (F2 c f) 10 (upd (f 10) 0 x1))) := by
  have ic := I_nI (n := c) (by omega)
  intro t
  induction t with
  | zero =>
    intro n hn
    obtain rfl : n = c := by omega
    refine vcc69_278_69 _ _ _ _ _ _ ?_
    rw [hz, hc, ic]
    exact ⟨fun _ => ⟨by decide, rfl⟩, fun q => by omega⟩
  | succ t ih =>
    intro n hn
    have i2 := I_nI (n := n) (by omega)
    have e8 : (800 : Int32) + nI n = nI (800 + n) := nI_add 800 n
    have e0 : (400 : Int32) * 0 + nI n = nI n := by rw [show (400 * 0 : Int32) = nI 0 from rfl, nI_add 0 n, Nat.zero_add]
    refine vcc69_278_69 _ _ _ _ _ _ ?_
    rw [hz, hc, ic, i2, e8, e0, ix_nI (j := n) (by omega), ix_nI (j := 800 + n) (by omega), show nI n + 1 = nI (n + 1) from nI_add n 1, F2_s]
    exact ⟨fun q => by omega, fun _ => ⟨pin_nI (by omega) (by omega), pin_nI (by omega) (by omega), pin_nI (by omega) (by omega), pin_nI (by omega) (by omega), ih (n + 1) (by omega)⟩⟩
theorem tl2 (call : QC FA) (z : Nat → Int32) (f : Nat → FA) (c k : Nat) (hz : z 25 = 0) (hc : z 26 = nI c) (h4 : c ≤ 400) (hk : k ≤ 16) : ∀ t n, n + t = k → RC call (mP 278) 2 [some (vR 0), some (vI (nI k)), some (vI (nI n))] [] (LR z (F1 n f)) (none, LR z (uA (F2 c (F1 k f)) 10 (upd (f 10) 0 (nI k)))) := by
  have ik := I_nI (n := k) (by omega)
  intro t
  induction t with
  | zero =>
    intro n hn
    obtain rfl : n = k := by omega
    refine vcc2_278_2 _ _ _ _ _ _ ?_
    rw [ik]
    have key := tl69 call (nI n) z (F1 n f) c hz hc h4 c 0 (by omega)
    rw [F2_0, F1_o (k := 10) (by omega)] at key
    exact ⟨fun _ => key, fun q => by omega⟩
  | succ t ih =>
    intro n hn
    have i2 := I_nI (n := n) (by omega)
    have e8 : (32 : Int32) + nI n = nI (32 + n) := nI_add 32 n
    have e0 : (16 : Int32) * 0 + nI n = nI n := by rw [show (16 * 0 : Int32) = nI 0 from rfl, nI_add 0 n, Nat.zero_add]
    refine vcc2_278_2 _ _ _ _ _ _ ?_
    rw [hz, ik, i2, e8, e0, ix_nI (j := n) (by omega), ix_nI (j := 32 + n) (by omega), show nI n + 1 = nI (n + 1) from nI_add n 1, F1_s]
    have p1 : pin (nI (32 + n)) 48 = true := pin_nI (by omega) (by omega)
    have p2 : pin (nI n) 48 = true := pin_nI (by omega) (by omega)
    exact ⟨fun q => by omega, fun _ => ⟨p1, p2, p1, p2, p1, p2, p1, p2, ih (n + 1) (by omega)⟩⟩
theorem takesLaw_r (d0 c k : Nat) (z : Nat → Int32) (f : Nat → FA) (hz : z 25 = 0) (hc : z 26 = nI c) (h4 : c ≤ 400) (hk : k ≤ 16) : mcall (d0 + 1) 278 [vR 0, vI (nI k)] (LR z f) = some (none, LR z (uA (F2 c (F1 k f)) 10 (upd (f 10) 0 (nI k)))) := by
  have key := tl2 (mcall d0) z f c k hz hc h4 hk k 0 (by omega)
  rw [F1_0] at key
  exact mcall_i (mq278 (cu := [])).2.2 rfl (vc278_0 _ _ _ _ _ _ key)
/-- the law that was read is in force, and well formed -/
theorem takes_LWm {k c : Nat} {f : Nat → FA} (h : LWd k c f) (hc : c ≤ 400) : LWm 0 k (uA (F2 c (F1 k f)) 10 (upd (f 10) 0 (nI k))) := by
  have e15 : ∀ r, r = 15 ∨ r = 16 → (uA (F2 c (F1 k f)) 10 (upd (f 10) 0 (nI k))) r = cpr (f r) 800 c := fun r hr => by
    rw [uA_ne (by omega), F2_i hr, F1_o (by omega)]
  have e12 : ∀ r, 11 ≤ r ∧ r ≤ 14 → (uA (F2 c (F1 k f)) 10 (upd (f 10) 0 (nI k))) r = cpr (f r) 32 k := fun r hr => by
    rw [uA_ne (by omega), F2_o (by omega), F1_i hr]
  intro l hl
  obtain ⟨a, b, e, h1, h2, h3, h4, h5, h6, ⟨d1, h7⟩, d2, h8⟩ := h l hl
  have dp : ∀ i n d, i + n ≤ c → DP (sh 800 (f 15)) (sh 800 (f 16)) i n = some d → DP (sh (400 * 0) ((uA (F2 c (F1 k f)) 10 (upd (f 10) 0 (nI k))) 15)) (sh (400 * 0) ((uA (F2 c (F1 k f)) 10 (upd (f 10) 0 (nI k))) 16)) i n = some d := by
    intro i n d hn hd
    rw [e15 15 (by omega), e15 16 (by omega), sh0, sh0, DP_eq (o' := cpr (f 15) 800 c) (a' := cpr (f 16) 800 c) (o := sh 800 (f 15)) (a := sh 800 (f 16)) n (fun j _ hj => ⟨if_pos (by omega), if_pos (by omega)⟩)]
    exact hd
  refine ⟨a, b, e, ?_, ?_, ?_, h4, h5, by omega, ⟨d1, dp _ _ _ (by omega) h7⟩, d2, dp _ _ _ (by omega) h8⟩
  · rw [e12 12 (by omega), Nat.mul_zero, Nat.zero_add]; exact (if_pos hl).trans h1
  · rw [e12 13 (by omega), Nat.mul_zero, Nat.zero_add]; exact (if_pos hl).trans h2
  · rw [e12 14 (by omega), Nat.mul_zero, Nat.zero_add]; exact (if_pos hl).trans h3
