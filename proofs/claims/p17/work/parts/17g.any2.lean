/-! a condition, to its end -/
set_option maxRecDepth 100000 in
theorem b251_1 (call : QC FA) (o1 : Option PV) (o2 : Option PV) (o3 : Option PV) (L : QH FA) (F : Nat) : rnG call 251 (F + 4) 0 [some (vR 0), o1, o2, o3] [] L = rnG call 251 F 4 [some (vR 0), some (vI 0), o2, o3] [vI 0, vR 0] L := rfl
set_option maxRecDepth 100000 in
theorem b251_2 (call : QC FA) (y : Int32) (ls : List (Option PV)) (z : Nat → Int32) (f : Nat → FA) (F : Nat) : rnG call 251 (F + 1) 4 ls [vI y, vR 0] (LR z f) = rnG call 251 F 5 ls [] (LR (uZ z 29 y) f) := rfl
set_option maxRecDepth 100000 in
theorem b251_3 (call : QC FA) (x1 : Int32) (o2 : Option PV) (o3 : Option PV) (L : QH FA) (F : Nat) : rnG call 251 (F + 2) 5 [some (vR 0), some (vI x1), o2, o3] [] L = rnG call 251 F 7 [some (vR 0), some (vI x1), some (vI 1), o3] [] L := rfl
theorem vc251_0 (d : Nat) (o1 : Option PV) (o2 : Option PV) (o3 : Option PV) (z : Nat → Int32) (f : Nat → FA) (res : Option PV × QH FA) (H : RC (mcall (d + 7)) (mP 251) 7 [some (vR 0), some (vI 0), some (vI 1), o3] [] (LR (uZ z 29 0) f) res) : RC (mcall (d + 7)) (mP 251) 0 [some (vR 0), o1, o2, o3] [] (LR z f) res := by
  refine rc_b (i' := 4) (ls' := [some (vR 0), some (vI 0), o2, o3]) (st' := [vI 0, vR 0]) (L' := LR z f) 4 (b251_1 (mcall (d + 7)) o1 o2 o3 _) ?_
  refine rc_b (i' := 5) (ls' := [some (vR 0), some (vI 0), o2, o3]) (st' := []) (L' := LR (uZ z 29 0) f) 1 (b251_2 (mcall (d + 7)) 0 _ z f) ?_
  refine rc_b (i' := 7) (ls' := [some (vR 0), some (vI 0), some (vI 1), o3]) (st' := []) (L' := LR (uZ z 29 0) f) 2 (b251_3 (mcall (d + 7)) 0 o2 o3 _) ?_
  exact H
set_option maxRecDepth 100000 in
theorem bc7_251_1 (call : QC FA) (x1 : Int32) (x2 : Int32) (o3 : Option PV) (L : QH FA) (F : Nat) : rnG call 251 (F + 1) 7 [some (vR 0), some (vI x1), some (vI x2), o3] [] L = rnG call 251 F 8 [some (vR 0), some (vI x1), some (vI x2), o3] [vI x2] L := rfl
set_option maxRecDepth 100000 in
theorem bc7_251_2 (call : QC FA) (x : Int32) (ls : List (Option PV)) (L : QH FA) (F : Nat) : rnG call 251 (F + 1) 8 ls [vI x] L = bif pcmp 0 x 0 then rnG call 251 F 61 ls [] L else rnG call 251 F 9 ls [] L := rfl
set_option maxRecDepth 100000 in
theorem bc7_251_3 (call : QC FA) (x1 : Int32) (x2 : Int32) (o3 : Option PV) (L : QH FA) (F : Nat) : rnG call 251 (F + 2) 9 [some (vR 0), some (vI x1), some (vI x2), o3] [] L = rnG call 251 F 11 [some (vR 0), some (vI x1), some (vI x2), o3] [vI 6, vR 0] L := rfl
set_option maxRecDepth 100000 in
theorem bc7_251_4 (call : QC FA) (a0 : Int32) (ls : List (Option PV)) (z : Nat → Int32) (f : Nat → FA) (F : Nat) : rnG call 251 (F + 1) 11 ls [vI a0, vR 0] (LR z f) = cbd (call 228 [vR 0, vI a0] (LR z f)) (fun r L' => rnG call 251 F 12 ls (r.toList ++ []) L') := pcY (ih := rnG call 251 F) (call := call) (a := 228) (b := 1) (v := 12) (t := 12) (x := 0) (ls := ls) (As := [vI a0]) (st' := []) (L := LR z f) rfl rfl rfl
set_option maxRecDepth 100000 in
theorem bc7_251_5 (call : QC FA) (x1 : Int32) (x2 : Int32) (o3 : Option PV) (s0 : Int32) (L : QH FA) (F : Nat) : rnG call 251 (F + 2) 12 [some (vR 0), some (vI x1), some (vI x2), o3] [vI s0] L = rnG call 251 F 14 [some (vR 0), some (vI x1), some (vI x2), some (vI s0)] [vI s0] L := rfl
set_option maxRecDepth 100000 in
theorem bc7_251_6 (call : QC FA) (x : Int32) (ls : List (Option PV)) (L : QH FA) (F : Nat) : rnG call 251 (F + 1) 14 ls [vI x] L = bif pcmp 1 x 0 then rnG call 251 F 19 ls [] L else rnG call 251 F 15 ls [] L := rfl
set_option maxRecDepth 100000 in
theorem bc7_251_7 (call : QC FA) (x1 : Int32) (x2 : Int32) (x3 : Int32) (z : Nat → Int32) (f : Nat → FA) (F : Nat) : rnG call 251 (F + 3) 19 [some (vR 0), some (vI x1), some (vI x2), some (vI x3)] [] (LR z f) = rnG call 251 F 22 [some (vR 0), some (vI x1), some (vI x2), some (vI x3)] [vI 8, vI (z 27)] (LR z f) := rfl
set_option maxRecDepth 100000 in
theorem bc7_251_8 (call : QC FA) (x y : Int32) (ls : List (Option PV)) (L : QH FA) (F : Nat) : rnG call 251 (F + 1) 22 ls [vI y, vI x] L = bif pcmp 1 x y then rnG call 251 F 27 ls [] L else rnG call 251 F 23 ls [] L := rfl
set_option maxRecDepth 100000 in
theorem bc7_251_9 (call : QC FA) (x1 : Int32) (x2 : Int32) (x3 : Int32) (z : Nat → Int32) (f : Nat → FA) (F : Nat) : rnG call 251 (F + 5) 27 [some (vR 0), some (vI x1), some (vI x2), some (vI x3)] [] (LR z f) = rnG call 251 F 32 [some (vR 0), some (vI x1), some (vI x2), some (vI x3)] [vI ((z 27) + 1), vR 0] (LR z f) := rfl
set_option maxRecDepth 100000 in
theorem bc7_251_10 (call : QC FA) (y : Int32) (ls : List (Option PV)) (z : Nat → Int32) (f : Nat → FA) (F : Nat) : rnG call 251 (F + 1) 32 ls [vI y, vR 0] (LR z f) = rnG call 251 F 33 ls [] (LR (uZ z 27 y) f) := rfl
set_option maxRecDepth 100000 in
theorem bc7_251_11 (call : QC FA) (x1 : Int32) (x2 : Int32) (x3 : Int32) (L : QH FA) (F : Nat) : rnG call 251 (F + 1) 33 [some (vR 0), some (vI x1), some (vI x2), some (vI x3)] [] L = rnG call 251 F 34 [some (vR 0), some (vI x1), some (vI x2), some (vI x3)] [vI x3] L := rfl
set_option maxRecDepth 100000 in
theorem bc7_251_12 (call : QC FA) (x : Int32) (ls : List (Option PV)) (L : QH FA) (F : Nat) : rnG call 251 (F + 1) 34 ls [vI x] L = bif pcmp 1 x 0 then rnG call 251 F 39 ls [] L else rnG call 251 F 35 ls [] L := rfl
set_option maxRecDepth 100000 in
theorem bc7_251_13 (call : QC FA) (x1 : Int32) (x2 : Int32) (x3 : Int32) (L : QH FA) (F : Nat) : rnG call 251 (F + 2) 39 [some (vR 0), some (vI x1), some (vI x2), some (vI x3)] [] L = rnG call 251 F 41 [some (vR 0), some (vI x1), some (vI x2), some (vI x3)] [vI x3, vR 0] L := rfl
set_option maxRecDepth 100000 in
theorem bc7_251_14 (call : QC FA) (x : Int32) (ls : List (Option PV)) (L : QH FA) (F : Nat) : rnG call 251 (F + 1) 41 ls [vI x, vR 0] L = bif pcmp 0 x 0 then rnG call 251 F 44 ls [vR 0] L else rnG call 251 F 42 ls [vR 0] L := rfl
set_option maxRecDepth 100000 in
theorem bc7_251_15 (call : QC FA) (x1 : Int32) (x2 : Int32) (x3 : Int32) (L : QH FA) (F : Nat) : rnG call 251 (F + 2) 42 [some (vR 0), some (vI x1), some (vI x2), some (vI x3)] [vR 0] L = rnG call 251 F 45 [some (vR 0), some (vI x1), some (vI x2), some (vI x3)] [vI 9, vR 0] L := rfl
set_option maxRecDepth 100000 in
theorem bc7_251_16 (call : QC FA) (a0 : Int32) (ls : List (Option PV)) (z : Nat → Int32) (f : Nat → FA) (F : Nat) : rnG call 251 (F + 1) 45 ls [vI a0, vR 0] (LR z f) = cbd (call 285 [vR 0, vI a0] (LR z f)) (fun r L' => rnG call 251 F 46 ls (r.toList ++ []) L') := pcY (ih := rnG call 251 F) (call := call) (a := 285) (b := 1) (v := 12) (t := 46) (x := 0) (ls := ls) (As := [vI a0]) (st' := []) (L := LR z f) rfl rfl rfl
set_option maxRecDepth 100000 in
theorem bc7_251_17 (call : QC FA) (x1 : Int32) (x2 : Int32) (x3 : Int32) (L : QH FA) (F : Nat) : rnG call 251 (F + 1) 46 [some (vR 0), some (vI x1), some (vI x2), some (vI x3)] [] L = rnG call 251 F 47 [some (vR 0), some (vI x1), some (vI x2), some (vI x3)] [vR 0] L := rfl
set_option maxRecDepth 100000 in
theorem bc7_251_18 (call : QC FA) (ls : List (Option PV)) (z : Nat → Int32) (f : Nat → FA) (F : Nat) : rnG call 251 (F + 1) 47 ls [vR 0] (LR z f) = cbd (call 269 [vR 0] (LR z f)) (fun r L' => rnG call 251 F 48 ls (r.toList ++ []) L') := pcY (ih := rnG call 251 F) (call := call) (a := 269) (b := 0) (v := 12) (t := 48) (x := 0) (ls := ls) (As := []) (st' := []) (L := LR z f) rfl rfl rfl
set_option maxRecDepth 100000 in
theorem bc7_251_19 (call : QC FA) (x1 : Int32) (x2 : Int32) (x3 : Int32) (L : QH FA) (F : Nat) : rnG call 251 (F + 1) 48 [some (vR 0), some (vI x1), some (vI x2), some (vI x3)] [] L = rnG call 251 F 7 [some (vR 0), some (vI x1), some (vI x2), some (vI x3)] [] L := rfl
set_option maxRecDepth 100000 in
theorem bc7_251_20 (call : QC FA) (x1 : Int32) (x2 : Int32) (x3 : Int32) (L : QH FA) (F : Nat) : rnG call 251 (F + 2) 23 [some (vR 0), some (vI x1), some (vI x2), some (vI x3)] [] L = rnG call 251 F 25 [some (vR 0), some (vI x1), some (vI x2), some (vI x3)] [vI 3, vR 0] L := rfl
set_option maxRecDepth 100000 in
theorem bc7_251_21 (call : QC FA) (a0 : Int32) (ls : List (Option PV)) (z : Nat → Int32) (f : Nat → FA) (F : Nat) : rnG call 251 (F + 1) 25 ls [vI a0, vR 0] (LR z f) = cbd (call 208 [vR 0, vI a0] (LR z f)) (fun r L' => rnG call 251 F 26 ls (r.toList ++ []) L') := pcY (ih := rnG call 251 F) (call := call) (a := 208) (b := 1) (v := 12) (t := 26) (x := 0) (ls := ls) (As := [vI a0]) (st' := []) (L := LR z f) rfl rfl rfl
set_option maxRecDepth 100000 in
theorem bc7_251_22 (call : QC FA) (x : Int32) (ls : List (Option PV)) (L : QH FA) (F : Nat) : rnG call 251 (F + 1) 26 ls [vI x] L = some (some (vI x), L) := rfl
set_option maxRecDepth 100000 in
theorem bc7_251_23 (call : QC FA) (x1 : Int32) (x2 : Int32) (x3 : Int32) (L : QH FA) (F : Nat) : rnG call 251 (F + 2) 15 [some (vR 0), some (vI x1), some (vI x2), some (vI x3)] [] L = rnG call 251 F 17 [some (vR 0), some (vI x1), some (vI x2), some (vI x3)] [vI 40, vR 0] L := rfl
set_option maxRecDepth 100000 in
theorem bc7_251_24 (call : QC FA) (a0 : Int32) (ls : List (Option PV)) (z : Nat → Int32) (f : Nat → FA) (F : Nat) : rnG call 251 (F + 1) 17 ls [vI a0, vR 0] (LR z f) = cbd (call 226 [vR 0, vI a0] (LR z f)) (fun r L' => rnG call 251 F 18 ls (r.toList ++ []) L') := pcY (ih := rnG call 251 F) (call := call) (a := 226) (b := 1) (v := 12) (t := 18) (x := 0) (ls := ls) (As := [vI a0]) (st' := []) (L := LR z f) rfl rfl rfl
set_option maxRecDepth 100000 in
theorem bc7_251_25 (call : QC FA) (x : Int32) (ls : List (Option PV)) (L : QH FA) (F : Nat) : rnG call 251 (F + 1) 18 ls [vI x] L = bif pcmp 0 x 0 then rnG call 251 F 49 ls [] L else rnG call 251 F 19 ls [] L := rfl
set_option maxRecDepth 100000 in
theorem bc7_251_26 (call : QC FA) (x1 : Int32) (x2 : Int32) (x3 : Int32) (L : QH FA) (F : Nat) : rnG call 251 (F + 1) 49 [some (vR 0), some (vI x1), some (vI x2), some (vI x3)] [] L = rnG call 251 F 50 [some (vR 0), some (vI x1), some (vI x2), some (vI x3)] [vR 0] L := rfl
set_option maxRecDepth 100000 in
theorem bc7_251_27 (call : QC FA) (ls : List (Option PV)) (z : Nat → Int32) (f : Nat → FA) (F : Nat) : rnG call 251 (F + 1) 50 ls [vR 0] (LR z f) = cbd (call 252 [vR 0] (LR z f)) (fun r L' => rnG call 251 F 51 ls (r.toList ++ []) L') := pcY (ih := rnG call 251 F) (call := call) (a := 252) (b := 0) (v := 12) (t := 51) (x := 0) (ls := ls) (As := []) (st' := []) (L := LR z f) rfl rfl rfl
set_option maxRecDepth 100000 in
theorem bc7_251_28 (call : QC FA) (x1 : Int32) (x2 : Int32) (x3 : Int32) (s0 : Int32) (L : QH FA) (F : Nat) : rnG call 251 (F + 1) 51 [some (vR 0), some (vI x1), some (vI x2), some (vI x3)] [vI s0] L = rnG call 251 F 52 [some (vR 0), some (vI x1), some (vI x2), some (vI x3)] [vI ((-1)), vI s0] L := rfl
set_option maxRecDepth 100000 in
theorem bc7_251_29 (call : QC FA) (x y : Int32) (ls : List (Option PV)) (L : QH FA) (F : Nat) : rnG call 251 (F + 1) 52 ls [vI y, vI x] L = bif pcmp 1 x y then rnG call 251 F 55 ls [] L else rnG call 251 F 53 ls [] L := rfl
set_option maxRecDepth 100000 in
theorem bc7_251_30 (call : QC FA) (x1 : Int32) (x2 : Int32) (x3 : Int32) (L : QH FA) (F : Nat) : rnG call 251 (F + 2) 55 [some (vR 0), some (vI x1), some (vI x2), some (vI x3)] [] L = rnG call 251 F 57 [some (vR 0), some (vI x1), some (vI x2), some (vI x3)] [vI 9, vR 0] L := rfl
set_option maxRecDepth 100000 in
theorem bc7_251_31 (call : QC FA) (a0 : Int32) (ls : List (Option PV)) (z : Nat → Int32) (f : Nat → FA) (F : Nat) : rnG call 251 (F + 1) 57 ls [vI a0, vR 0] (LR z f) = cbd (call 273 [vR 0, vI a0] (LR z f)) (fun r L' => rnG call 251 F 58 ls (r.toList ++ []) L') := pcY (ih := rnG call 251 F) (call := call) (a := 273) (b := 1) (v := 12) (t := 58) (x := 0) (ls := ls) (As := [vI a0]) (st' := []) (L := LR z f) rfl rfl rfl
set_option maxRecDepth 100000 in
theorem bc7_251_32 (call : QC FA) (x1 : Int32) (x2 : Int32) (x3 : Int32) (L : QH FA) (F : Nat) : rnG call 251 (F + 3) 58 [some (vR 0), some (vI x1), some (vI x2), some (vI x3)] [] L = rnG call 251 F 7 [some (vR 0), some (vI x1), some (vI 0), some (vI x3)] [] L := rfl
set_option maxRecDepth 100000 in
theorem bc7_251_33 (call : QC FA) (x1 : Int32) (x2 : Int32) (x3 : Int32) (L : QH FA) (F : Nat) : rnG call 251 (F + 1) 53 [some (vR 0), some (vI x1), some (vI x2), some (vI x3)] [] L = rnG call 251 F 54 [some (vR 0), some (vI x1), some (vI x2), some (vI x3)] [vI ((-1))] L := rfl
set_option maxRecDepth 100000 in
theorem bc7_251_34 (call : QC FA) (x : Int32) (ls : List (Option PV)) (L : QH FA) (F : Nat) : rnG call 251 (F + 1) 54 ls [vI x] L = some (some (vI x), L) := rfl
set_option maxRecDepth 100000 in
theorem bc7_251_35 (call : QC FA) (x1 : Int32) (x2 : Int32) (x3 : Int32) (L : QH FA) (F : Nat) : rnG call 251 (F + 6) 35 [some (vR 0), some (vI x1), some (vI x2), some (vI x3)] [] L = rnG call 251 F 41 [some (vR 0), some (vI (x1 + 1)), some (vI x2), some (vI x3)] [vI x3, vR 0] L := rfl
set_option maxRecDepth 100000 in
theorem bc7_251_36 (call : QC FA) (x1 : Int32) (x2 : Int32) (x3 : Int32) (L : QH FA) (F : Nat) : rnG call 251 (F + 1) 44 [some (vR 0), some (vI x1), some (vI x2), some (vI x3)] [vR 0] L = rnG call 251 F 45 [some (vR 0), some (vI x1), some (vI x2), some (vI x3)] [vI 12, vR 0] L := rfl
theorem vcc7_251_7 (d : Nat) (x1 : Int32) (x2 : Int32) (o3 : Option PV) (z : Nat → Int32) (f : Nat → FA) (res : Option PV × QH FA) (H : ((x2 = 0 → RC (mcall (d + 7)) (mP 251) 61 [some (vR 0), some (vI x1), some (vI x2), o3] [] (LR z f) res) ∧ (¬ x2 = 0 → (((z 15 = 2 ∧ z 16 = 6) → ((¬ z 27 = 8 → (∃ (z1 : Nat → Int32) (f1 : Nat → FA), (mcall (d + 7)) 285 [vR 0, vI 9] (LR (uZ z 27 ((z 27) + 1)) f) = some (none, LR z1 f1) ∧ (∃ (z2 : Nat → Int32) (f2 : Nat → FA), (mcall (d + 7)) 269 [vR 0] (LR z1 f1) = some (none, LR z2 f2) ∧ RC (mcall (d + 7)) (mP 251) 7 [some (vR 0), some (vI x1), some (vI x2), some (vI (bI (z 15 = 2 ∧ z 16 = 6)))] [] (LR z2 f2) res))) ∧ (z 27 = 8 → (∃ (r3 : Int32) (z3 : Nat → Int32) (f3 : Nat → FA), (mcall (d + 7)) 208 [vR 0, vI 3] (LR z f) = some (some (vI r3), LR z3 f3) ∧ res = (some (vI r3), LR z3 f3))))) ∧ ((¬ (z 15 = 2 ∧ z 16 = 6)) → (((z 15 = 4 ∧ z 16 = 40) → ((¬ z 27 = 8 → (∃ (z6 : Nat → Int32) (f6 : Nat → FA), (mcall (d + 7)) 285 [vR 0, vI 12] (LR (uZ z 27 ((z 27) + 1)) f) = some (none, LR z6 f6) ∧ (∃ (z7 : Nat → Int32) (f7 : Nat → FA), (mcall (d + 7)) 269 [vR 0] (LR z6 f6) = some (none, LR z7 f7) ∧ RC (mcall (d + 7)) (mP 251) 7 [some (vR 0), some (vI (x1 + 1)), some (vI x2), some (vI (bI (z 15 = 2 ∧ z 16 = 6)))] [] (LR z7 f7) res))) ∧ (z 27 = 8 → (∃ (r8 : Int32) (z8 : Nat → Int32) (f8 : Nat → FA), (mcall (d + 7)) 208 [vR 0, vI 3] (LR z f) = some (some (vI r8), LR z8 f8) ∧ res = (some (vI r8), LR z8 f8))))) ∧ ((¬ (z 15 = 4 ∧ z 16 = 40)) → (∃ (r4 : Int32) (z4 : Nat → Int32) (f4 : Nat → FA), (mcall (d + 7)) 252 [vR 0] (LR z f) = some (some (vI r4), LR z4 f4) ∧ ((¬ r4 = (-1) → (∃ (z5 : Nat → Int32) (f5 : Nat → FA), (mcall (d + 7)) 273 [vR 0, vI 9] (LR z4 f4) = some (none, LR z5 f5) ∧ RC (mcall (d + 7)) (mP 251) 7 [some (vR 0), some (vI x1), some (vI 0), some (vI (bI (z 15 = 2 ∧ z 16 = 6)))] [] (LR z5 f5) res)) ∧ (r4 = (-1) → res = (some (vI ((-1))), LR z4 f4))))))))))) : RC (mcall (d + 7)) (mP 251) 7 [some (vR 0), some (vI x1), some (vI x2), o3] [] (LR z f) res := by
  refine rc_b (i' := 8) (ls' := [some (vR 0), some (vI x1), some (vI x2), o3]) (st' := [vI x2]) (L' := LR z f) 1 (bc7_251_1 (mcall (d + 7)) x1 x2 o3 _) ?_
  refine rc_if (it := 61) (ie := 9) (ls' := [some (vR 0), some (vI x1), some (vI x2), o3]) (st' := []) (bc7_251_2 (mcall (d + 7)) x2 _ _) (fun q1 => ?_) (fun q1 => ?_)
  · have H := H.1 (cI0t q1)
    exact H
  · have H := H.2 (cI0f q1)
    refine rc_b (i' := 11) (ls' := [some (vR 0), some (vI x1), some (vI x2), o3]) (st' := [vI 6, vR 0]) (L' := LR z f) 2 (bc7_251_3 (mcall (d + 7)) x1 x2 o3 _) ?_
    refine rc_call (t := 12) (ls' := [some (vR 0), some (vI x1), some (vI x2), o3]) (st' := []) (bc7_251_4 (mcall (d + 7)) 6 _ z f) (isWord_r _ 6 z f) ?_
    show RC (mcall (d + 7)) (mP 251) 12 [some (vR 0), some (vI x1), some (vI x2), o3] [vI (bI (z 15 = 2 ∧ z 16 = 6))] (LR z f) res
    refine rc_b (i' := 14) (ls' := [some (vR 0), some (vI x1), some (vI x2), some (vI (bI (z 15 = 2 ∧ z 16 = 6)))]) (st' := [vI (bI (z 15 = 2 ∧ z 16 = 6))]) (L' := LR z f) 2 (bc7_251_5 (mcall (d + 7)) x1 x2 o3 (bI (z 15 = 2 ∧ z 16 = 6)) _) ?_
    refine rc_bn (it := 19) (ie := 15) (ls' := [some (vR 0), some (vI x1), some (vI x2), some (vI (bI (z 15 = 2 ∧ z 16 = 6)))]) (st' := []) (bc7_251_6 (mcall (d + 7)) (bI (z 15 = 2 ∧ z 16 = 6)) _ _) (fun q2 => ?_) (fun q2 => ?_)
    · have H := H.1 q2
      refine rc_b (i' := 22) (ls' := [some (vR 0), some (vI x1), some (vI x2), some (vI (bI (z 15 = 2 ∧ z 16 = 6)))]) (st' := [vI 8, vI (z 27)]) (L' := LR z f) 3 (bc7_251_7 (mcall (d + 7)) x1 x2 (bI (z 15 = 2 ∧ z 16 = 6)) z f) ?_
      refine rc_if (it := 27) (ie := 23) (ls' := [some (vR 0), some (vI x1), some (vI x2), some (vI (bI (z 15 = 2 ∧ z 16 = 6)))]) (st' := []) (bc7_251_8 (mcall (d + 7)) (z 27) 8 _ _) (fun q3 => ?_) (fun q3 => ?_)
      · have H := H.1 (cI1t q3)
        refine rc_b (i' := 32) (ls' := [some (vR 0), some (vI x1), some (vI x2), some (vI (bI (z 15 = 2 ∧ z 16 = 6)))]) (st' := [vI ((z 27) + 1), vR 0]) (L' := LR z f) 5 (bc7_251_9 (mcall (d + 7)) x1 x2 (bI (z 15 = 2 ∧ z 16 = 6)) z f) ?_
        refine rc_b (i' := 33) (ls' := [some (vR 0), some (vI x1), some (vI x2), some (vI (bI (z 15 = 2 ∧ z 16 = 6)))]) (st' := []) (L' := LR (uZ z 27 ((z 27) + 1)) f) 1 (bc7_251_10 (mcall (d + 7)) ((z 27) + 1) _ z f) ?_
        refine rc_b (i' := 34) (ls' := [some (vR 0), some (vI x1), some (vI x2), some (vI (bI (z 15 = 2 ∧ z 16 = 6)))]) (st' := [vI (bI (z 15 = 2 ∧ z 16 = 6))]) (L' := LR (uZ z 27 ((z 27) + 1)) f) 1 (bc7_251_11 (mcall (d + 7)) x1 x2 (bI (z 15 = 2 ∧ z 16 = 6)) _) ?_
        refine rc_bnT (it := 39) (ie := 35) (ls' := [some (vR 0), some (vI x1), some (vI x2), some (vI (bI (z 15 = 2 ∧ z 16 = 6)))]) (st' := []) (bc7_251_12 (mcall (d + 7)) (bI (z 15 = 2 ∧ z 16 = 6)) _ _) (q2) ?_
        refine rc_b (i' := 41) (ls' := [some (vR 0), some (vI x1), some (vI x2), some (vI (bI (z 15 = 2 ∧ z 16 = 6)))]) (st' := [vI (bI (z 15 = 2 ∧ z 16 = 6)), vR 0]) (L' := LR (uZ z 27 ((z 27) + 1)) f) 2 (bc7_251_13 (mcall (d + 7)) x1 x2 (bI (z 15 = 2 ∧ z 16 = 6)) _) ?_
        refine rc_bzT (it := 44) (ie := 42) (ls' := [some (vR 0), some (vI x1), some (vI x2), some (vI (bI (z 15 = 2 ∧ z 16 = 6)))]) (st' := [vR 0]) (bc7_251_14 (mcall (d + 7)) (bI (z 15 = 2 ∧ z 16 = 6)) _ _) (q2) ?_
        refine rc_b (i' := 45) (ls' := [some (vR 0), some (vI x1), some (vI x2), some (vI (bI (z 15 = 2 ∧ z 16 = 6)))]) (st' := [vI 9, vR 0]) (L' := LR (uZ z 27 ((z 27) + 1)) f) 2 (bc7_251_15 (mcall (d + 7)) x1 x2 (bI (z 15 = 2 ∧ z 16 = 6)) _) ?_
        obtain ⟨z1, f1, hc, H⟩ := H
        refine rc_call (t := 46) (ls' := [some (vR 0), some (vI x1), some (vI x2), some (vI (bI (z 15 = 2 ∧ z 16 = 6)))]) (st' := []) (bc7_251_16 (mcall (d + 7)) 9 _ (uZ z 27 ((z 27) + 1)) f) hc ?_
        show RC (mcall (d + 7)) (mP 251) 46 [some (vR 0), some (vI x1), some (vI x2), some (vI (bI (z 15 = 2 ∧ z 16 = 6)))] [] (LR z1 f1) res
        refine rc_b (i' := 47) (ls' := [some (vR 0), some (vI x1), some (vI x2), some (vI (bI (z 15 = 2 ∧ z 16 = 6)))]) (st' := [vR 0]) (L' := LR z1 f1) 1 (bc7_251_17 (mcall (d + 7)) x1 x2 (bI (z 15 = 2 ∧ z 16 = 6)) _) ?_
        obtain ⟨z2, f2, hc, H⟩ := H
        refine rc_call (t := 48) (ls' := [some (vR 0), some (vI x1), some (vI x2), some (vI (bI (z 15 = 2 ∧ z 16 = 6)))]) (st' := []) (bc7_251_18 (mcall (d + 7)) _ z1 f1) hc ?_
        show RC (mcall (d + 7)) (mP 251) 48 [some (vR 0), some (vI x1), some (vI x2), some (vI (bI (z 15 = 2 ∧ z 16 = 6)))] [] (LR z2 f2) res
        refine rc_b (i' := 7) (ls' := [some (vR 0), some (vI x1), some (vI x2), some (vI (bI (z 15 = 2 ∧ z 16 = 6)))]) (st' := []) (L' := LR z2 f2) 1 (bc7_251_19 (mcall (d + 7)) x1 x2 (bI (z 15 = 2 ∧ z 16 = 6)) _) ?_
        exact H
      · have H := H.2 (cI1f q3)
        refine rc_b (i' := 25) (ls' := [some (vR 0), some (vI x1), some (vI x2), some (vI (bI (z 15 = 2 ∧ z 16 = 6)))]) (st' := [vI 3, vR 0]) (L' := LR z f) 2 (bc7_251_20 (mcall (d + 7)) x1 x2 (bI (z 15 = 2 ∧ z 16 = 6)) _) ?_
        obtain ⟨r3, z3, f3, hc, H⟩ := H
        refine rc_call (t := 26) (ls' := [some (vR 0), some (vI x1), some (vI x2), some (vI (bI (z 15 = 2 ∧ z 16 = 6)))]) (st' := []) (bc7_251_21 (mcall (d + 7)) 3 _ z f) hc ?_
        show RC (mcall (d + 7)) (mP 251) 26 [some (vR 0), some (vI x1), some (vI x2), some (vI (bI (z 15 = 2 ∧ z 16 = 6)))] [vI r3] (LR z3 f3) res
        subst H
        exact rc_ret (bc7_251_22 (mcall (d + 7)) _ _ _)
    · have H := H.2 q2
      refine rc_b (i' := 17) (ls' := [some (vR 0), some (vI x1), some (vI x2), some (vI (bI (z 15 = 2 ∧ z 16 = 6)))]) (st' := [vI 40, vR 0]) (L' := LR z f) 2 (bc7_251_23 (mcall (d + 7)) x1 x2 (bI (z 15 = 2 ∧ z 16 = 6)) _) ?_
      refine rc_call (t := 18) (ls' := [some (vR 0), some (vI x1), some (vI x2), some (vI (bI (z 15 = 2 ∧ z 16 = 6)))]) (st' := []) (bc7_251_24 (mcall (d + 7)) 40 _ z f) (isSign_r _ 40 z f) ?_
      show RC (mcall (d + 7)) (mP 251) 18 [some (vR 0), some (vI x1), some (vI x2), some (vI (bI (z 15 = 2 ∧ z 16 = 6)))] [vI (bI (z 15 = 4 ∧ z 16 = 40))] (LR z f) res
      refine rc_bz (it := 49) (ie := 19) (ls' := [some (vR 0), some (vI x1), some (vI x2), some (vI (bI (z 15 = 2 ∧ z 16 = 6)))]) (st' := []) (bc7_251_25 (mcall (d + 7)) (bI (z 15 = 4 ∧ z 16 = 40)) _ _) (fun q4 => ?_) (fun q4 => ?_)
      · have H := H.2 q4
        refine rc_b (i' := 50) (ls' := [some (vR 0), some (vI x1), some (vI x2), some (vI (bI (z 15 = 2 ∧ z 16 = 6)))]) (st' := [vR 0]) (L' := LR z f) 1 (bc7_251_26 (mcall (d + 7)) x1 x2 (bI (z 15 = 2 ∧ z 16 = 6)) _) ?_
        obtain ⟨r4, z4, f4, hc, H⟩ := H
        refine rc_call (t := 51) (ls' := [some (vR 0), some (vI x1), some (vI x2), some (vI (bI (z 15 = 2 ∧ z 16 = 6)))]) (st' := []) (bc7_251_27 (mcall (d + 7)) _ z f) hc ?_
        show RC (mcall (d + 7)) (mP 251) 51 [some (vR 0), some (vI x1), some (vI x2), some (vI (bI (z 15 = 2 ∧ z 16 = 6)))] [vI r4] (LR z4 f4) res
        refine rc_b (i' := 52) (ls' := [some (vR 0), some (vI x1), some (vI x2), some (vI (bI (z 15 = 2 ∧ z 16 = 6)))]) (st' := [vI ((-1)), vI r4]) (L' := LR z4 f4) 1 (bc7_251_28 (mcall (d + 7)) x1 x2 (bI (z 15 = 2 ∧ z 16 = 6)) r4 _) ?_
        refine rc_if (it := 55) (ie := 53) (ls' := [some (vR 0), some (vI x1), some (vI x2), some (vI (bI (z 15 = 2 ∧ z 16 = 6)))]) (st' := []) (bc7_251_29 (mcall (d + 7)) r4 ((-1)) _ _) (fun q5 => ?_) (fun q5 => ?_)
        · have H := H.1 (cI1t q5)
          refine rc_b (i' := 57) (ls' := [some (vR 0), some (vI x1), some (vI x2), some (vI (bI (z 15 = 2 ∧ z 16 = 6)))]) (st' := [vI 9, vR 0]) (L' := LR z4 f4) 2 (bc7_251_30 (mcall (d + 7)) x1 x2 (bI (z 15 = 2 ∧ z 16 = 6)) _) ?_
          obtain ⟨z5, f5, hc, H⟩ := H
          refine rc_call (t := 58) (ls' := [some (vR 0), some (vI x1), some (vI x2), some (vI (bI (z 15 = 2 ∧ z 16 = 6)))]) (st' := []) (bc7_251_31 (mcall (d + 7)) 9 _ z4 f4) hc ?_
          show RC (mcall (d + 7)) (mP 251) 58 [some (vR 0), some (vI x1), some (vI x2), some (vI (bI (z 15 = 2 ∧ z 16 = 6)))] [] (LR z5 f5) res
          refine rc_b (i' := 7) (ls' := [some (vR 0), some (vI x1), some (vI 0), some (vI (bI (z 15 = 2 ∧ z 16 = 6)))]) (st' := []) (L' := LR z5 f5) 3 (bc7_251_32 (mcall (d + 7)) x1 x2 (bI (z 15 = 2 ∧ z 16 = 6)) _) ?_
          exact H
        · have H := H.2 (cI1f q5)
          refine rc_b (i' := 54) (ls' := [some (vR 0), some (vI x1), some (vI x2), some (vI (bI (z 15 = 2 ∧ z 16 = 6)))]) (st' := [vI ((-1))]) (L' := LR z4 f4) 1 (bc7_251_33 (mcall (d + 7)) x1 x2 (bI (z 15 = 2 ∧ z 16 = 6)) _) ?_
          subst H
          exact rc_ret (bc7_251_34 (mcall (d + 7)) _ _ _)
      · have H := H.1 q4
        refine rc_b (i' := 22) (ls' := [some (vR 0), some (vI x1), some (vI x2), some (vI (bI (z 15 = 2 ∧ z 16 = 6)))]) (st' := [vI 8, vI (z 27)]) (L' := LR z f) 3 (bc7_251_7 (mcall (d + 7)) x1 x2 (bI (z 15 = 2 ∧ z 16 = 6)) z f) ?_
        refine rc_if (it := 27) (ie := 23) (ls' := [some (vR 0), some (vI x1), some (vI x2), some (vI (bI (z 15 = 2 ∧ z 16 = 6)))]) (st' := []) (bc7_251_8 (mcall (d + 7)) (z 27) 8 _ _) (fun q6 => ?_) (fun q6 => ?_)
        · have H := H.1 (cI1t q6)
          refine rc_b (i' := 32) (ls' := [some (vR 0), some (vI x1), some (vI x2), some (vI (bI (z 15 = 2 ∧ z 16 = 6)))]) (st' := [vI ((z 27) + 1), vR 0]) (L' := LR z f) 5 (bc7_251_9 (mcall (d + 7)) x1 x2 (bI (z 15 = 2 ∧ z 16 = 6)) z f) ?_
          refine rc_b (i' := 33) (ls' := [some (vR 0), some (vI x1), some (vI x2), some (vI (bI (z 15 = 2 ∧ z 16 = 6)))]) (st' := []) (L' := LR (uZ z 27 ((z 27) + 1)) f) 1 (bc7_251_10 (mcall (d + 7)) ((z 27) + 1) _ z f) ?_
          refine rc_b (i' := 34) (ls' := [some (vR 0), some (vI x1), some (vI x2), some (vI (bI (z 15 = 2 ∧ z 16 = 6)))]) (st' := [vI (bI (z 15 = 2 ∧ z 16 = 6))]) (L' := LR (uZ z 27 ((z 27) + 1)) f) 1 (bc7_251_11 (mcall (d + 7)) x1 x2 (bI (z 15 = 2 ∧ z 16 = 6)) _) ?_
          refine rc_bnF (it := 39) (ie := 35) (ls' := [some (vR 0), some (vI x1), some (vI x2), some (vI (bI (z 15 = 2 ∧ z 16 = 6)))]) (st' := []) (bc7_251_12 (mcall (d + 7)) (bI (z 15 = 2 ∧ z 16 = 6)) _ _) (q2) ?_
          refine rc_b (i' := 41) (ls' := [some (vR 0), some (vI (x1 + 1)), some (vI x2), some (vI (bI (z 15 = 2 ∧ z 16 = 6)))]) (st' := [vI (bI (z 15 = 2 ∧ z 16 = 6)), vR 0]) (L' := LR (uZ z 27 ((z 27) + 1)) f) 6 (bc7_251_35 (mcall (d + 7)) x1 x2 (bI (z 15 = 2 ∧ z 16 = 6)) _) ?_
          refine rc_bzF (it := 44) (ie := 42) (ls' := [some (vR 0), some (vI (x1 + 1)), some (vI x2), some (vI (bI (z 15 = 2 ∧ z 16 = 6)))]) (st' := [vR 0]) (bc7_251_14 (mcall (d + 7)) (bI (z 15 = 2 ∧ z 16 = 6)) _ _) (q2) ?_
          refine rc_b (i' := 45) (ls' := [some (vR 0), some (vI (x1 + 1)), some (vI x2), some (vI (bI (z 15 = 2 ∧ z 16 = 6)))]) (st' := [vI 12, vR 0]) (L' := LR (uZ z 27 ((z 27) + 1)) f) 1 (bc7_251_36 (mcall (d + 7)) (x1 + 1) x2 (bI (z 15 = 2 ∧ z 16 = 6)) _) ?_
          obtain ⟨z6, f6, hc, H⟩ := H
          refine rc_call (t := 46) (ls' := [some (vR 0), some (vI (x1 + 1)), some (vI x2), some (vI (bI (z 15 = 2 ∧ z 16 = 6)))]) (st' := []) (bc7_251_16 (mcall (d + 7)) 12 _ (uZ z 27 ((z 27) + 1)) f) hc ?_
          show RC (mcall (d + 7)) (mP 251) 46 [some (vR 0), some (vI (x1 + 1)), some (vI x2), some (vI (bI (z 15 = 2 ∧ z 16 = 6)))] [] (LR z6 f6) res
          refine rc_b (i' := 47) (ls' := [some (vR 0), some (vI (x1 + 1)), some (vI x2), some (vI (bI (z 15 = 2 ∧ z 16 = 6)))]) (st' := [vR 0]) (L' := LR z6 f6) 1 (bc7_251_17 (mcall (d + 7)) (x1 + 1) x2 (bI (z 15 = 2 ∧ z 16 = 6)) _) ?_
          obtain ⟨z7, f7, hc, H⟩ := H
          refine rc_call (t := 48) (ls' := [some (vR 0), some (vI (x1 + 1)), some (vI x2), some (vI (bI (z 15 = 2 ∧ z 16 = 6)))]) (st' := []) (bc7_251_18 (mcall (d + 7)) _ z6 f6) hc ?_
          show RC (mcall (d + 7)) (mP 251) 48 [some (vR 0), some (vI (x1 + 1)), some (vI x2), some (vI (bI (z 15 = 2 ∧ z 16 = 6)))] [] (LR z7 f7) res
          refine rc_b (i' := 7) (ls' := [some (vR 0), some (vI (x1 + 1)), some (vI x2), some (vI (bI (z 15 = 2 ∧ z 16 = 6)))]) (st' := []) (L' := LR z7 f7) 1 (bc7_251_19 (mcall (d + 7)) (x1 + 1) x2 (bI (z 15 = 2 ∧ z 16 = 6)) _) ?_
          exact H
        · have H := H.2 (cI1f q6)
          refine rc_b (i' := 25) (ls' := [some (vR 0), some (vI x1), some (vI x2), some (vI (bI (z 15 = 2 ∧ z 16 = 6)))]) (st' := [vI 3, vR 0]) (L' := LR z f) 2 (bc7_251_20 (mcall (d + 7)) x1 x2 (bI (z 15 = 2 ∧ z 16 = 6)) _) ?_
          obtain ⟨r8, z8, f8, hc, H⟩ := H
          refine rc_call (t := 26) (ls' := [some (vR 0), some (vI x1), some (vI x2), some (vI (bI (z 15 = 2 ∧ z 16 = 6)))]) (st' := []) (bc7_251_21 (mcall (d + 7)) 3 _ z f) hc ?_
          show RC (mcall (d + 7)) (mP 251) 26 [some (vR 0), some (vI x1), some (vI x2), some (vI (bI (z 15 = 2 ∧ z 16 = 6)))] [vI r8] (LR z8 f8) res
          subst H
          exact rc_ret (bc7_251_22 (mcall (d + 7)) _ _ _)
set_option maxRecDepth 100000 in
theorem bc61_251_1 (call : QC FA) (x1 : Int32) (x2 : Int32) (o3 : Option PV) (L : QH FA) (F : Nat) : rnG call 251 (F + 2) 61 [some (vR 0), some (vI x1), some (vI x2), o3] [] L = rnG call 251 F 63 [some (vR 0), some (vI x1), some (vI x2), o3] [vI 5, vR 0] L := rfl
set_option maxRecDepth 100000 in
theorem bc61_251_2 (call : QC FA) (a0 : Int32) (ls : List (Option PV)) (z : Nat → Int32) (f : Nat → FA) (F : Nat) : rnG call 251 (F + 1) 63 ls [vI a0, vR 0] (LR z f) = cbd (call 228 [vR 0, vI a0] (LR z f)) (fun r L' => rnG call 251 F 64 ls (r.toList ++ []) L') := pcY (ih := rnG call 251 F) (call := call) (a := 228) (b := 1) (v := 12) (t := 64) (x := 0) (ls := ls) (As := [vI a0]) (st' := []) (L := LR z f) rfl rfl rfl
set_option maxRecDepth 100000 in
theorem bc61_251_3 (call : QC FA) (x : Int32) (ls : List (Option PV)) (L : QH FA) (F : Nat) : rnG call 251 (F + 1) 64 ls [vI x] L = bif pcmp 0 x 0 then rnG call 251 F 76 ls [] L else rnG call 251 F 65 ls [] L := rfl
set_option maxRecDepth 100000 in
theorem bc61_251_4 (call : QC FA) (x1 : Int32) (x2 : Int32) (o3 : Option PV) (L : QH FA) (F : Nat) : rnG call 251 (F + 2) 76 [some (vR 0), some (vI x1), some (vI x2), o3] [] L = rnG call 251 F 78 [some (vR 0), some (vI x1), some (vI x2), o3] [vI 4, vR 0] L := rfl
set_option maxRecDepth 100000 in
theorem bc61_251_5 (call : QC FA) (a0 : Int32) (ls : List (Option PV)) (z : Nat → Int32) (f : Nat → FA) (F : Nat) : rnG call 251 (F + 1) 78 ls [vI a0, vR 0] (LR z f) = cbd (call 228 [vR 0, vI a0] (LR z f)) (fun r L' => rnG call 251 F 79 ls (r.toList ++ []) L') := pcY (ih := rnG call 251 F) (call := call) (a := 228) (b := 1) (v := 12) (t := 79) (x := 0) (ls := ls) (As := [vI a0]) (st' := []) (L := LR z f) rfl rfl rfl
set_option maxRecDepth 100000 in
theorem bc61_251_6 (call : QC FA) (x : Int32) (ls : List (Option PV)) (L : QH FA) (F : Nat) : rnG call 251 (F + 1) 79 ls [vI x] L = bif pcmp 0 x 0 then rnG call 251 F 94 ls [] L else rnG call 251 F 80 ls [] L := rfl
set_option maxRecDepth 100000 in
theorem bc61_251_7 (call : QC FA) (x1 : Int32) (x2 : Int32) (o3 : Option PV) (L : QH FA) (F : Nat) : rnG call 251 (F + 2) 80 [some (vR 0), some (vI x1), some (vI x2), o3] [] L = rnG call 251 F 82 [some (vR 0), some (vI x1), some (vI x2), o3] [vI 10, vR 0] L := rfl
set_option maxRecDepth 100000 in
theorem bc61_251_8 (call : QC FA) (a0 : Int32) (ls : List (Option PV)) (z : Nat → Int32) (f : Nat → FA) (F : Nat) : rnG call 251 (F + 1) 82 ls [vI a0, vR 0] (LR z f) = cbd (call 273 [vR 0, vI a0] (LR z f)) (fun r L' => rnG call 251 F 83 ls (r.toList ++ []) L') := pcY (ih := rnG call 251 F) (call := call) (a := 273) (b := 1) (v := 12) (t := 83) (x := 0) (ls := ls) (As := [vI a0]) (st' := []) (L := LR z f) rfl rfl rfl
set_option maxRecDepth 100000 in
theorem bc61_251_9 (call : QC FA) (x1 : Int32) (x2 : Int32) (o3 : Option PV) (L : QH FA) (F : Nat) : rnG call 251 (F + 2) 83 [some (vR 0), some (vI x1), some (vI x2), o3] [] L = rnG call 251 F 85 [some (vR 0), some (vI x1), some (vI x2), o3] [vI 11, vR 0] L := rfl
set_option maxRecDepth 100000 in
theorem bc61_251_10 (call : QC FA) (a0 : Int32) (ls : List (Option PV)) (z : Nat → Int32) (f : Nat → FA) (F : Nat) : rnG call 251 (F + 1) 85 ls [vI a0, vR 0] (LR z f) = cbd (call 273 [vR 0, vI a0] (LR z f)) (fun r L' => rnG call 251 F 86 ls (r.toList ++ []) L') := pcY (ih := rnG call 251 F) (call := call) (a := 273) (b := 1) (v := 12) (t := 86) (x := 0) (ls := ls) (As := [vI a0]) (st' := []) (L := LR z f) rfl rfl rfl
set_option maxRecDepth 100000 in
theorem bc61_251_11 (call : QC FA) (x1 : Int32) (x2 : Int32) (o3 : Option PV) (L : QH FA) (F : Nat) : rnG call 251 (F + 2) 86 [some (vR 0), some (vI x1), some (vI x2), o3] [] L = rnG call 251 F 88 [some (vR 0), some (vI x1), some (vI x2), o3] [vI 11, vR 0] L := rfl
set_option maxRecDepth 100000 in
theorem bc61_251_12 (call : QC FA) (a0 : Int32) (ls : List (Option PV)) (z : Nat → Int32) (f : Nat → FA) (F : Nat) : rnG call 251 (F + 1) 88 ls [vI a0, vR 0] (LR z f) = cbd (call 285 [vR 0, vI a0] (LR z f)) (fun r L' => rnG call 251 F 89 ls (r.toList ++ []) L') := pcY (ih := rnG call 251 F) (call := call) (a := 285) (b := 1) (v := 12) (t := 89) (x := 0) (ls := ls) (As := [vI a0]) (st' := []) (L := LR z f) rfl rfl rfl
set_option maxRecDepth 100000 in
theorem bc61_251_13 (call : QC FA) (x1 : Int32) (x2 : Int32) (o3 : Option PV) (L : QH FA) (F : Nat) : rnG call 251 (F + 1) 89 [some (vR 0), some (vI x1), some (vI x2), o3] [] L = rnG call 251 F 90 [some (vR 0), some (vI x1), some (vI x2), o3] [vR 0] L := rfl
set_option maxRecDepth 100000 in
theorem bc61_251_14 (call : QC FA) (ls : List (Option PV)) (z : Nat → Int32) (f : Nat → FA) (F : Nat) : rnG call 251 (F + 1) 90 ls [vR 0] (LR z f) = cbd (call 269 [vR 0] (LR z f)) (fun r L' => rnG call 251 F 91 ls (r.toList ++ []) L') := pcY (ih := rnG call 251 F) (call := call) (a := 269) (b := 0) (v := 12) (t := 91) (x := 0) (ls := ls) (As := []) (st' := []) (L := LR z f) rfl rfl rfl
set_option maxRecDepth 100000 in
theorem bc61_251_15 (call : QC FA) (x1 : Int32) (x2 : Int32) (o3 : Option PV) (L : QH FA) (F : Nat) : rnG call 251 (F + 3) 91 [some (vR 0), some (vI x1), some (vI x2), o3] [] L = rnG call 251 F 7 [some (vR 0), some (vI x1), some (vI 1), o3] [] L := rfl
set_option maxRecDepth 100000 in
theorem bc61_251_16 (call : QC FA) (x1 : Int32) (x2 : Int32) (o3 : Option PV) (L : QH FA) (F : Nat) : rnG call 251 (F + 2) 65 [some (vR 0), some (vI x1), some (vI x2), o3] [] L = rnG call 251 F 67 [some (vR 0), some (vI x1), some (vI x2), o3] [vI 10, vR 0] L := rfl
set_option maxRecDepth 100000 in
theorem bc61_251_17 (call : QC FA) (a0 : Int32) (ls : List (Option PV)) (z : Nat → Int32) (f : Nat → FA) (F : Nat) : rnG call 251 (F + 1) 67 ls [vI a0, vR 0] (LR z f) = cbd (call 273 [vR 0, vI a0] (LR z f)) (fun r L' => rnG call 251 F 68 ls (r.toList ++ []) L') := pcY (ih := rnG call 251 F) (call := call) (a := 273) (b := 1) (v := 12) (t := 68) (x := 0) (ls := ls) (As := [vI a0]) (st' := []) (L := LR z f) rfl rfl rfl
set_option maxRecDepth 100000 in
theorem bc61_251_18 (call : QC FA) (x1 : Int32) (x2 : Int32) (o3 : Option PV) (L : QH FA) (F : Nat) : rnG call 251 (F + 2) 68 [some (vR 0), some (vI x1), some (vI x2), o3] [] L = rnG call 251 F 70 [some (vR 0), some (vI x1), some (vI x2), o3] [vI 10, vR 0] L := rfl
set_option maxRecDepth 100000 in
theorem bc61_251_19 (call : QC FA) (a0 : Int32) (ls : List (Option PV)) (z : Nat → Int32) (f : Nat → FA) (F : Nat) : rnG call 251 (F + 1) 70 ls [vI a0, vR 0] (LR z f) = cbd (call 285 [vR 0, vI a0] (LR z f)) (fun r L' => rnG call 251 F 71 ls (r.toList ++ []) L') := pcY (ih := rnG call 251 F) (call := call) (a := 285) (b := 1) (v := 12) (t := 71) (x := 0) (ls := ls) (As := [vI a0]) (st' := []) (L := LR z f) rfl rfl rfl
set_option maxRecDepth 100000 in
theorem bc61_251_20 (call : QC FA) (x1 : Int32) (x2 : Int32) (o3 : Option PV) (L : QH FA) (F : Nat) : rnG call 251 (F + 1) 71 [some (vR 0), some (vI x1), some (vI x2), o3] [] L = rnG call 251 F 72 [some (vR 0), some (vI x1), some (vI x2), o3] [vR 0] L := rfl
set_option maxRecDepth 100000 in
theorem bc61_251_21 (call : QC FA) (ls : List (Option PV)) (z : Nat → Int32) (f : Nat → FA) (F : Nat) : rnG call 251 (F + 1) 72 ls [vR 0] (LR z f) = cbd (call 269 [vR 0] (LR z f)) (fun r L' => rnG call 251 F 73 ls (r.toList ++ []) L') := pcY (ih := rnG call 251 F) (call := call) (a := 269) (b := 0) (v := 12) (t := 73) (x := 0) (ls := ls) (As := []) (st' := []) (L := LR z f) rfl rfl rfl
set_option maxRecDepth 100000 in
theorem bc61_251_22 (call : QC FA) (x1 : Int32) (x2 : Int32) (o3 : Option PV) (L : QH FA) (F : Nat) : rnG call 251 (F + 3) 73 [some (vR 0), some (vI x1), some (vI x2), o3] [] L = rnG call 251 F 7 [some (vR 0), some (vI x1), some (vI 1), o3] [] L := rfl
theorem vcc61_251_61 (d : Nat) (x1 : Int32) (x2 : Int32) (o3 : Option PV) (z : Nat → Int32) (f : Nat → FA) (res : Option PV × QH FA) (H : (((z 15 = 2 ∧ z 16 = 5) → (∃ (z5 : Nat → Int32) (f5 : Nat → FA), (mcall (d + 7)) 273 [vR 0, vI 10] (LR z f) = some (none, LR z5 f5) ∧ (∃ (z6 : Nat → Int32) (f6 : Nat → FA), (mcall (d + 7)) 285 [vR 0, vI 10] (LR z5 f5) = some (none, LR z6 f6) ∧ (∃ (z7 : Nat → Int32) (f7 : Nat → FA), (mcall (d + 7)) 269 [vR 0] (LR z6 f6) = some (none, LR z7 f7) ∧ RC (mcall (d + 7)) (mP 251) 7 [some (vR 0), some (vI x1), some (vI 1), o3] [] (LR z7 f7) res)))) ∧ ((¬ (z 15 = 2 ∧ z 16 = 5)) → (((z 15 = 2 ∧ z 16 = 4) → (∃ (z1 : Nat → Int32) (f1 : Nat → FA), (mcall (d + 7)) 273 [vR 0, vI 10] (LR z f) = some (none, LR z1 f1) ∧ (∃ (z2 : Nat → Int32) (f2 : Nat → FA), (mcall (d + 7)) 273 [vR 0, vI 11] (LR z1 f1) = some (none, LR z2 f2) ∧ (∃ (z3 : Nat → Int32) (f3 : Nat → FA), (mcall (d + 7)) 285 [vR 0, vI 11] (LR z2 f2) = some (none, LR z3 f3) ∧ (∃ (z4 : Nat → Int32) (f4 : Nat → FA), (mcall (d + 7)) 269 [vR 0] (LR z3 f3) = some (none, LR z4 f4) ∧ RC (mcall (d + 7)) (mP 251) 7 [some (vR 0), some (vI x1), some (vI 1), o3] [] (LR z4 f4) res))))) ∧ ((¬ (z 15 = 2 ∧ z 16 = 4)) → RC (mcall (d + 7)) (mP 251) 94 [some (vR 0), some (vI x1), some (vI x2), o3] [] (LR z f) res))))) : RC (mcall (d + 7)) (mP 251) 61 [some (vR 0), some (vI x1), some (vI x2), o3] [] (LR z f) res := by
  refine rc_b (i' := 63) (ls' := [some (vR 0), some (vI x1), some (vI x2), o3]) (st' := [vI 5, vR 0]) (L' := LR z f) 2 (bc61_251_1 (mcall (d + 7)) x1 x2 o3 _) ?_
  refine rc_call (t := 64) (ls' := [some (vR 0), some (vI x1), some (vI x2), o3]) (st' := []) (bc61_251_2 (mcall (d + 7)) 5 _ z f) (isWord_r _ 5 z f) ?_
  show RC (mcall (d + 7)) (mP 251) 64 [some (vR 0), some (vI x1), some (vI x2), o3] [vI (bI (z 15 = 2 ∧ z 16 = 5))] (LR z f) res
  refine rc_bz (it := 76) (ie := 65) (ls' := [some (vR 0), some (vI x1), some (vI x2), o3]) (st' := []) (bc61_251_3 (mcall (d + 7)) (bI (z 15 = 2 ∧ z 16 = 5)) _ _) (fun q1 => ?_) (fun q1 => ?_)
  · have H := H.2 q1
    refine rc_b (i' := 78) (ls' := [some (vR 0), some (vI x1), some (vI x2), o3]) (st' := [vI 4, vR 0]) (L' := LR z f) 2 (bc61_251_4 (mcall (d + 7)) x1 x2 o3 _) ?_
    refine rc_call (t := 79) (ls' := [some (vR 0), some (vI x1), some (vI x2), o3]) (st' := []) (bc61_251_5 (mcall (d + 7)) 4 _ z f) (isWord_r _ 4 z f) ?_
    show RC (mcall (d + 7)) (mP 251) 79 [some (vR 0), some (vI x1), some (vI x2), o3] [vI (bI (z 15 = 2 ∧ z 16 = 4))] (LR z f) res
    refine rc_bz (it := 94) (ie := 80) (ls' := [some (vR 0), some (vI x1), some (vI x2), o3]) (st' := []) (bc61_251_6 (mcall (d + 7)) (bI (z 15 = 2 ∧ z 16 = 4)) _ _) (fun q2 => ?_) (fun q2 => ?_)
    · have H := H.2 q2
      exact H
    · have H := H.1 q2
      refine rc_b (i' := 82) (ls' := [some (vR 0), some (vI x1), some (vI x2), o3]) (st' := [vI 10, vR 0]) (L' := LR z f) 2 (bc61_251_7 (mcall (d + 7)) x1 x2 o3 _) ?_
      obtain ⟨z1, f1, hc, H⟩ := H
      refine rc_call (t := 83) (ls' := [some (vR 0), some (vI x1), some (vI x2), o3]) (st' := []) (bc61_251_8 (mcall (d + 7)) 10 _ z f) hc ?_
      show RC (mcall (d + 7)) (mP 251) 83 [some (vR 0), some (vI x1), some (vI x2), o3] [] (LR z1 f1) res
      refine rc_b (i' := 85) (ls' := [some (vR 0), some (vI x1), some (vI x2), o3]) (st' := [vI 11, vR 0]) (L' := LR z1 f1) 2 (bc61_251_9 (mcall (d + 7)) x1 x2 o3 _) ?_
      obtain ⟨z2, f2, hc, H⟩ := H
      refine rc_call (t := 86) (ls' := [some (vR 0), some (vI x1), some (vI x2), o3]) (st' := []) (bc61_251_10 (mcall (d + 7)) 11 _ z1 f1) hc ?_
      show RC (mcall (d + 7)) (mP 251) 86 [some (vR 0), some (vI x1), some (vI x2), o3] [] (LR z2 f2) res
      refine rc_b (i' := 88) (ls' := [some (vR 0), some (vI x1), some (vI x2), o3]) (st' := [vI 11, vR 0]) (L' := LR z2 f2) 2 (bc61_251_11 (mcall (d + 7)) x1 x2 o3 _) ?_
      obtain ⟨z3, f3, hc, H⟩ := H
      refine rc_call (t := 89) (ls' := [some (vR 0), some (vI x1), some (vI x2), o3]) (st' := []) (bc61_251_12 (mcall (d + 7)) 11 _ z2 f2) hc ?_
      show RC (mcall (d + 7)) (mP 251) 89 [some (vR 0), some (vI x1), some (vI x2), o3] [] (LR z3 f3) res
      refine rc_b (i' := 90) (ls' := [some (vR 0), some (vI x1), some (vI x2), o3]) (st' := [vR 0]) (L' := LR z3 f3) 1 (bc61_251_13 (mcall (d + 7)) x1 x2 o3 _) ?_
      obtain ⟨z4, f4, hc, H⟩ := H
      refine rc_call (t := 91) (ls' := [some (vR 0), some (vI x1), some (vI x2), o3]) (st' := []) (bc61_251_14 (mcall (d + 7)) _ z3 f3) hc ?_
      show RC (mcall (d + 7)) (mP 251) 91 [some (vR 0), some (vI x1), some (vI x2), o3] [] (LR z4 f4) res
      refine rc_b (i' := 7) (ls' := [some (vR 0), some (vI x1), some (vI 1), o3]) (st' := []) (L' := LR z4 f4) 3 (bc61_251_15 (mcall (d + 7)) x1 x2 o3 _) ?_
      exact H
  · have H := H.1 q1
    refine rc_b (i' := 67) (ls' := [some (vR 0), some (vI x1), some (vI x2), o3]) (st' := [vI 10, vR 0]) (L' := LR z f) 2 (bc61_251_16 (mcall (d + 7)) x1 x2 o3 _) ?_
    obtain ⟨z5, f5, hc, H⟩ := H
    refine rc_call (t := 68) (ls' := [some (vR 0), some (vI x1), some (vI x2), o3]) (st' := []) (bc61_251_17 (mcall (d + 7)) 10 _ z f) hc ?_
    show RC (mcall (d + 7)) (mP 251) 68 [some (vR 0), some (vI x1), some (vI x2), o3] [] (LR z5 f5) res
    refine rc_b (i' := 70) (ls' := [some (vR 0), some (vI x1), some (vI x2), o3]) (st' := [vI 10, vR 0]) (L' := LR z5 f5) 2 (bc61_251_18 (mcall (d + 7)) x1 x2 o3 _) ?_
    obtain ⟨z6, f6, hc, H⟩ := H
    refine rc_call (t := 71) (ls' := [some (vR 0), some (vI x1), some (vI x2), o3]) (st' := []) (bc61_251_19 (mcall (d + 7)) 10 _ z5 f5) hc ?_
    show RC (mcall (d + 7)) (mP 251) 71 [some (vR 0), some (vI x1), some (vI x2), o3] [] (LR z6 f6) res
    refine rc_b (i' := 72) (ls' := [some (vR 0), some (vI x1), some (vI x2), o3]) (st' := [vR 0]) (L' := LR z6 f6) 1 (bc61_251_20 (mcall (d + 7)) x1 x2 o3 _) ?_
    obtain ⟨z7, f7, hc, H⟩ := H
    refine rc_call (t := 73) (ls' := [some (vR 0), some (vI x1), some (vI x2), o3]) (st' := []) (bc61_251_21 (mcall (d + 7)) _ z6 f6) hc ?_
    show RC (mcall (d + 7)) (mP 251) 73 [some (vR 0), some (vI x1), some (vI x2), o3] [] (LR z7 f7) res
    refine rc_b (i' := 7) (ls' := [some (vR 0), some (vI x1), some (vI 1), o3]) (st' := []) (L' := LR z7 f7) 3 (bc61_251_22 (mcall (d + 7)) x1 x2 o3 _) ?_
    exact H
set_option maxRecDepth 100000 in
theorem bc94_251_1 (call : QC FA) (x1 : Int32) (x2 : Int32) (o3 : Option PV) (L : QH FA) (F : Nat) : rnG call 251 (F + 2) 94 [some (vR 0), some (vI x1), some (vI x2), o3] [] L = rnG call 251 F 96 [some (vR 0), some (vI x1), some (vI x2), o3] [vI 10, vR 0] L := rfl
set_option maxRecDepth 100000 in
theorem bc94_251_2 (call : QC FA) (a0 : Int32) (ls : List (Option PV)) (z : Nat → Int32) (f : Nat → FA) (F : Nat) : rnG call 251 (F + 1) 96 ls [vI a0, vR 0] (LR z f) = cbd (call 273 [vR 0, vI a0] (LR z f)) (fun r L' => rnG call 251 F 97 ls (r.toList ++ []) L') := pcY (ih := rnG call 251 F) (call := call) (a := 273) (b := 1) (v := 12) (t := 97) (x := 0) (ls := ls) (As := [vI a0]) (st' := []) (L := LR z f) rfl rfl rfl
set_option maxRecDepth 100000 in
theorem bc94_251_3 (call : QC FA) (x1 : Int32) (x2 : Int32) (o3 : Option PV) (L : QH FA) (F : Nat) : rnG call 251 (F + 2) 97 [some (vR 0), some (vI x1), some (vI x2), o3] [] L = rnG call 251 F 99 [some (vR 0), some (vI x1), some (vI x2), o3] [vI 11, vR 0] L := rfl
set_option maxRecDepth 100000 in
theorem bc94_251_4 (call : QC FA) (a0 : Int32) (ls : List (Option PV)) (z : Nat → Int32) (f : Nat → FA) (F : Nat) : rnG call 251 (F + 1) 99 ls [vI a0, vR 0] (LR z f) = cbd (call 273 [vR 0, vI a0] (LR z f)) (fun r L' => rnG call 251 F 100 ls (r.toList ++ []) L') := pcY (ih := rnG call 251 F) (call := call) (a := 273) (b := 1) (v := 12) (t := 100) (x := 0) (ls := ls) (As := [vI a0]) (st' := []) (L := LR z f) rfl rfl rfl
set_option maxRecDepth 100000 in
theorem bc94_251_5 (call : QC FA) (x1 : Int32) (x2 : Int32) (o3 : Option PV) (L : QH FA) (F : Nat) : rnG call 251 (F + 1) 100 [some (vR 0), some (vI x1), some (vI x2), o3] [] L = rnG call 251 F 101 [some (vR 0), some (vI x1), some (vI x2), o3] [vI x1] L := rfl
set_option maxRecDepth 100000 in
theorem bc94_251_6 (call : QC FA) (x : Int32) (ls : List (Option PV)) (L : QH FA) (F : Nat) : rnG call 251 (F + 1) 101 ls [vI x] L = bif pcmp 1 x 0 then rnG call 251 F 104 ls [] L else rnG call 251 F 102 ls [] L := rfl
set_option maxRecDepth 100000 in
theorem bc94_251_7 (call : QC FA) (x1 : Int32) (x2 : Int32) (o3 : Option PV) (L : QH FA) (F : Nat) : rnG call 251 (F + 2) 104 [some (vR 0), some (vI x1), some (vI x2), o3] [] L = rnG call 251 F 106 [some (vR 0), some (vI x1), some (vI x2), o3] [vI 41, vR 0] L := rfl
set_option maxRecDepth 100000 in
theorem bc94_251_8 (call : QC FA) (a0 : Int32) (ls : List (Option PV)) (z : Nat → Int32) (f : Nat → FA) (F : Nat) : rnG call 251 (F + 1) 106 ls [vI a0, vR 0] (LR z f) = cbd (call 226 [vR 0, vI a0] (LR z f)) (fun r L' => rnG call 251 F 107 ls (r.toList ++ []) L') := pcY (ih := rnG call 251 F) (call := call) (a := 226) (b := 1) (v := 12) (t := 107) (x := 0) (ls := ls) (As := [vI a0]) (st' := []) (L := LR z f) rfl rfl rfl
set_option maxRecDepth 100000 in
theorem bc94_251_9 (call : QC FA) (x : Int32) (ls : List (Option PV)) (L : QH FA) (F : Nat) : rnG call 251 (F + 1) 107 ls [vI x] L = bif pcmp 1 x 0 then rnG call 251 F 112 ls [] L else rnG call 251 F 108 ls [] L := rfl
set_option maxRecDepth 100000 in
theorem bc94_251_10 (call : QC FA) (x1 : Int32) (x2 : Int32) (o3 : Option PV) (z : Nat → Int32) (f : Nat → FA) (F : Nat) : rnG call 251 (F + 5) 112 [some (vR 0), some (vI x1), some (vI x2), o3] [] (LR z f) = rnG call 251 F 117 [some (vR 0), some (vI x1), some (vI x2), o3] [vI ((z 29) - 1), vR 0] (LR z f) := rfl
set_option maxRecDepth 100000 in
theorem bc94_251_11 (call : QC FA) (y : Int32) (ls : List (Option PV)) (z : Nat → Int32) (f : Nat → FA) (F : Nat) : rnG call 251 (F + 1) 117 ls [vI y, vR 0] (LR z f) = rnG call 251 F 118 ls [] (LR (uZ z 29 y) f) := rfl
set_option maxRecDepth 100000 in
theorem bc94_251_12 (call : QC FA) (x1 : Int32) (x2 : Int32) (o3 : Option PV) (z : Nat → Int32) (f : Nat → FA) (F : Nat) : rnG call 251 (F + 9) 118 [some (vR 0), some (vI x1), some (vI x2), o3] [] (LR z f) = rnG call 251 F 127 [some (vR 0), some (vI (x1 - 1)), some (vI x2), o3] [vI ((z 27) - 1), vR 0] (LR z f) := rfl
set_option maxRecDepth 100000 in
theorem bc94_251_13 (call : QC FA) (y : Int32) (ls : List (Option PV)) (z : Nat → Int32) (f : Nat → FA) (F : Nat) : rnG call 251 (F + 1) 127 ls [vI y, vR 0] (LR z f) = rnG call 251 F 128 ls [] (LR (uZ z 27 y) f) := rfl
set_option maxRecDepth 100000 in
theorem bc94_251_14 (call : QC FA) (x1 : Int32) (x2 : Int32) (o3 : Option PV) (L : QH FA) (F : Nat) : rnG call 251 (F + 2) 128 [some (vR 0), some (vI x1), some (vI x2), o3] [] L = rnG call 251 F 130 [some (vR 0), some (vI x1), some (vI x2), o3] [vI 9, vR 0] L := rfl
set_option maxRecDepth 100000 in
theorem bc94_251_15 (call : QC FA) (a0 : Int32) (ls : List (Option PV)) (z : Nat → Int32) (f : Nat → FA) (F : Nat) : rnG call 251 (F + 1) 130 ls [vI a0, vR 0] (LR z f) = cbd (call 273 [vR 0, vI a0] (LR z f)) (fun r L' => rnG call 251 F 131 ls (r.toList ++ []) L') := pcY (ih := rnG call 251 F) (call := call) (a := 273) (b := 1) (v := 12) (t := 131) (x := 0) (ls := ls) (As := [vI a0]) (st' := []) (L := LR z f) rfl rfl rfl
set_option maxRecDepth 100000 in
theorem bc94_251_16 (call : QC FA) (x1 : Int32) (x2 : Int32) (o3 : Option PV) (L : QH FA) (F : Nat) : rnG call 251 (F + 1) 131 [some (vR 0), some (vI x1), some (vI x2), o3] [] L = rnG call 251 F 132 [some (vR 0), some (vI x1), some (vI x2), o3] [vR 0] L := rfl
set_option maxRecDepth 100000 in
theorem bc94_251_17 (call : QC FA) (ls : List (Option PV)) (z : Nat → Int32) (f : Nat → FA) (F : Nat) : rnG call 251 (F + 1) 132 ls [vR 0] (LR z f) = cbd (call 269 [vR 0] (LR z f)) (fun r L' => rnG call 251 F 133 ls (r.toList ++ []) L') := pcY (ih := rnG call 251 F) (call := call) (a := 269) (b := 0) (v := 12) (t := 133) (x := 0) (ls := ls) (As := []) (st' := []) (L := LR z f) rfl rfl rfl
set_option maxRecDepth 100000 in
theorem bc94_251_18 (call : QC FA) (x1 : Int32) (x2 : Int32) (o3 : Option PV) (L : QH FA) (F : Nat) : rnG call 251 (F + 1) 133 [some (vR 0), some (vI x1), some (vI x2), o3] [] L = rnG call 251 F 7 [some (vR 0), some (vI x1), some (vI x2), o3] [] L := rfl
set_option maxRecDepth 100000 in
theorem bc94_251_19 (call : QC FA) (x1 : Int32) (x2 : Int32) (o3 : Option PV) (L : QH FA) (F : Nat) : rnG call 251 (F + 2) 108 [some (vR 0), some (vI x1), some (vI x2), o3] [] L = rnG call 251 F 110 [some (vR 0), some (vI x1), some (vI x2), o3] [vI 1, vR 0] L := rfl
set_option maxRecDepth 100000 in
theorem bc94_251_20 (call : QC FA) (a0 : Int32) (ls : List (Option PV)) (z : Nat → Int32) (f : Nat → FA) (F : Nat) : rnG call 251 (F + 1) 110 ls [vI a0, vR 0] (LR z f) = cbd (call 208 [vR 0, vI a0] (LR z f)) (fun r L' => rnG call 251 F 111 ls (r.toList ++ []) L') := pcY (ih := rnG call 251 F) (call := call) (a := 208) (b := 1) (v := 12) (t := 111) (x := 0) (ls := ls) (As := [vI a0]) (st' := []) (L := LR z f) rfl rfl rfl
set_option maxRecDepth 100000 in
theorem bc94_251_21 (call : QC FA) (x : Int32) (ls : List (Option PV)) (L : QH FA) (F : Nat) : rnG call 251 (F + 1) 111 ls [vI x] L = some (some (vI x), L) := rfl
set_option maxRecDepth 100000 in
theorem bc94_251_22 (call : QC FA) (x1 : Int32) (x2 : Int32) (o3 : Option PV) (L : QH FA) (F : Nat) : rnG call 251 (F + 1) 102 [some (vR 0), some (vI x1), some (vI x2), o3] [] L = rnG call 251 F 103 [some (vR 0), some (vI x1), some (vI x2), o3] [vI 0] L := rfl
set_option maxRecDepth 100000 in
theorem bc94_251_23 (call : QC FA) (x : Int32) (ls : List (Option PV)) (L : QH FA) (F : Nat) : rnG call 251 (F + 1) 103 ls [vI x] L = some (some (vI x), L) := rfl
theorem vcc94_251_94 (d : Nat) (x1 : Int32) (x2 : Int32) (o3 : Option PV) (z : Nat → Int32) (f : Nat → FA) (res : Option PV × QH FA) (H : (∃ (z1 : Nat → Int32) (f1 : Nat → FA), (mcall (d + 7)) 273 [vR 0, vI 10] (LR z f) = some (none, LR z1 f1) ∧ (∃ (z2 : Nat → Int32) (f2 : Nat → FA), (mcall (d + 7)) 273 [vR 0, vI 11] (LR z1 f1) = some (none, LR z2 f2) ∧ ((¬ x1 = 0 → (((z2 15 = 4 ∧ z2 16 = 41) → (∃ (z3 : Nat → Int32) (f3 : Nat → FA), (mcall (d + 7)) 273 [vR 0, vI 9] (LR (uZ (uZ z2 29 ((z2 29) - 1)) 27 ((z2 27) - 1)) f2) = some (none, LR z3 f3) ∧ (∃ (z4 : Nat → Int32) (f4 : Nat → FA), (mcall (d + 7)) 269 [vR 0] (LR z3 f3) = some (none, LR z4 f4) ∧ RC (mcall (d + 7)) (mP 251) 7 [some (vR 0), some (vI (x1 - 1)), some (vI x2), o3] [] (LR z4 f4) res))) ∧ ((¬ (z2 15 = 4 ∧ z2 16 = 41)) → (∃ (r5 : Int32) (z5 : Nat → Int32) (f5 : Nat → FA), (mcall (d + 7)) 208 [vR 0, vI 1] (LR z2 f2) = some (some (vI r5), LR z5 f5) ∧ res = (some (vI r5), LR z5 f5))))) ∧ (x1 = 0 → res = (some (vI 0), LR z2 f2)))))) : RC (mcall (d + 7)) (mP 251) 94 [some (vR 0), some (vI x1), some (vI x2), o3] [] (LR z f) res := by
  refine rc_b (i' := 96) (ls' := [some (vR 0), some (vI x1), some (vI x2), o3]) (st' := [vI 10, vR 0]) (L' := LR z f) 2 (bc94_251_1 (mcall (d + 7)) x1 x2 o3 _) ?_
  obtain ⟨z1, f1, hc, H⟩ := H
  refine rc_call (t := 97) (ls' := [some (vR 0), some (vI x1), some (vI x2), o3]) (st' := []) (bc94_251_2 (mcall (d + 7)) 10 _ z f) hc ?_
  show RC (mcall (d + 7)) (mP 251) 97 [some (vR 0), some (vI x1), some (vI x2), o3] [] (LR z1 f1) res
  refine rc_b (i' := 99) (ls' := [some (vR 0), some (vI x1), some (vI x2), o3]) (st' := [vI 11, vR 0]) (L' := LR z1 f1) 2 (bc94_251_3 (mcall (d + 7)) x1 x2 o3 _) ?_
  obtain ⟨z2, f2, hc, H⟩ := H
  refine rc_call (t := 100) (ls' := [some (vR 0), some (vI x1), some (vI x2), o3]) (st' := []) (bc94_251_4 (mcall (d + 7)) 11 _ z1 f1) hc ?_
  show RC (mcall (d + 7)) (mP 251) 100 [some (vR 0), some (vI x1), some (vI x2), o3] [] (LR z2 f2) res
  refine rc_b (i' := 101) (ls' := [some (vR 0), some (vI x1), some (vI x2), o3]) (st' := [vI x1]) (L' := LR z2 f2) 1 (bc94_251_5 (mcall (d + 7)) x1 x2 o3 _) ?_
  refine rc_if (it := 104) (ie := 102) (ls' := [some (vR 0), some (vI x1), some (vI x2), o3]) (st' := []) (bc94_251_6 (mcall (d + 7)) x1 _ _) (fun q1 => ?_) (fun q1 => ?_)
  · have H := H.1 (cI1t q1)
    refine rc_b (i' := 106) (ls' := [some (vR 0), some (vI x1), some (vI x2), o3]) (st' := [vI 41, vR 0]) (L' := LR z2 f2) 2 (bc94_251_7 (mcall (d + 7)) x1 x2 o3 _) ?_
    refine rc_call (t := 107) (ls' := [some (vR 0), some (vI x1), some (vI x2), o3]) (st' := []) (bc94_251_8 (mcall (d + 7)) 41 _ z2 f2) (isSign_r _ 41 z2 f2) ?_
    show RC (mcall (d + 7)) (mP 251) 107 [some (vR 0), some (vI x1), some (vI x2), o3] [vI (bI (z2 15 = 4 ∧ z2 16 = 41))] (LR z2 f2) res
    refine rc_bn (it := 112) (ie := 108) (ls' := [some (vR 0), some (vI x1), some (vI x2), o3]) (st' := []) (bc94_251_9 (mcall (d + 7)) (bI (z2 15 = 4 ∧ z2 16 = 41)) _ _) (fun q2 => ?_) (fun q2 => ?_)
    · have H := H.1 q2
      refine rc_b (i' := 117) (ls' := [some (vR 0), some (vI x1), some (vI x2), o3]) (st' := [vI ((z2 29) - 1), vR 0]) (L' := LR z2 f2) 5 (bc94_251_10 (mcall (d + 7)) x1 x2 o3 z2 f2) ?_
      refine rc_b (i' := 118) (ls' := [some (vR 0), some (vI x1), some (vI x2), o3]) (st' := []) (L' := LR (uZ z2 29 ((z2 29) - 1)) f2) 1 (bc94_251_11 (mcall (d + 7)) ((z2 29) - 1) _ z2 f2) ?_
      refine rc_b (i' := 127) (ls' := [some (vR 0), some (vI (x1 - 1)), some (vI x2), o3]) (st' := [vI ((z2 27) - 1), vR 0]) (L' := LR (uZ z2 29 ((z2 29) - 1)) f2) 9 (bc94_251_12 (mcall (d + 7)) x1 x2 o3 (uZ z2 29 ((z2 29) - 1)) f2) ?_
      refine rc_b (i' := 128) (ls' := [some (vR 0), some (vI (x1 - 1)), some (vI x2), o3]) (st' := []) (L' := LR (uZ (uZ z2 29 ((z2 29) - 1)) 27 ((z2 27) - 1)) f2) 1 (bc94_251_13 (mcall (d + 7)) ((z2 27) - 1) _ (uZ z2 29 ((z2 29) - 1)) f2) ?_
      refine rc_b (i' := 130) (ls' := [some (vR 0), some (vI (x1 - 1)), some (vI x2), o3]) (st' := [vI 9, vR 0]) (L' := LR (uZ (uZ z2 29 ((z2 29) - 1)) 27 ((z2 27) - 1)) f2) 2 (bc94_251_14 (mcall (d + 7)) (x1 - 1) x2 o3 _) ?_
      obtain ⟨z3, f3, hc, H⟩ := H
      refine rc_call (t := 131) (ls' := [some (vR 0), some (vI (x1 - 1)), some (vI x2), o3]) (st' := []) (bc94_251_15 (mcall (d + 7)) 9 _ (uZ (uZ z2 29 ((z2 29) - 1)) 27 ((z2 27) - 1)) f2) hc ?_
      show RC (mcall (d + 7)) (mP 251) 131 [some (vR 0), some (vI (x1 - 1)), some (vI x2), o3] [] (LR z3 f3) res
      refine rc_b (i' := 132) (ls' := [some (vR 0), some (vI (x1 - 1)), some (vI x2), o3]) (st' := [vR 0]) (L' := LR z3 f3) 1 (bc94_251_16 (mcall (d + 7)) (x1 - 1) x2 o3 _) ?_
      obtain ⟨z4, f4, hc, H⟩ := H
      refine rc_call (t := 133) (ls' := [some (vR 0), some (vI (x1 - 1)), some (vI x2), o3]) (st' := []) (bc94_251_17 (mcall (d + 7)) _ z3 f3) hc ?_
      show RC (mcall (d + 7)) (mP 251) 133 [some (vR 0), some (vI (x1 - 1)), some (vI x2), o3] [] (LR z4 f4) res
      refine rc_b (i' := 7) (ls' := [some (vR 0), some (vI (x1 - 1)), some (vI x2), o3]) (st' := []) (L' := LR z4 f4) 1 (bc94_251_18 (mcall (d + 7)) (x1 - 1) x2 o3 _) ?_
      exact H
    · have H := H.2 q2
      refine rc_b (i' := 110) (ls' := [some (vR 0), some (vI x1), some (vI x2), o3]) (st' := [vI 1, vR 0]) (L' := LR z2 f2) 2 (bc94_251_19 (mcall (d + 7)) x1 x2 o3 _) ?_
      obtain ⟨r5, z5, f5, hc, H⟩ := H
      refine rc_call (t := 111) (ls' := [some (vR 0), some (vI x1), some (vI x2), o3]) (st' := []) (bc94_251_20 (mcall (d + 7)) 1 _ z2 f2) hc ?_
      show RC (mcall (d + 7)) (mP 251) 111 [some (vR 0), some (vI x1), some (vI x2), o3] [vI r5] (LR z5 f5) res
      subst H
      exact rc_ret (bc94_251_21 (mcall (d + 7)) _ _ _)
  · have H := H.2 (cI1f q1)
    refine rc_b (i' := 103) (ls' := [some (vR 0), some (vI x1), some (vI x2), o3]) (st' := [vI 0]) (L' := LR z2 f2) 1 (bc94_251_22 (mcall (d + 7)) x1 x2 o3 _) ?_
    subst H
    exact rc_ret (bc94_251_23 (mcall (d + 7)) _ _ _)
def RA (t i n a : Nat) (z : Nat → Int32) (f : Nat → FA) (r : Int32) (z' : Nat → Int32) (f' : Nat → FA) : Prop := FRa (800 + (i + n)) z f z' f' ∧ ((r = -1 ∧ ST1 z') ∨ (r = 0 ∧ ∃ n' a', n ≤ n' ∧ a ≤ a' ∧ CS t 0 i n' 1 a' z' f' ∧ z' 27 = nI 0 ∧ z' 29 = nI 0))
theorem RA.pre {t i n m a b : Nat} {z z1 z' : Nat → Int32} {f f1 f' : Nat → FA} {r : Int32} (h : FRa (800 + (i + n)) z f z1 f1) (hn : n ≤ m) (hb : a ≤ b) (h2 : RA t i m b z1 f1 r z' f') : RA t i n a z f r z' f' := by
  obtain ⟨h3, h4⟩ := h2
  refine ⟨h.trans h3 (by omega), ?_⟩
  rcases h4 with h4 | ⟨h4, n', a', h5, h6, h7⟩
  · exact Or.inl h4
  · exact Or.inr ⟨h4, n', a', by omega, by omega, h7⟩
theorem RA.er {t i n d a np q b m u : Nat} {z : Nat → Int32} {f : Nat → FA} {x y : Int32} (h : ASt t i n d a np q b m u z f) : RA t i n a z f (-1) (uZ (uZ z 30 x) 31 y) f := ⟨FRc.er.a, Or.inl ⟨rfl, h.st1.er⟩⟩
theorem wr_c (d0 : Nat) {t i n d a np : Nat} {z : Nat → Int32} {f : Nat → FA} (w : Int32) (h : CS t np i n d a z f) (h29 : z 29 = nI np) (hn : np < 40) (h15 : ¬ z 15 = 0) : ∃ z1 f1 z2 a', mcall (d0 + 7) 285 [vR 0, vI w] (LR z f) = some (none, LR z1 f1) ∧ mcall (d0 + 7) 269 [vR 0] (LR z1 f1) = some (none, LR z2 f1) ∧ CS t (np + 1) i n d a' z2 f1 ∧ a < a' ∧ z2 29 = nI (np + 1) ∧ z2 27 = z 27 ∧ f1 17 = upd (f 17) np w ∧ FRa (800 + (i + n)) z f z2 f1 := by
  obtain ⟨z2, a', g1, g2, g3, g4⟩ := rd_c (d0 + 4) ((h.z (j := 29) (x := nI (np + 1)) (Or.inr rfl)).g (g := upd (f 17) np w)) (by rw [uZ_n (by decide)]; exact h15)
  refine ⟨_, _, z2, a', waits_r (d0 + 6) w z f np h29 hn, g1, g2, g3, ?_, ?_, uA_self _ _ _, ((FRa.z (Or.inr rfl)).trans (FRa.g (b := 800 + (i + n))) (Nat.le_refl _)).trans (FRc.rd (b := 800 + (i + n)) g4).a (Nat.le_refl _)⟩
  · rw [g4 29 (by decide) (by decide) (by decide) (by decide), uZ_s]
  · rw [g4 27 (by decide) (by decide) (by decide) (by decide), uZ_n (by decide)]
theorem top9 {t i n d a np q b m u : Nat} {z : Nat → Int32} {f : Nat → FA} (h : ASt t i n d a np q b m u z f) (ht : np = 0 ∨ ¬ f 17 (np - 1) = 9) : q ≤ 2 := by
  have hq := h.2.2.2.2.len.2.2.2
  by_cases c : q = 3
  · subst c
    obtain ⟨q1, q2⟩ := h.2.2.2.2.q3
    rcases ht with ht | ht
    · omega
    · exact absurd q2 ht
  · omega
theorem top10 {t i n d a np q b m u : Nat} {z : Nat → Int32} {f : Nat → FA} (h : ASt t i n d a np q b m u z f) (hq : q ≤ 2) (ht : np = 0 ∨ ¬ f 17 (np - 1) = 10) : q ≤ 1 := by
  by_cases c : q = 2
  · subst c
    obtain ⟨q1, q2⟩ := h.2.2.2.2.q2
    rcases ht with ht | ht
    · omega
    · exact absurd q2 ht
  · omega
theorem top11 {t i n d a np q b m u : Nat} {z : Nat → Int32} {f : Nat → FA} (h : ASt t i n d a np q b m u z f) (hq : q ≤ 1) (ht : np = 0 ∨ ¬ f 17 (np - 1) = 11) : q = 0 := by
  by_cases c : q = 1
  · subst c
    obtain ⟨q1, q2⟩ := h.2.2.2.2.q1
    rcases ht with ht | ht
    · omega
    · exact absurd q2 ht
  · omega
def LSn (b : Nat) (x : Int32) (q : Option PV) : List (Option PV) := [some (vR 0), some (vI (nI b)), some (vI x), q]
theorem ra7 (d0 t i : Nat) : ∀ mm n d a np q b m u z f (x : Int32) (o3 : Option PV), 2 * (t - a) + (if x = 0 then 0 else 1) < mm → ASt t i n d a np q b m u z f → ((x = 1 ∧ d = m) ∨ (x = 0 ∧ d = m + 1 ∧ q ≤ 2)) → ∃ r z' f', RC (mcall (d0 + 7)) (mP 251) 7 (LSn b x o3) [] (LR z f) (some (vI r), LR z' f') ∧ RA t i n a z f r z' f' := by
  intro mm
  induction mm with
  | zero => intro n d a np q b m u z f x o3 hm; omega
  | succ mm ih =>
    intro n d a np q b m u z f x o3 hm h hx
    have hal := h.1.a_le
    have hnp := h.np
    have hb := h.2.2.2.2.len
    have hu := h.2.2.2.1
    rcases hx with ⟨rfl, rfl⟩ | ⟨rfl, rfl, hq⟩
    · -- a condition is due
      rw [if_neg (by decide)] at hm
      have x0 : ¬ (1 : Int32) = 0 := by decide
      by_cases c1 : z 15 = 2 ∧ z 16 = 6
      · by_cases c2 : z 27 = 8
        · exact ⟨-1, _, f, vcc7_251_7 _ _ _ _ _ _ _ ⟨fun q => absurd q x0, fun _ => ⟨fun _ => ⟨fun q => absurd c2 q, fun _ => ⟨-1, _, f, errs_r (d0 + 6) 3 z f, rfl⟩⟩, fun q => absurd c1 q⟩⟩, RA.er h⟩
        · have hu8 : u < 8 := by
            rcases Nat.lt_or_ge u 8 with h8 | h8
            · exact h8
            · obtain rfl : u = 8 := by omega
              exact absurd h.2.2.1 c2
          have e27 : z 27 + 1 = nI (u + 1) := by rw [h.2.2.1]; exact nI_add u 1
          obtain ⟨z1, f1, z2, a', g1, g2, g3, g4, g5, g6, g7, g8⟩ := wr_c d0 (f := f) 9 (h.1.z (j := 27) (x := z 27 + 1) (Or.inl rfl)) (by rw [uZ_n (by decide)]; exact h.2.1) (by omega) (by rw [uZ_n (by decide), c1.1]; decide)
          have g9 := g3.a_le
          obtain ⟨r, z', f', v1, v2⟩ := ih n d a' (np + 1) 3 b d (u + 1) z2 f1 1 (some (vI (bI (z 15 = 2 ∧ z 16 = 6)))) (by rw [if_neg x0]; omega) ⟨g3, g5, by rw [g6, uZ_s]; exact e27, by omega, by rw [g7]; exact PS.nott (h.2.2.2.2.up (Nat.le_refl _)) pk_us⟩ (Or.inl ⟨rfl, rfl⟩)
          exact ⟨r, z', f', vcc7_251_7 _ _ _ _ _ _ _ ⟨fun q => absurd q x0, fun _ => ⟨fun _ => ⟨fun _ => ⟨z1, f1, g1, z2, f1, g2, v1⟩, fun q => absurd q c2⟩, fun q => absurd c1 q⟩⟩, RA.pre ((FRa.z (Or.inl rfl)).trans g8 (Nat.le_refl _)) (Nat.le_refl _) (by omega) v2⟩
      · by_cases c3 : z 15 = 4 ∧ z 16 = 40
        · by_cases c2 : z 27 = 8
          · exact ⟨-1, _, f, vcc7_251_7 _ _ _ _ _ _ _ ⟨fun q => absurd q x0, fun _ => ⟨fun q => absurd q c1, fun _ => ⟨fun _ => ⟨fun q => absurd c2 q, fun _ => ⟨-1, _, f, errs_r (d0 + 6) 3 z f, rfl⟩⟩, fun q => absurd c3 q⟩⟩⟩, RA.er h⟩
          · have hu8 : u < 8 := by
              rcases Nat.lt_or_ge u 8 with h8 | h8
              · exact h8
              · obtain rfl : u = 8 := by omega
                exact absurd h.2.2.1 c2
            have e27 : z 27 + 1 = nI (u + 1) := by rw [h.2.2.1]; exact nI_add u 1
            obtain ⟨z1, f1, z2, a', g1, g2, g3, g4, g5, g6, g7, g8⟩ := wr_c d0 (f := f) 12 (h.1.z (j := 27) (x := z 27 + 1) (Or.inl rfl)) (by rw [uZ_n (by decide)]; exact h.2.1) (by omega) (by rw [uZ_n (by decide), c3.1]; decide)
            have g9 := g3.a_le
            obtain ⟨r, z', f', v1, v2⟩ := ih n d a' (np + 1) 0 (b + 1) d (u + 1) z2 f1 1 (some (vI (bI (z 15 = 2 ∧ z 16 = 6)))) (by rw [if_neg x0]; omega) ⟨g3, g5, by rw [g6, uZ_s]; exact e27, by omega, by rw [g7]; exact PS.bra (h.2.2.2.2.up (Nat.le_refl _)) pk_us⟩ (Or.inl ⟨rfl, rfl⟩)
            refine ⟨r, z', f', vcc7_251_7 _ _ _ _ _ _ _ ⟨fun q => absurd q x0, fun _ => ⟨fun q => absurd q c1, fun _ => ⟨fun _ => ⟨fun _ => ⟨z1, f1, g1, z2, f1, g2, ?_⟩, fun q => absurd q c2⟩, fun q => absurd c3 q⟩⟩⟩, RA.pre ((FRa.z (Or.inl rfl)).trans g8 (Nat.le_refl _)) (Nat.le_refl _) (by omega) v2⟩
            rw [show nI b + 1 = nI (b + 1) from nI_add b 1]
            exact v1
        · obtain ⟨r, z4, f4, u1, u2⟩ := readCompared_r d0 h.1
          have k27 : z4 27 = nI u := (u2.1.1 27 (by decide) (by decide) (by decide) (by decide) (by decide) (by decide) (by decide)).trans h.2.2.1
          have k29 : z4 29 = nI np := (u2.1.1 29 (by decide) (by decide) (by decide) (by decide) (by decide) (by decide) (by decide)).trans h.2.1
          have k17 : f4 17 = f 17 := u2.1.2.1 17 (by decide) (by decide)
          rcases u2.2 with ⟨rfl, u3⟩ | ⟨rfl, n1, a1, u4, u5, u6⟩
          · exact ⟨-1, z4, f4, vcc7_251_7 _ _ _ _ _ _ _ ⟨fun q => absurd q x0, fun _ => ⟨fun q => absurd q c1, fun _ => ⟨fun q => absurd q c3, fun _ => ⟨-1, z4, f4, u1, fun q => absurd rfl q, fun _ => rfl⟩⟩⟩⟩, u2.1.a, Or.inl ⟨rfl, u3, u, np, k27, k29, hu, by omega⟩⟩
          · obtain ⟨z5, f5, n2, np2, q2, m2, uu2, s1, s2, s3, s4, s5, s6, s7, s8⟩ := settles_r (d0 + 5) (q := q) (b := b) (m := d) 9 (Or.inl rfl) ⟨u6, k29, k27, hu, by rw [k17]; exact h.2.2.2.2⟩
            have h25 := s2.1.a_le
            obtain ⟨r, z', f', v1, v2⟩ := ih n2 (m2 + 1) a1 np2 q2 b m2 uu2 z5 f5 0 (some (vI (bI (z 15 = 2 ∧ z 16 = 6)))) (by rw [if_pos rfl]; omega) s2 (Or.inr ⟨rfl, rfl, top9 s2 s6⟩)
            exact ⟨r, z', f', vcc7_251_7 _ _ _ _ _ _ _ ⟨fun q => absurd q x0, fun _ => ⟨fun q => absurd q c1, fun _ => ⟨fun q => absurd q c3, fun _ => ⟨0, z4, f4, u1, fun _ => ⟨z5, f5, s1, v1⟩, fun q => absurd q m1n⟩⟩⟩⟩, RA.pre (u2.1.a.trans s5 (by omega)) (by omega) (by omega) v2⟩
    · -- a condition lies there
      rw [if_pos rfl] at hm
      have pre : ∀ r z' f', RC (mcall (d0 + 7)) (mP 251) 61 (LSn b 0 o3) [] (LR z f) (some (vI r), LR z' f') → RC (mcall (d0 + 7)) (mP 251) 7 (LSn b 0 o3) [] (LR z f) (some (vI r), LR z' f') := fun r z' f' H => vcc7_251_7 _ _ _ _ _ _ _ ⟨fun _ => H, fun q => absurd rfl q⟩
      have x0 : ¬ (1 : Int32) = 0 := by decide
      obtain ⟨z1, f1, n1, np1, q1, m1, uu1, s1, s2, s3, s4, s5, s6, s7, s8⟩ := settles_r (d0 + 5) 10 (Or.inr (Or.inl rfl)) h
      have qa := top10 s2 (by omega) s6
      have hnp1 := s2.np
      by_cases c1 : z 15 = 2 ∧ z 16 = 5
      · obtain ⟨z2, f2, z3, a', g1, g2, g3, g4, g5, g6, g7, g8⟩ := wr_c d0 (f := f1) 10 s2.1 s2.2.1 (by omega) (by rw [s7, c1.1]; decide)
        have g9 := g3.a_le
        obtain ⟨r, z', f', v1, v2⟩ := ih n1 (m1 + 1) a' (np1 + 1) 2 b (m1 + 1) uu1 z3 f2 1 o3 (by rw [if_neg x0]; omega) ⟨g3, g5, g6.trans s2.2.2.1, s2.2.2.2.1, by rw [g7]; exact PS.andd (s2.2.2.2.2.up (Nat.le_refl _)) qa pk_us⟩ (Or.inl ⟨rfl, rfl⟩)
        exact ⟨r, z', f', pre _ _ _ (vcc61_251_61 _ _ _ _ _ _ _ ⟨fun _ => ⟨z1, f1, s1, z2, f2, g1, z3, f2, g2, v1⟩, fun q => absurd c1 q⟩), RA.pre (s5.trans g8 (by omega)) s3 (by omega) v2⟩
      · obtain ⟨z2, f2, n2, np2, q2, m2, uu2, t1, t2, t3, t4, t5, t6, t7, t8⟩ := settles_r (d0 + 5) 11 (Or.inr (Or.inr rfl)) s2
        obtain rfl := top11 t2 (by omega) t6
        have hnp2 := t2.np
        by_cases c2 : z 15 = 2 ∧ z 16 = 4
        · obtain ⟨z3, f3, z4, a', g1, g2, g3, g4, g5, g6, g7, g8⟩ := wr_c d0 (f := f2) 11 t2.1 t2.2.1 (by omega) (by rw [t7, s7, c2.1]; decide)
          have g9 := g3.a_le
          obtain ⟨r, z', f', v1, v2⟩ := ih n2 (m2 + 1) a' (np2 + 1) 1 b (m2 + 1) uu2 z4 f3 1 o3 (by rw [if_neg x0]; omega) ⟨g3, g5, g6.trans t2.2.2.1, t2.2.2.2.1, by rw [g7]; exact PS.orr (t2.2.2.2.2.up (Nat.le_refl _)) pk_us⟩ (Or.inl ⟨rfl, rfl⟩)
          exact ⟨r, z', f', pre _ _ _ (vcc61_251_61 _ _ _ _ _ _ _ ⟨fun q => absurd q c1, fun _ => ⟨fun _ => ⟨z1, f1, s1, z2, f2, t1, z3, f3, g1, z4, f3, g2, v1⟩, fun q => absurd c2 q⟩⟩), RA.pre ((s5.trans t5 (by omega)).trans g8 (by omega)) (by omega) (by omega) v2⟩
        · have pre2 : ∀ r z' f', RC (mcall (d0 + 7)) (mP 251) 94 (LSn b 0 o3) [] (LR z f) (some (vI r), LR z' f') → RC (mcall (d0 + 7)) (mP 251) 7 (LSn b 0 o3) [] (LR z f) (some (vI r), LR z' f') := fun r z' f' H => pre _ _ _ (vcc61_251_61 _ _ _ _ _ _ _ ⟨fun q => absurd q c1, fun _ => ⟨fun q => absurd q c2, fun _ => H⟩⟩)
          rcases t2.2.2.2.2.q0 with ⟨rfl, rfl, rfl, rfl⟩ | ⟨np3, q3, b3, uu3, rfl, rfl, rfl, p3⟩
          · exact ⟨0, z2, f2, pre2 _ _ _ (vcc94_251_94 _ _ _ _ _ _ _ ⟨z1, f1, s1, z2, f2, t1, fun q => absurd rfl q, fun _ => rfl⟩), s5.trans t5 (by omega), Or.inr ⟨rfl, n2, a, by omega, Nat.le_refl _, t2.1, t2.2.2.1, t2.2.1⟩⟩
          · have b0 : ¬ nI (b3 + 1) = 0 := fun q => absurd (nI_inj (b := 0) (by omega) (by omega) q) (by omega)
            by_cases c4 : z2 15 = 4 ∧ z2 16 = 41
            · have e29 : z2 29 - 1 = nI np3 := nsub (a := np3) (c := 1) t2.2.1 rfl
              have e27 : z2 27 - 1 = nI uu3 := nsub (a := uu3) (c := 1) t2.2.2.1 rfl
              have eb : nI (b3 + 1) - 1 = nI b3 := nsub (a := b3) (c := 1) rfl rfl
              have uu4 := t2.2.2.2.1
              obtain ⟨z3, f3, n3, np4, q4, m4, uu5, w1, w2, w3, w4, w5, w6, w7, w8⟩ := settles_r (d0 + 5) (z := uZ (uZ z2 29 (z2 29 - 1)) 27 (z2 27 - 1)) (f := f2) (n := n2) (q := q3) (b := b3) (m := m2) (u := uu3) (np := np3) 9 (Or.inl rfl) ⟨((t2.1.weak (by omega)).z (Or.inr rfl)).z (Or.inl rfl), by rw [uZ_n (by decide), uZ_s]; exact e29, by rw [uZ_s]; exact e27, by omega, p3⟩
              rw [uZ_n (by decide), uZ_n (by decide)] at w7
              obtain ⟨z4, a', g1, g2, g3, g4⟩ := rd_c (d0 + 4) w2.1 (by rw [w7, c4.1]; decide)
              have g5 := g2.a_le
              obtain ⟨r, z', f', v1, v2⟩ := ih n3 (m4 + 1) a' np4 q4 b3 m4 uu5 z4 f3 0 o3 (by rw [if_pos rfl]; omega) ⟨g2.weak (by omega), (g4 29 (by decide) (by decide) (by decide) (by decide)).trans w2.2.1, (g4 27 (by decide) (by decide) (by decide) (by decide)).trans w2.2.2.1, w2.2.2.2.1, w2.2.2.2.2⟩ (Or.inr ⟨rfl, rfl, top9 w2 w6⟩)
              refine ⟨r, z', f', pre2 _ _ _ (vcc94_251_94 _ _ _ _ _ _ _ ⟨z1, f1, s1, z2, f2, t1, fun _ => ⟨fun _ => ⟨z3, f3, w1, z4, f3, g1, ?_⟩, fun q => absurd c4 q⟩, fun q => absurd q b0⟩), RA.pre ((((s5.trans t5 (by omega)).trans ((FRa.z (b := 800 + (i + n)) (Or.inr rfl)).trans (FRa.z (b := 800 + (i + n)) (Or.inl rfl)) (Nat.le_refl _)) (Nat.le_refl _)).trans w5 (by omega)).trans (FRc.rd (b := 800 + (i + n)) g4).a (Nat.le_refl _)) (by omega) (by omega) v2⟩
              rw [eb]
              exact v1
            · exact ⟨-1, _, f2, pre2 _ _ _ (vcc94_251_94 _ _ _ _ _ _ _ ⟨z1, f1, s1, z2, f2, t1, fun _ => ⟨fun q => absurd q c4, fun _ => ⟨-1, _, f2, errs_r (d0 + 6) 1 z2 f2, rfl⟩⟩, fun q => absurd q b0⟩), RA.pre (s5.trans t5 (by omega)) (by omega) (Nat.le_refl _) (RA.er t2)⟩
theorem readAny_r (d0 : Nat) {t i a : Nat} {z : Nat → Int32} {f : Nat → FA} (h : CS t 0 i 0 0 a z f) (h27 : z 27 = nI 0) : ∃ r z' f', mcall (d0 + 8) 251 [vR 0] (LR z f) = some (some (vI r), LR z' f') ∧ RA t i 0 a z f r z' f' := by
  obtain ⟨r, z', f', v1, v2⟩ := ra7 d0 t i _ 0 0 a 0 0 0 0 0 (uZ z 29 0) f 1 none (Nat.lt_succ_self _) ⟨h.z (Or.inr rfl), uZ_s, by rw [uZ_n (by decide)]; exact h27, by omega, PS.nil⟩ (Or.inl ⟨rfl, rfl⟩)
  exact ⟨r, z', f', mcall_i (mq251 (cu := [])).2.2 rfl (vc251_0 _ _ _ _ _ _ _ v1), RA.pre (FRa.z (Or.inr rfl)) (Nat.le_refl _) (Nat.le_refl _) v2⟩
