/-! a thumb left, on both sides -/
section TWs
variable {W : TXW}
set_option maxRecDepth 100000 in
theorem bn_94_1 (call : QC FA) (x1 : Int32) (x2 : Int32) (o3 : Option PV) (o4 : Option PV) (o5 : Option PV) (o6 : Option PV) (o7 : Option PV) (z : Nat → Int32) (f : Nat → FA) (F : Nat) : xnG call 94 (F + 4) 0 [some (vR 8), some (vI x1), some (vI x2), o3, o4, o5, o6, o7] [] (LW W z f) = xnG call 94 F 4 [some (vR 8), some (vI x1), some (vI x2), o3, o4, o5, o6, o7] [vI 2, vI x1, vR 2] (LW W z f) := rfl
set_option maxRecDepth 100000 in
theorem bn_94_2 (call : QC FA) (a0 : Int32) (a1 : Int32) (ls : List (Option PV)) (z : Nat → Int32) (f : Nat → FA) (F : Nat) : xnG call 94 (F + 1) 4 ls [vI a1, vI a0, vR 2] (LW W z f) = cbd (call 13 [vR 2, vI a0, vI a1] (LW W z f)) (fun r L' => xnG call 94 F 5 ls (r.toList ++ []) L') := pcY (ih := xnG call 94 F) (call := call) (a := 13) (b := 2) (v := 0) (t := 5) (x := 2) (ls := ls) (As := [vI a0, vI a1]) (st' := []) (L := LW W z f) rfl rfl rfl
set_option maxRecDepth 100000 in
theorem bn_94_3 (call : QC FA) (x1 : Int32) (x2 : Int32) (o3 : Option PV) (o4 : Option PV) (o5 : Option PV) (o6 : Option PV) (o7 : Option PV) (s0 : Int32) (L : QH FA) (F : Nat) : xnG call 94 (F + 3) 5 [some (vR 8), some (vI x1), some (vI x2), o3, o4, o5, o6, o7] [vI s0] L = xnG call 94 F 8 [some (vR 8), some (vI x1), some (vI x2), some (vI s0), some (vI 0), o5, o6, o7] [] L := rfl
theorem vcn_94_0 (call : QC FA) (x1 : Int32) (x2 : Int32) (o3 : Option PV) (o4 : Option PV) (o5 : Option PV) (o6 : Option PV) (o7 : Option PV) (z : Nat → Int32) (f : Nat → FA) (res : Option PV × QH FA) (H : (∃ (r1 : Int32) (z1 : Nat → Int32) (f1 : Nat → FA), call 13 [vR 2, vI x1, vI 2] (LW W z f) = some (some (vI r1), LW W z1 f1) ∧ XC call (mP 94) 8 [some (vR 8), some (vI x1), some (vI x2), some (vI r1), some (vI 0), o5, o6, o7] [] (LW W z1 f1) res)) : XC call (mP 94) 0 [some (vR 8), some (vI x1), some (vI x2), o3, o4, o5, o6, o7] [] (LW W z f) res := by
  refine xc_b (i' := 4) (ls' := [some (vR 8), some (vI x1), some (vI x2), o3, o4, o5, o6, o7]) (st' := [vI 2, vI x1, vR 2]) (L' := LW W z f) 4 (bn_94_1 call x1 x2 o3 o4 o5 o6 o7 z f) ?_
  obtain ⟨r1, z1, f1, hc, H⟩ := H
  refine xc_call (t := 5) (ls' := [some (vR 8), some (vI x1), some (vI x2), o3, o4, o5, o6, o7]) (st' := []) (bn_94_2 call x1 2 _ z f) hc ?_
  show XC call (mP 94) 5 [some (vR 8), some (vI x1), some (vI x2), o3, o4, o5, o6, o7] [vI r1] (LW W z1 f1) res
  refine xc_b (i' := 8) (ls' := [some (vR 8), some (vI x1), some (vI x2), some (vI r1), some (vI 0), o5, o6, o7]) (st' := []) (L' := LW W z1 f1) 3 (bn_94_3 call x1 x2 o3 o4 o5 o6 o7 r1 _) ?_
  exact H
set_option maxRecDepth 100000 in
theorem bn_c8_94_1 (call : QC FA) (x1 : Int32) (x2 : Int32) (x3 : Int32) (x4 : Int32) (o5 : Option PV) (o6 : Option PV) (o7 : Option PV) (L : QH FA) (F : Nat) : xnG call 94 (F + 2) 8 [some (vR 8), some (vI x1), some (vI x2), some (vI x3), some (vI x4), o5, o6, o7] [] L = xnG call 94 F 10 [some (vR 8), some (vI x1), some (vI x2), some (vI x3), some (vI x4), o5, o6, o7] [vI x3, vI x4] L := rfl
set_option maxRecDepth 100000 in
theorem bn_c8_94_2 (call : QC FA) (x y : Int32) (ls : List (Option PV)) (L : QH FA) (F : Nat) : xnG call 94 (F + 1) 10 ls [vI y, vI x] L = bif pcmp 3 x y then xnG call 94 F 25 ls [] L else xnG call 94 F 11 ls [] L := rfl
set_option maxRecDepth 100000 in
theorem bn_c8_94_3 (call : QC FA) (x1 : Int32) (x2 : Int32) (x3 : Int32) (x4 : Int32) (o5 : Option PV) (o6 : Option PV) (o7 : Option PV) (z : Nat → Int32) (f : Nat → FA) (F : Nat) : xnG call 94 (F + 9) 25 [some (vR 8), some (vI x1), some (vI x2), some (vI x3), some (vI x4), o5, o6, o7] [] (LW W z f) = xnG call 94 F 34 [some (vR 8), some (vI x1), some (vI x2), some (vI x3), some (vI x4), some (vI ((x4 * 12) + x2)), o6, o7] [vI ((x4 * 12) + x2), vR 2] (LW W z f) := rfl
set_option maxRecDepth 100000 in
theorem bn_c8_94_4 (call : QC FA) (a0 : Int32) (ls : List (Option PV)) (z : Nat → Int32) (f : Nat → FA) (F : Nat) : xnG call 94 (F + 1) 34 ls [vI a0, vR 2] (LW W z f) = cbd (call 6 [vR 2, vI a0] (LW W z f)) (fun r L' => xnG call 94 F 35 ls (r.toList ++ []) L') := pcY (ih := xnG call 94 F) (call := call) (a := 6) (b := 1) (v := 0) (t := 35) (x := 2) (ls := ls) (As := [vI a0]) (st' := []) (L := LW W z f) rfl rfl rfl
set_option maxRecDepth 100000 in
theorem bn_c8_94_5 (call : QC FA) (x : Int32) (ls : List (Option PV)) (L : QH FA) (F : Nat) : xnG call 94 (F + 1) 35 ls [vI x] L = bif pcmp 0 x 0 then xnG call 94 F 38 ls [] L else xnG call 94 F 36 ls [] L := rfl
set_option maxRecDepth 100000 in
theorem bn_c8_94_6 (call : QC FA) (x1 : Int32) (x2 : Int32) (x3 : Int32) (x4 : Int32) (x5 : Int32) (o6 : Option PV) (o7 : Option PV) (z : Nat → Int32) (f : Nat → FA) (F : Nat) : xnG call 94 (F + 7) 38 [some (vR 8), some (vI x1), some (vI x2), some (vI x3), some (vI x4), some (vI x5), o6, o7] [] (LW W z f) = xnG call 94 F 45 [some (vR 8), some (vI x1), some (vI x2), some (vI x3), some (vI x4), some (vI x5), some (vI 0), o7] [vI 3, vI x1, vR 2, vI 1] (LW W z f) := rfl
set_option maxRecDepth 100000 in
theorem bn_c8_94_7 (call : QC FA) (a0 : Int32) (a1 : Int32) (s0 : Int32) (ls : List (Option PV)) (z : Nat → Int32) (f : Nat → FA) (F : Nat) : xnG call 94 (F + 1) 45 ls [vI a1, vI a0, vR 2, vI s0] (LW W z f) = cbd (call 13 [vR 2, vI a0, vI a1] (LW W z f)) (fun r L' => xnG call 94 F 46 ls (r.toList ++ [vI s0]) L') := pcY (ih := xnG call 94 F) (call := call) (a := 13) (b := 2) (v := 0) (t := 46) (x := 2) (ls := ls) (As := [vI a0, vI a1]) (st' := [vI s0]) (L := LW W z f) rfl rfl rfl
set_option maxRecDepth 100000 in
theorem bn_c8_94_8 (call : QC FA) (x1 : Int32) (x2 : Int32) (x3 : Int32) (x4 : Int32) (x5 : Int32) (x6 : Int32) (o7 : Option PV) (s0 : Int32) (s1 : Int32) (L : QH FA) (F : Nat) : xnG call 94 (F + 1) 46 [some (vR 8), some (vI x1), some (vI x2), some (vI x3), some (vI x4), some (vI x5), some (vI x6), o7] [vI s0, vI s1] L = xnG call 94 F 47 [some (vR 8), some (vI x1), some (vI x2), some (vI x3), some (vI x4), some (vI x5), some (vI x6), o7] [vI 2, vI s0, vI s1] L := rfl
set_option maxRecDepth 100000 in
theorem bn_c8_94_9 (call : QC FA) (x y : Int32) (s0 : Int32) (ls : List (Option PV)) (L : QH FA) (F : Nat) : xnG call 94 (F + 1) 47 ls [vI y, vI x, vI s0] L = bif pcmp 1 y 0 then xnG call 94 F 48 ls [vI (x / y), vI s0] L else none := rfl
set_option maxRecDepth 100000 in
theorem bn_c8_94_10 (call : QC FA) (x1 : Int32) (x2 : Int32) (x3 : Int32) (x4 : Int32) (x5 : Int32) (x6 : Int32) (o7 : Option PV) (s0 : Int32) (s1 : Int32) (L : QH FA) (F : Nat) : xnG call 94 (F + 2) 48 [some (vR 8), some (vI x1), some (vI x2), some (vI x3), some (vI x4), some (vI x5), some (vI x6), o7] [vI s0, vI s1] L = xnG call 94 F 50 [some (vR 8), some (vI x1), some (vI x2), some (vI x3), some (vI x4), some (vI x5), some (vI x6), o7] [vI 9, vI (s1 + s0)] L := rfl
set_option maxRecDepth 100000 in
theorem bn_c8_94_11 (call : QC FA) (x y : Int32) (ls : List (Option PV)) (L : QH FA) (F : Nat) : xnG call 94 (F + 1) 50 ls [vI y, vI x] L = bif pcmp 2 y x then xnG call 94 F 51 ls [vI y] L else xnG call 94 F 51 ls [vI x] L := pmn (xnG call 94 F) 51 x y ls [] L rfl
set_option maxRecDepth 100000 in
theorem bn_c8_94_12 (call : QC FA) (x1 : Int32) (x2 : Int32) (x3 : Int32) (x4 : Int32) (x5 : Int32) (x6 : Int32) (o7 : Option PV) (s0 : Int32) (z : Nat → Int32) (f : Nat → FA) (F : Nat) : xnG call 94 (F + 9) 51 [some (vR 8), some (vI x1), some (vI x2), some (vI x3), some (vI x4), some (vI x5), some (vI x6), o7] [vI s0] (LW W z f) = xnG call 94 F 60 [some (vR 8), some (vI x1), some (vI x2), some (vI x3), some (vI x4), some (vI x5), some (vI x6), some (vI s0)] [vI 1, vI x1, vR 2, vI x1, vI x5, vR 2] (LW W z f) := rfl
set_option maxRecDepth 100000 in
theorem bn_c8_94_13 (call : QC FA) (a0 : Int32) (a1 : Int32) (s0 : Int32) (s1 : Int32) (ls : List (Option PV)) (z : Nat → Int32) (f : Nat → FA) (F : Nat) : xnG call 94 (F + 1) 60 ls [vI a1, vI a0, vR 2, vI s0, vI s1, vR 2] (LW W z f) = cbd (call 13 [vR 2, vI a0, vI a1] (LW W z f)) (fun r L' => xnG call 94 F 61 ls (r.toList ++ [vI s0, vI s1, vR 2]) L') := pcY (ih := xnG call 94 F) (call := call) (a := 13) (b := 2) (v := 0) (t := 61) (x := 2) (ls := ls) (As := [vI a0, vI a1]) (st' := [vI s0, vI s1, vR 2]) (L := LW W z f) rfl rfl rfl
set_option maxRecDepth 100000 in
theorem bn_c8_94_14 (call : QC FA) (x1 : Int32) (x2 : Int32) (x3 : Int32) (x4 : Int32) (x5 : Int32) (x6 : Int32) (x7 : Int32) (s0 : Int32) (s1 : Int32) (s2 : Int32) (L : QH FA) (F : Nat) : xnG call 94 (F + 1) 61 [some (vR 8), some (vI x1), some (vI x2), some (vI x3), some (vI x4), some (vI x5), some (vI x6), some (vI x7)] [vI s0, vI s1, vI s2, vR 2] L = xnG call 94 F 62 [some (vR 8), some (vI x1), some (vI x2), some (vI x3), some (vI x4), some (vI x5), some (vI x6), some (vI x7)] [vI x7, vI s0, vI s1, vI s2, vR 2] L := rfl
set_option maxRecDepth 100000 in
theorem bn_c8_94_15 (call : QC FA) (a0 : Int32) (a1 : Int32) (a2 : Int32) (a3 : Int32) (ls : List (Option PV)) (z : Nat → Int32) (f : Nat → FA) (F : Nat) : xnG call 94 (F + 1) 62 ls [vI a3, vI a2, vI a1, vI a0, vR 2] (LW W z f) = cbd (call 86 [vR 2, vI a0, vI a1, vI a2, vI a3] (LW W z f)) (fun r L' => xnG call 94 F 63 ls (r.toList ++ []) L') := pcY (ih := xnG call 94 F) (call := call) (a := 86) (b := 4) (v := 0) (t := 63) (x := 2) (ls := ls) (As := [vI a0, vI a1, vI a2, vI a3]) (st' := []) (L := LW W z f) rfl rfl rfl
set_option maxRecDepth 100000 in
theorem bn_c8_94_16 (call : QC FA) (x1 : Int32) (x2 : Int32) (x3 : Int32) (x4 : Int32) (x5 : Int32) (x6 : Int32) (x7 : Int32) (z : Nat → Int32) (f : Nat → FA) (F : Nat) : xnG call 94 (F + 8) 63 [some (vR 8), some (vI x1), some (vI x2), some (vI x3), some (vI x4), some (vI x5), some (vI x6), some (vI x7)] [] (LW W z f) = xnG call 94 F 71 [some (vR 8), some (vI x1), some (vI x2), some (vI x3), some (vI x4), some (vI x5), some (vI x6), some (vI x7)] [vI 5, vI x1, vR 2, vI 5, vI x1, vR 2] (LW W z f) := rfl
set_option maxRecDepth 100000 in
theorem bn_c8_94_17 (call : QC FA) (a0 : Int32) (a1 : Int32) (s0 : Int32) (s1 : Int32) (ls : List (Option PV)) (z : Nat → Int32) (f : Nat → FA) (F : Nat) : xnG call 94 (F + 1) 71 ls [vI a1, vI a0, vR 2, vI s0, vI s1, vR 2] (LW W z f) = cbd (call 13 [vR 2, vI a0, vI a1] (LW W z f)) (fun r L' => xnG call 94 F 72 ls (r.toList ++ [vI s0, vI s1, vR 2]) L') := pcY (ih := xnG call 94 F) (call := call) (a := 13) (b := 2) (v := 0) (t := 72) (x := 2) (ls := ls) (As := [vI a0, vI a1]) (st' := [vI s0, vI s1, vR 2]) (L := LW W z f) rfl rfl rfl
set_option maxRecDepth 100000 in
theorem bn_c8_94_18 (call : QC FA) (x1 : Int32) (x2 : Int32) (x3 : Int32) (x4 : Int32) (x5 : Int32) (x6 : Int32) (x7 : Int32) (s0 : Int32) (s1 : Int32) (s2 : Int32) (L : QH FA) (F : Nat) : xnG call 94 (F + 2) 72 [some (vR 8), some (vI x1), some (vI x2), some (vI x3), some (vI x4), some (vI x5), some (vI x6), some (vI x7)] [vI s0, vI s1, vI s2, vR 2] L = xnG call 94 F 74 [some (vR 8), some (vI x1), some (vI x2), some (vI x3), some (vI x4), some (vI x5), some (vI x6), some (vI x7)] [vI (s0 + 1), vI s1, vI s2, vR 2] L := rfl
set_option maxRecDepth 100000 in
theorem bn_c8_94_19 (call : QC FA) (a0 : Int32) (a1 : Int32) (a2 : Int32) (ls : List (Option PV)) (z : Nat → Int32) (f : Nat → FA) (F : Nat) : xnG call 94 (F + 1) 74 ls [vI a2, vI a1, vI a0, vR 2] (LW W z f) = cbd (call 87 [vR 2, vI a0, vI a1, vI a2] (LW W z f)) (fun r L' => xnG call 94 F 75 ls (r.toList ++ []) L') := pcY (ih := xnG call 94 F) (call := call) (a := 87) (b := 3) (v := 0) (t := 75) (x := 2) (ls := ls) (As := [vI a0, vI a1, vI a2]) (st' := []) (L := LW W z f) rfl rfl rfl
set_option maxRecDepth 100000 in
theorem bn_c8_94_20 (call : QC FA) (x1 : Int32) (x2 : Int32) (x3 : Int32) (x4 : Int32) (x5 : Int32) (x6 : Int32) (x7 : Int32) (L : QH FA) (F : Nat) : xnG call 94 (F + 4) 75 [some (vR 8), some (vI x1), some (vI x2), some (vI x3), some (vI x4), some (vI x5), some (vI x6), some (vI x7)] [] L = xnG call 94 F 79 [some (vR 8), some (vI x1), some (vI x2), some (vI x3), some (vI x4), some (vI x5), some (vI x6), some (vI x7)] [vI x5, vI x1, vI x6, vR 8] L := rfl
set_option maxRecDepth 100000 in
theorem bn_c8_94_21 (call : QC FA) (a0 : Int32) (a1 : Int32) (a2 : Int32) (ls : List (Option PV)) (z : Nat → Int32) (f : Nat → FA) (F : Nat) : xnG call 94 (F + 1) 79 ls [vI a2, vI a1, vI a0, vR 8] (LW W z f) = cbd (call 97 [vR 8, vI a0, vI a1, vI a2] (LW W z f)) (fun r L' => xnG call 94 F 80 ls (r.toList ++ []) L') := pcY (ih := xnG call 94 F) (call := call) (a := 97) (b := 3) (v := 1) (t := 80) (x := 8) (ls := ls) (As := [vI a0, vI a1, vI a2]) (st' := []) (L := LW W z f) rfl rfl rfl
set_option maxRecDepth 100000 in
theorem bn_c8_94_22 (call : QC FA) (x1 : Int32) (x2 : Int32) (x3 : Int32) (x4 : Int32) (x5 : Int32) (x6 : Int32) (x7 : Int32) (L : QH FA) (F : Nat) : xnG call 94 (F + 1) 80 [some (vR 8), some (vI x1), some (vI x2), some (vI x3), some (vI x4), some (vI x5), some (vI x6), some (vI x7)] [] L = xnG call 94 F 81 [some (vR 8), some (vI x1), some (vI x2), some (vI x3), some (vI x4), some (vI x5), some (vI x6), some (vI x7)] [vI x5] L := rfl
set_option maxRecDepth 100000 in
theorem bn_c8_94_23 (call : QC FA) (x : Int32) (ls : List (Option PV)) (L : QH FA) (F : Nat) : xnG call 94 (F + 1) 81 ls [vI x] L = some (some (vI x), L) := rfl
set_option maxRecDepth 100000 in
theorem bn_c8_94_24 (call : QC FA) (x1 : Int32) (x2 : Int32) (x3 : Int32) (x4 : Int32) (x5 : Int32) (o6 : Option PV) (o7 : Option PV) (z : Nat → Int32) (f : Nat → FA) (F : Nat) : xnG call 94 (F + 8) 36 [some (vR 8), some (vI x1), some (vI x2), some (vI x3), some (vI x4), some (vI x5), o6, o7] [] (LW W z f) = xnG call 94 F 45 [some (vR 8), some (vI x1), some (vI x2), some (vI x3), some (vI x4), some (vI x5), some (vI 1), o7] [vI 3, vI x1, vR 2, vI 1] (LW W z f) := rfl
set_option maxRecDepth 100000 in
theorem bn_c8_94_25 (call : QC FA) (x1 : Int32) (x2 : Int32) (x3 : Int32) (x4 : Int32) (o5 : Option PV) (o6 : Option PV) (o7 : Option PV) (L : QH FA) (F : Nat) : xnG call 94 (F + 2) 11 [some (vR 8), some (vI x1), some (vI x2), some (vI x3), some (vI x4), o5, o6, o7] [] L = xnG call 94 F 13 [some (vR 8), some (vI x1), some (vI x2), some (vI x3), some (vI x4), o5, o6, o7] [vI 11, vI x4] L := rfl
set_option maxRecDepth 100000 in
theorem bn_c8_94_26 (call : QC FA) (x y : Int32) (ls : List (Option PV)) (L : QH FA) (F : Nat) : xnG call 94 (F + 1) 13 ls [vI y, vI x] L = bif pcmp 3 x y then xnG call 94 F 25 ls [] L else xnG call 94 F 14 ls [] L := rfl
set_option maxRecDepth 100000 in
theorem bn_c8_94_27 (call : QC FA) (x1 : Int32) (x2 : Int32) (x3 : Int32) (x4 : Int32) (o5 : Option PV) (o6 : Option PV) (o7 : Option PV) (z : Nat → Int32) (f : Nat → FA) (F : Nat) : xnG call 94 (F + 7) 14 [some (vR 8), some (vI x1), some (vI x2), some (vI x3), some (vI x4), o5, o6, o7] [] (LW W z f) = xnG call 94 F 21 [some (vR 8), some (vI x1), some (vI x2), some (vI x3), some (vI x4), o5, o6, o7] [vI ((x4 * 12) + x2), vR 2] (LW W z f) := rfl
set_option maxRecDepth 100000 in
theorem bn_c8_94_28 (call : QC FA) (a0 : Int32) (ls : List (Option PV)) (z : Nat → Int32) (f : Nat → FA) (F : Nat) : xnG call 94 (F + 1) 21 ls [vI a0, vR 2] (LW W z f) = cbd (call 6 [vR 2, vI a0] (LW W z f)) (fun r L' => xnG call 94 F 22 ls (r.toList ++ []) L') := pcY (ih := xnG call 94 F) (call := call) (a := 6) (b := 1) (v := 0) (t := 22) (x := 2) (ls := ls) (As := [vI a0]) (st' := []) (L := LW W z f) rfl rfl rfl
set_option maxRecDepth 100000 in
theorem bn_c8_94_29 (call : QC FA) (x : Int32) (ls : List (Option PV)) (L : QH FA) (F : Nat) : xnG call 94 (F + 1) 22 ls [vI x] L = bif pcmp 0 x 0 then xnG call 94 F 25 ls [] L else xnG call 94 F 23 ls [] L := rfl
set_option maxRecDepth 100000 in
theorem bn_c8_94_30 (call : QC FA) (x1 : Int32) (x2 : Int32) (x3 : Int32) (x4 : Int32) (o5 : Option PV) (o6 : Option PV) (o7 : Option PV) (L : QH FA) (F : Nat) : xnG call 94 (F + 1) 23 [some (vR 8), some (vI x1), some (vI x2), some (vI x3), some (vI x4), o5, o6, o7] [] L = xnG call 94 F 24 [some (vR 8), some (vI x1), some (vI x2), some (vI x3), some (vI (x4 + 1)), o5, o6, o7] [] L := rfl
set_option maxRecDepth 100000 in
theorem bn_c8_94_31 (call : QC FA) (x1 : Int32) (x2 : Int32) (x3 : Int32) (x4 : Int32) (o5 : Option PV) (o6 : Option PV) (o7 : Option PV) (L : QH FA) (F : Nat) : xnG call 94 (F + 1) 24 [some (vR 8), some (vI x1), some (vI x2), some (vI x3), some (vI x4), o5, o6, o7] [] L = xnG call 94 F 8 [some (vR 8), some (vI x1), some (vI x2), some (vI x3), some (vI x4), o5, o6, o7] [] L := rfl
theorem vcn_c8_94_8 (call : QC FA) (x1 : Int32) (x2 : Int32) (x3 : Int32) (x4 : Int32) (o5 : Option PV) (o6 : Option PV) (o7 : Option PV) (z : Nat → Int32) (f : Nat → FA) (res : Option PV × QH FA) (H : ((I x3 ≤ I x4 → (∃ (r1 : Int32) (z1 : Nat → Int32) (f1 : Nat → FA), call 6 [vR 2, vI ((x4 * 12) + x2)] (LW W z f) = some (some (vI r1), LW W z1 f1) ∧ ((r1 = 0 → (∃ (r2 : Int32) (z2 : Nat → Int32) (f2 : Nat → FA), call 13 [vR 2, vI x1, vI 3] (LW W z1 f1) = some (some (vI r2), LW W z2 f2) ∧ (¬ (2 : Int32) = 0 ∧ ((9 < I (1 + (r2 / 2)) → (∃ (r3 : Int32) (z3 : Nat → Int32) (f3 : Nat → FA), call 13 [vR 2, vI x1, vI 1] (LW W z2 f2) = some (some (vI r3), LW W z3 f3) ∧ (∃ (z4 : Nat → Int32) (f4 : Nat → FA), call 86 [vR 2, vI ((x4 * 12) + x2), vI x1, vI r3, vI 9] (LW W z3 f3) = some (none, LW W z4 f4) ∧ (∃ (r5 : Int32) (z5 : Nat → Int32) (f5 : Nat → FA), call 13 [vR 2, vI x1, vI 5] (LW W z4 f4) = some (some (vI r5), LW W z5 f5) ∧ (∃ (z6 : Nat → Int32) (f6 : Nat → FA), call 87 [vR 2, vI x1, vI 5, vI (r5 + 1)] (LW W z5 f5) = some (none, LW W z6 f6) ∧ (∃ (z7 : Nat → Int32) (f7 : Nat → FA), call 97 [vR 8, vI 0, vI x1, vI ((x4 * 12) + x2)] (LW W z6 f6) = some (none, LW W z7 f7) ∧ res = (some (vI ((x4 * 12) + x2)), LW W z7 f7))))))) ∧ (I (1 + (r2 / 2)) ≤ 9 → (∃ (r8 : Int32) (z8 : Nat → Int32) (f8 : Nat → FA), call 13 [vR 2, vI x1, vI 1] (LW W z2 f2) = some (some (vI r8), LW W z8 f8) ∧ (∃ (z9 : Nat → Int32) (f9 : Nat → FA), call 86 [vR 2, vI ((x4 * 12) + x2), vI x1, vI r8, vI (1 + (r2 / 2))] (LW W z8 f8) = some (none, LW W z9 f9) ∧ (∃ (r10 : Int32) (z10 : Nat → Int32) (f10 : Nat → FA), call 13 [vR 2, vI x1, vI 5] (LW W z9 f9) = some (some (vI r10), LW W z10 f10) ∧ (∃ (z11 : Nat → Int32) (f11 : Nat → FA), call 87 [vR 2, vI x1, vI 5, vI (r10 + 1)] (LW W z10 f10) = some (none, LW W z11 f11) ∧ (∃ (z12 : Nat → Int32) (f12 : Nat → FA), call 97 [vR 8, vI 0, vI x1, vI ((x4 * 12) + x2)] (LW W z11 f11) = some (none, LW W z12 f12) ∧ res = (some (vI ((x4 * 12) + x2)), LW W z12 f12))))))))))) ∧ (¬ r1 = 0 → (∃ (r13 : Int32) (z13 : Nat → Int32) (f13 : Nat → FA), call 13 [vR 2, vI x1, vI 3] (LW W z1 f1) = some (some (vI r13), LW W z13 f13) ∧ (¬ (2 : Int32) = 0 ∧ ((9 < I (1 + (r13 / 2)) → (∃ (r14 : Int32) (z14 : Nat → Int32) (f14 : Nat → FA), call 13 [vR 2, vI x1, vI 1] (LW W z13 f13) = some (some (vI r14), LW W z14 f14) ∧ (∃ (z15 : Nat → Int32) (f15 : Nat → FA), call 86 [vR 2, vI ((x4 * 12) + x2), vI x1, vI r14, vI 9] (LW W z14 f14) = some (none, LW W z15 f15) ∧ (∃ (r16 : Int32) (z16 : Nat → Int32) (f16 : Nat → FA), call 13 [vR 2, vI x1, vI 5] (LW W z15 f15) = some (some (vI r16), LW W z16 f16) ∧ (∃ (z17 : Nat → Int32) (f17 : Nat → FA), call 87 [vR 2, vI x1, vI 5, vI (r16 + 1)] (LW W z16 f16) = some (none, LW W z17 f17) ∧ (∃ (z18 : Nat → Int32) (f18 : Nat → FA), call 97 [vR 8, vI 1, vI x1, vI ((x4 * 12) + x2)] (LW W z17 f17) = some (none, LW W z18 f18) ∧ res = (some (vI ((x4 * 12) + x2)), LW W z18 f18))))))) ∧ (I (1 + (r13 / 2)) ≤ 9 → (∃ (r19 : Int32) (z19 : Nat → Int32) (f19 : Nat → FA), call 13 [vR 2, vI x1, vI 1] (LW W z13 f13) = some (some (vI r19), LW W z19 f19) ∧ (∃ (z20 : Nat → Int32) (f20 : Nat → FA), call 86 [vR 2, vI ((x4 * 12) + x2), vI x1, vI r19, vI (1 + (r13 / 2))] (LW W z19 f19) = some (none, LW W z20 f20) ∧ (∃ (r21 : Int32) (z21 : Nat → Int32) (f21 : Nat → FA), call 13 [vR 2, vI x1, vI 5] (LW W z20 f20) = some (some (vI r21), LW W z21 f21) ∧ (∃ (z22 : Nat → Int32) (f22 : Nat → FA), call 87 [vR 2, vI x1, vI 5, vI (r21 + 1)] (LW W z21 f21) = some (none, LW W z22 f22) ∧ (∃ (z23 : Nat → Int32) (f23 : Nat → FA), call 97 [vR 8, vI 1, vI x1, vI ((x4 * 12) + x2)] (LW W z22 f22) = some (none, LW W z23 f23) ∧ res = (some (vI ((x4 * 12) + x2)), LW W z23 f23)))))))))))))) ∧ (I x4 < I x3 → ((11 ≤ I x4 → (∃ (r24 : Int32) (z24 : Nat → Int32) (f24 : Nat → FA), call 6 [vR 2, vI ((x4 * 12) + x2)] (LW W z f) = some (some (vI r24), LW W z24 f24) ∧ ((r24 = 0 → (∃ (r25 : Int32) (z25 : Nat → Int32) (f25 : Nat → FA), call 13 [vR 2, vI x1, vI 3] (LW W z24 f24) = some (some (vI r25), LW W z25 f25) ∧ (¬ (2 : Int32) = 0 ∧ ((9 < I (1 + (r25 / 2)) → (∃ (r26 : Int32) (z26 : Nat → Int32) (f26 : Nat → FA), call 13 [vR 2, vI x1, vI 1] (LW W z25 f25) = some (some (vI r26), LW W z26 f26) ∧ (∃ (z27 : Nat → Int32) (f27 : Nat → FA), call 86 [vR 2, vI ((x4 * 12) + x2), vI x1, vI r26, vI 9] (LW W z26 f26) = some (none, LW W z27 f27) ∧ (∃ (r28 : Int32) (z28 : Nat → Int32) (f28 : Nat → FA), call 13 [vR 2, vI x1, vI 5] (LW W z27 f27) = some (some (vI r28), LW W z28 f28) ∧ (∃ (z29 : Nat → Int32) (f29 : Nat → FA), call 87 [vR 2, vI x1, vI 5, vI (r28 + 1)] (LW W z28 f28) = some (none, LW W z29 f29) ∧ (∃ (z30 : Nat → Int32) (f30 : Nat → FA), call 97 [vR 8, vI 0, vI x1, vI ((x4 * 12) + x2)] (LW W z29 f29) = some (none, LW W z30 f30) ∧ res = (some (vI ((x4 * 12) + x2)), LW W z30 f30))))))) ∧ (I (1 + (r25 / 2)) ≤ 9 → (∃ (r31 : Int32) (z31 : Nat → Int32) (f31 : Nat → FA), call 13 [vR 2, vI x1, vI 1] (LW W z25 f25) = some (some (vI r31), LW W z31 f31) ∧ (∃ (z32 : Nat → Int32) (f32 : Nat → FA), call 86 [vR 2, vI ((x4 * 12) + x2), vI x1, vI r31, vI (1 + (r25 / 2))] (LW W z31 f31) = some (none, LW W z32 f32) ∧ (∃ (r33 : Int32) (z33 : Nat → Int32) (f33 : Nat → FA), call 13 [vR 2, vI x1, vI 5] (LW W z32 f32) = some (some (vI r33), LW W z33 f33) ∧ (∃ (z34 : Nat → Int32) (f34 : Nat → FA), call 87 [vR 2, vI x1, vI 5, vI (r33 + 1)] (LW W z33 f33) = some (none, LW W z34 f34) ∧ (∃ (z35 : Nat → Int32) (f35 : Nat → FA), call 97 [vR 8, vI 0, vI x1, vI ((x4 * 12) + x2)] (LW W z34 f34) = some (none, LW W z35 f35) ∧ res = (some (vI ((x4 * 12) + x2)), LW W z35 f35))))))))))) ∧ (¬ r24 = 0 → (∃ (r36 : Int32) (z36 : Nat → Int32) (f36 : Nat → FA), call 13 [vR 2, vI x1, vI 3] (LW W z24 f24) = some (some (vI r36), LW W z36 f36) ∧ (¬ (2 : Int32) = 0 ∧ ((9 < I (1 + (r36 / 2)) → (∃ (r37 : Int32) (z37 : Nat → Int32) (f37 : Nat → FA), call 13 [vR 2, vI x1, vI 1] (LW W z36 f36) = some (some (vI r37), LW W z37 f37) ∧ (∃ (z38 : Nat → Int32) (f38 : Nat → FA), call 86 [vR 2, vI ((x4 * 12) + x2), vI x1, vI r37, vI 9] (LW W z37 f37) = some (none, LW W z38 f38) ∧ (∃ (r39 : Int32) (z39 : Nat → Int32) (f39 : Nat → FA), call 13 [vR 2, vI x1, vI 5] (LW W z38 f38) = some (some (vI r39), LW W z39 f39) ∧ (∃ (z40 : Nat → Int32) (f40 : Nat → FA), call 87 [vR 2, vI x1, vI 5, vI (r39 + 1)] (LW W z39 f39) = some (none, LW W z40 f40) ∧ (∃ (z41 : Nat → Int32) (f41 : Nat → FA), call 97 [vR 8, vI 1, vI x1, vI ((x4 * 12) + x2)] (LW W z40 f40) = some (none, LW W z41 f41) ∧ res = (some (vI ((x4 * 12) + x2)), LW W z41 f41))))))) ∧ (I (1 + (r36 / 2)) ≤ 9 → (∃ (r42 : Int32) (z42 : Nat → Int32) (f42 : Nat → FA), call 13 [vR 2, vI x1, vI 1] (LW W z36 f36) = some (some (vI r42), LW W z42 f42) ∧ (∃ (z43 : Nat → Int32) (f43 : Nat → FA), call 86 [vR 2, vI ((x4 * 12) + x2), vI x1, vI r42, vI (1 + (r36 / 2))] (LW W z42 f42) = some (none, LW W z43 f43) ∧ (∃ (r44 : Int32) (z44 : Nat → Int32) (f44 : Nat → FA), call 13 [vR 2, vI x1, vI 5] (LW W z43 f43) = some (some (vI r44), LW W z44 f44) ∧ (∃ (z45 : Nat → Int32) (f45 : Nat → FA), call 87 [vR 2, vI x1, vI 5, vI (r44 + 1)] (LW W z44 f44) = some (none, LW W z45 f45) ∧ (∃ (z46 : Nat → Int32) (f46 : Nat → FA), call 97 [vR 8, vI 1, vI x1, vI ((x4 * 12) + x2)] (LW W z45 f45) = some (none, LW W z46 f46) ∧ res = (some (vI ((x4 * 12) + x2)), LW W z46 f46)))))))))))))) ∧ (I x4 < 11 → (∃ (r47 : Int32) (z47 : Nat → Int32) (f47 : Nat → FA), call 6 [vR 2, vI ((x4 * 12) + x2)] (LW W z f) = some (some (vI r47), LW W z47 f47) ∧ ((r47 = 0 → (∃ (r48 : Int32) (z48 : Nat → Int32) (f48 : Nat → FA), call 6 [vR 2, vI ((x4 * 12) + x2)] (LW W z47 f47) = some (some (vI r48), LW W z48 f48) ∧ ((r48 = 0 → (∃ (r49 : Int32) (z49 : Nat → Int32) (f49 : Nat → FA), call 13 [vR 2, vI x1, vI 3] (LW W z48 f48) = some (some (vI r49), LW W z49 f49) ∧ (¬ (2 : Int32) = 0 ∧ ((9 < I (1 + (r49 / 2)) → (∃ (r50 : Int32) (z50 : Nat → Int32) (f50 : Nat → FA), call 13 [vR 2, vI x1, vI 1] (LW W z49 f49) = some (some (vI r50), LW W z50 f50) ∧ (∃ (z51 : Nat → Int32) (f51 : Nat → FA), call 86 [vR 2, vI ((x4 * 12) + x2), vI x1, vI r50, vI 9] (LW W z50 f50) = some (none, LW W z51 f51) ∧ (∃ (r52 : Int32) (z52 : Nat → Int32) (f52 : Nat → FA), call 13 [vR 2, vI x1, vI 5] (LW W z51 f51) = some (some (vI r52), LW W z52 f52) ∧ (∃ (z53 : Nat → Int32) (f53 : Nat → FA), call 87 [vR 2, vI x1, vI 5, vI (r52 + 1)] (LW W z52 f52) = some (none, LW W z53 f53) ∧ (∃ (z54 : Nat → Int32) (f54 : Nat → FA), call 97 [vR 8, vI 0, vI x1, vI ((x4 * 12) + x2)] (LW W z53 f53) = some (none, LW W z54 f54) ∧ res = (some (vI ((x4 * 12) + x2)), LW W z54 f54))))))) ∧ (I (1 + (r49 / 2)) ≤ 9 → (∃ (r55 : Int32) (z55 : Nat → Int32) (f55 : Nat → FA), call 13 [vR 2, vI x1, vI 1] (LW W z49 f49) = some (some (vI r55), LW W z55 f55) ∧ (∃ (z56 : Nat → Int32) (f56 : Nat → FA), call 86 [vR 2, vI ((x4 * 12) + x2), vI x1, vI r55, vI (1 + (r49 / 2))] (LW W z55 f55) = some (none, LW W z56 f56) ∧ (∃ (r57 : Int32) (z57 : Nat → Int32) (f57 : Nat → FA), call 13 [vR 2, vI x1, vI 5] (LW W z56 f56) = some (some (vI r57), LW W z57 f57) ∧ (∃ (z58 : Nat → Int32) (f58 : Nat → FA), call 87 [vR 2, vI x1, vI 5, vI (r57 + 1)] (LW W z57 f57) = some (none, LW W z58 f58) ∧ (∃ (z59 : Nat → Int32) (f59 : Nat → FA), call 97 [vR 8, vI 0, vI x1, vI ((x4 * 12) + x2)] (LW W z58 f58) = some (none, LW W z59 f59) ∧ res = (some (vI ((x4 * 12) + x2)), LW W z59 f59))))))))))) ∧ (¬ r48 = 0 → (∃ (r60 : Int32) (z60 : Nat → Int32) (f60 : Nat → FA), call 13 [vR 2, vI x1, vI 3] (LW W z48 f48) = some (some (vI r60), LW W z60 f60) ∧ (¬ (2 : Int32) = 0 ∧ ((9 < I (1 + (r60 / 2)) → (∃ (r61 : Int32) (z61 : Nat → Int32) (f61 : Nat → FA), call 13 [vR 2, vI x1, vI 1] (LW W z60 f60) = some (some (vI r61), LW W z61 f61) ∧ (∃ (z62 : Nat → Int32) (f62 : Nat → FA), call 86 [vR 2, vI ((x4 * 12) + x2), vI x1, vI r61, vI 9] (LW W z61 f61) = some (none, LW W z62 f62) ∧ (∃ (r63 : Int32) (z63 : Nat → Int32) (f63 : Nat → FA), call 13 [vR 2, vI x1, vI 5] (LW W z62 f62) = some (some (vI r63), LW W z63 f63) ∧ (∃ (z64 : Nat → Int32) (f64 : Nat → FA), call 87 [vR 2, vI x1, vI 5, vI (r63 + 1)] (LW W z63 f63) = some (none, LW W z64 f64) ∧ (∃ (z65 : Nat → Int32) (f65 : Nat → FA), call 97 [vR 8, vI 1, vI x1, vI ((x4 * 12) + x2)] (LW W z64 f64) = some (none, LW W z65 f65) ∧ res = (some (vI ((x4 * 12) + x2)), LW W z65 f65))))))) ∧ (I (1 + (r60 / 2)) ≤ 9 → (∃ (r66 : Int32) (z66 : Nat → Int32) (f66 : Nat → FA), call 13 [vR 2, vI x1, vI 1] (LW W z60 f60) = some (some (vI r66), LW W z66 f66) ∧ (∃ (z67 : Nat → Int32) (f67 : Nat → FA), call 86 [vR 2, vI ((x4 * 12) + x2), vI x1, vI r66, vI (1 + (r60 / 2))] (LW W z66 f66) = some (none, LW W z67 f67) ∧ (∃ (r68 : Int32) (z68 : Nat → Int32) (f68 : Nat → FA), call 13 [vR 2, vI x1, vI 5] (LW W z67 f67) = some (some (vI r68), LW W z68 f68) ∧ (∃ (z69 : Nat → Int32) (f69 : Nat → FA), call 87 [vR 2, vI x1, vI 5, vI (r68 + 1)] (LW W z68 f68) = some (none, LW W z69 f69) ∧ (∃ (z70 : Nat → Int32) (f70 : Nat → FA), call 97 [vR 8, vI 1, vI x1, vI ((x4 * 12) + x2)] (LW W z69 f69) = some (none, LW W z70 f70) ∧ res = (some (vI ((x4 * 12) + x2)), LW W z70 f70)))))))))))))) ∧ (¬ r47 = 0 → XC call (mP 94) 8 [some (vR 8), some (vI x1), some (vI x2), some (vI x3), some (vI (x4 + 1)), o5, o6, o7] [] (LW W z47 f47) res)))))))) : XC call (mP 94) 8 [some (vR 8), some (vI x1), some (vI x2), some (vI x3), some (vI x4), o5, o6, o7] [] (LW W z f) res := by
  refine xc_b (i' := 10) (ls' := [some (vR 8), some (vI x1), some (vI x2), some (vI x3), some (vI x4), o5, o6, o7]) (st' := [vI x3, vI x4]) (L' := LW W z f) 2 (bn_c8_94_1 call x1 x2 x3 x4 o5 o6 o7 _) ?_
  refine xc_if (it := 25) (ie := 11) (ls' := [some (vR 8), some (vI x1), some (vI x2), some (vI x3), some (vI x4), o5, o6, o7]) (st' := []) (bn_c8_94_2 call x4 x3 _ _) (fun q1 => ?_) (fun q1 => ?_)
  · have H := H.1 (cI3t q1 rfl rfl)
    refine xc_b (i' := 34) (ls' := [some (vR 8), some (vI x1), some (vI x2), some (vI x3), some (vI x4), some (vI ((x4 * 12) + x2)), o6, o7]) (st' := [vI ((x4 * 12) + x2), vR 2]) (L' := LW W z f) 9 (bn_c8_94_3 call x1 x2 x3 x4 o5 o6 o7 z f) ?_
    obtain ⟨r1, z1, f1, hc, H⟩ := H
    refine xc_call (t := 35) (ls' := [some (vR 8), some (vI x1), some (vI x2), some (vI x3), some (vI x4), some (vI ((x4 * 12) + x2)), o6, o7]) (st' := []) (bn_c8_94_4 call ((x4 * 12) + x2) _ z f) hc ?_
    show XC call (mP 94) 35 [some (vR 8), some (vI x1), some (vI x2), some (vI x3), some (vI x4), some (vI ((x4 * 12) + x2)), o6, o7] [vI r1] (LW W z1 f1) res
    refine xc_if (it := 38) (ie := 36) (ls' := [some (vR 8), some (vI x1), some (vI x2), some (vI x3), some (vI x4), some (vI ((x4 * 12) + x2)), o6, o7]) (st' := []) (bn_c8_94_5 call r1 _ _) (fun q2 => ?_) (fun q2 => ?_)
    · have H := H.1 (cI0t q2)
      refine xc_b (i' := 45) (ls' := [some (vR 8), some (vI x1), some (vI x2), some (vI x3), some (vI x4), some (vI ((x4 * 12) + x2)), some (vI 0), o7]) (st' := [vI 3, vI x1, vR 2, vI 1]) (L' := LW W z1 f1) 7 (bn_c8_94_6 call x1 x2 x3 x4 ((x4 * 12) + x2) o6 o7 z1 f1) ?_
      obtain ⟨r2, z2, f2, hc, H⟩ := H
      refine xc_call (t := 46) (ls' := [some (vR 8), some (vI x1), some (vI x2), some (vI x3), some (vI x4), some (vI ((x4 * 12) + x2)), some (vI 0), o7]) (st' := [vI 1]) (bn_c8_94_7 call x1 3 1 _ z1 f1) hc ?_
      show XC call (mP 94) 46 [some (vR 8), some (vI x1), some (vI x2), some (vI x3), some (vI x4), some (vI ((x4 * 12) + x2)), some (vI 0), o7] [vI r2, vI 1] (LW W z2 f2) res
      refine xc_b (i' := 47) (ls' := [some (vR 8), some (vI x1), some (vI x2), some (vI x3), some (vI x4), some (vI ((x4 * 12) + x2)), some (vI 0), o7]) (st' := [vI 2, vI r2, vI 1]) (L' := LW W z2 f2) 1 (bn_c8_94_8 call x1 x2 x3 x4 ((x4 * 12) + x2) 0 o7 r2 1 _) ?_
      obtain ⟨g1, H⟩ := H
      refine xc_g (i' := 48) (ls' := [some (vR 8), some (vI x1), some (vI x2), some (vI x3), some (vI x4), some (vI ((x4 * 12) + x2)), some (vI 0), o7]) (st' := [vI (r2 / 2), vI 1]) (L' := LW W z2 f2) (bn_c8_94_9 call r2 2 1 _ _) (cmp_ne.trans (decide_eq_true g1)) ?_
      refine xc_b (i' := 50) (ls' := [some (vR 8), some (vI x1), some (vI x2), some (vI x3), some (vI x4), some (vI ((x4 * 12) + x2)), some (vI 0), o7]) (st' := [vI 9, vI (1 + (r2 / 2))]) (L' := LW W z2 f2) 2 (bn_c8_94_10 call x1 x2 x3 x4 ((x4 * 12) + x2) 0 o7 (r2 / 2) 1 _) ?_
      refine xc_if2 (it := 51) (ie := 51) (ls' := [some (vR 8), some (vI x1), some (vI x2), some (vI x3), some (vI x4), some (vI ((x4 * 12) + x2)), some (vI 0), o7]) (st1 := [vI 9]) (st2 := [vI (1 + (r2 / 2))]) (bn_c8_94_11 call (1 + (r2 / 2)) 9 _ _) (fun q3 => ?_) (fun q3 => ?_)
      · have H := H.1 (cI2t q3 rfl rfl)
        refine xc_b (i' := 60) (ls' := [some (vR 8), some (vI x1), some (vI x2), some (vI x3), some (vI x4), some (vI ((x4 * 12) + x2)), some (vI 0), some (vI 9)]) (st' := [vI 1, vI x1, vR 2, vI x1, vI ((x4 * 12) + x2), vR 2]) (L' := LW W z2 f2) 9 (bn_c8_94_12 call x1 x2 x3 x4 ((x4 * 12) + x2) 0 o7 9 z2 f2) ?_
        obtain ⟨r3, z3, f3, hc, H⟩ := H
        refine xc_call (t := 61) (ls' := [some (vR 8), some (vI x1), some (vI x2), some (vI x3), some (vI x4), some (vI ((x4 * 12) + x2)), some (vI 0), some (vI 9)]) (st' := [vI x1, vI ((x4 * 12) + x2), vR 2]) (bn_c8_94_13 call x1 1 x1 ((x4 * 12) + x2) _ z2 f2) hc ?_
        show XC call (mP 94) 61 [some (vR 8), some (vI x1), some (vI x2), some (vI x3), some (vI x4), some (vI ((x4 * 12) + x2)), some (vI 0), some (vI 9)] [vI r3, vI x1, vI ((x4 * 12) + x2), vR 2] (LW W z3 f3) res
        refine xc_b (i' := 62) (ls' := [some (vR 8), some (vI x1), some (vI x2), some (vI x3), some (vI x4), some (vI ((x4 * 12) + x2)), some (vI 0), some (vI 9)]) (st' := [vI 9, vI r3, vI x1, vI ((x4 * 12) + x2), vR 2]) (L' := LW W z3 f3) 1 (bn_c8_94_14 call x1 x2 x3 x4 ((x4 * 12) + x2) 0 9 r3 x1 ((x4 * 12) + x2) _) ?_
        obtain ⟨z4, f4, hc, H⟩ := H
        refine xc_call (t := 63) (ls' := [some (vR 8), some (vI x1), some (vI x2), some (vI x3), some (vI x4), some (vI ((x4 * 12) + x2)), some (vI 0), some (vI 9)]) (st' := []) (bn_c8_94_15 call ((x4 * 12) + x2) x1 r3 9 _ z3 f3) hc ?_
        show XC call (mP 94) 63 [some (vR 8), some (vI x1), some (vI x2), some (vI x3), some (vI x4), some (vI ((x4 * 12) + x2)), some (vI 0), some (vI 9)] [] (LW W z4 f4) res
        refine xc_b (i' := 71) (ls' := [some (vR 8), some (vI x1), some (vI x2), some (vI x3), some (vI x4), some (vI ((x4 * 12) + x2)), some (vI 0), some (vI 9)]) (st' := [vI 5, vI x1, vR 2, vI 5, vI x1, vR 2]) (L' := LW W z4 f4) 8 (bn_c8_94_16 call x1 x2 x3 x4 ((x4 * 12) + x2) 0 9 z4 f4) ?_
        obtain ⟨r5, z5, f5, hc, H⟩ := H
        refine xc_call (t := 72) (ls' := [some (vR 8), some (vI x1), some (vI x2), some (vI x3), some (vI x4), some (vI ((x4 * 12) + x2)), some (vI 0), some (vI 9)]) (st' := [vI 5, vI x1, vR 2]) (bn_c8_94_17 call x1 5 5 x1 _ z4 f4) hc ?_
        show XC call (mP 94) 72 [some (vR 8), some (vI x1), some (vI x2), some (vI x3), some (vI x4), some (vI ((x4 * 12) + x2)), some (vI 0), some (vI 9)] [vI r5, vI 5, vI x1, vR 2] (LW W z5 f5) res
        refine xc_b (i' := 74) (ls' := [some (vR 8), some (vI x1), some (vI x2), some (vI x3), some (vI x4), some (vI ((x4 * 12) + x2)), some (vI 0), some (vI 9)]) (st' := [vI (r5 + 1), vI 5, vI x1, vR 2]) (L' := LW W z5 f5) 2 (bn_c8_94_18 call x1 x2 x3 x4 ((x4 * 12) + x2) 0 9 r5 5 x1 _) ?_
        obtain ⟨z6, f6, hc, H⟩ := H
        refine xc_call (t := 75) (ls' := [some (vR 8), some (vI x1), some (vI x2), some (vI x3), some (vI x4), some (vI ((x4 * 12) + x2)), some (vI 0), some (vI 9)]) (st' := []) (bn_c8_94_19 call x1 5 (r5 + 1) _ z5 f5) hc ?_
        show XC call (mP 94) 75 [some (vR 8), some (vI x1), some (vI x2), some (vI x3), some (vI x4), some (vI ((x4 * 12) + x2)), some (vI 0), some (vI 9)] [] (LW W z6 f6) res
        refine xc_b (i' := 79) (ls' := [some (vR 8), some (vI x1), some (vI x2), some (vI x3), some (vI x4), some (vI ((x4 * 12) + x2)), some (vI 0), some (vI 9)]) (st' := [vI ((x4 * 12) + x2), vI x1, vI 0, vR 8]) (L' := LW W z6 f6) 4 (bn_c8_94_20 call x1 x2 x3 x4 ((x4 * 12) + x2) 0 9 _) ?_
        obtain ⟨z7, f7, hc, H⟩ := H
        refine xc_call (t := 80) (ls' := [some (vR 8), some (vI x1), some (vI x2), some (vI x3), some (vI x4), some (vI ((x4 * 12) + x2)), some (vI 0), some (vI 9)]) (st' := []) (bn_c8_94_21 call 0 x1 ((x4 * 12) + x2) _ z6 f6) hc ?_
        show XC call (mP 94) 80 [some (vR 8), some (vI x1), some (vI x2), some (vI x3), some (vI x4), some (vI ((x4 * 12) + x2)), some (vI 0), some (vI 9)] [] (LW W z7 f7) res
        refine xc_b (i' := 81) (ls' := [some (vR 8), some (vI x1), some (vI x2), some (vI x3), some (vI x4), some (vI ((x4 * 12) + x2)), some (vI 0), some (vI 9)]) (st' := [vI ((x4 * 12) + x2)]) (L' := LW W z7 f7) 1 (bn_c8_94_22 call x1 x2 x3 x4 ((x4 * 12) + x2) 0 9 _) ?_
        subst H
        exact xc_ret (bn_c8_94_23 call _ _ _)
      · have H := H.2 (cI2f q3 rfl rfl)
        refine xc_b (i' := 60) (ls' := [some (vR 8), some (vI x1), some (vI x2), some (vI x3), some (vI x4), some (vI ((x4 * 12) + x2)), some (vI 0), some (vI (1 + (r2 / 2)))]) (st' := [vI 1, vI x1, vR 2, vI x1, vI ((x4 * 12) + x2), vR 2]) (L' := LW W z2 f2) 9 (bn_c8_94_12 call x1 x2 x3 x4 ((x4 * 12) + x2) 0 o7 (1 + (r2 / 2)) z2 f2) ?_
        obtain ⟨r8, z8, f8, hc, H⟩ := H
        refine xc_call (t := 61) (ls' := [some (vR 8), some (vI x1), some (vI x2), some (vI x3), some (vI x4), some (vI ((x4 * 12) + x2)), some (vI 0), some (vI (1 + (r2 / 2)))]) (st' := [vI x1, vI ((x4 * 12) + x2), vR 2]) (bn_c8_94_13 call x1 1 x1 ((x4 * 12) + x2) _ z2 f2) hc ?_
        show XC call (mP 94) 61 [some (vR 8), some (vI x1), some (vI x2), some (vI x3), some (vI x4), some (vI ((x4 * 12) + x2)), some (vI 0), some (vI (1 + (r2 / 2)))] [vI r8, vI x1, vI ((x4 * 12) + x2), vR 2] (LW W z8 f8) res
        refine xc_b (i' := 62) (ls' := [some (vR 8), some (vI x1), some (vI x2), some (vI x3), some (vI x4), some (vI ((x4 * 12) + x2)), some (vI 0), some (vI (1 + (r2 / 2)))]) (st' := [vI (1 + (r2 / 2)), vI r8, vI x1, vI ((x4 * 12) + x2), vR 2]) (L' := LW W z8 f8) 1 (bn_c8_94_14 call x1 x2 x3 x4 ((x4 * 12) + x2) 0 (1 + (r2 / 2)) r8 x1 ((x4 * 12) + x2) _) ?_
        obtain ⟨z9, f9, hc, H⟩ := H
        refine xc_call (t := 63) (ls' := [some (vR 8), some (vI x1), some (vI x2), some (vI x3), some (vI x4), some (vI ((x4 * 12) + x2)), some (vI 0), some (vI (1 + (r2 / 2)))]) (st' := []) (bn_c8_94_15 call ((x4 * 12) + x2) x1 r8 (1 + (r2 / 2)) _ z8 f8) hc ?_
        show XC call (mP 94) 63 [some (vR 8), some (vI x1), some (vI x2), some (vI x3), some (vI x4), some (vI ((x4 * 12) + x2)), some (vI 0), some (vI (1 + (r2 / 2)))] [] (LW W z9 f9) res
        refine xc_b (i' := 71) (ls' := [some (vR 8), some (vI x1), some (vI x2), some (vI x3), some (vI x4), some (vI ((x4 * 12) + x2)), some (vI 0), some (vI (1 + (r2 / 2)))]) (st' := [vI 5, vI x1, vR 2, vI 5, vI x1, vR 2]) (L' := LW W z9 f9) 8 (bn_c8_94_16 call x1 x2 x3 x4 ((x4 * 12) + x2) 0 (1 + (r2 / 2)) z9 f9) ?_
        obtain ⟨r10, z10, f10, hc, H⟩ := H
        refine xc_call (t := 72) (ls' := [some (vR 8), some (vI x1), some (vI x2), some (vI x3), some (vI x4), some (vI ((x4 * 12) + x2)), some (vI 0), some (vI (1 + (r2 / 2)))]) (st' := [vI 5, vI x1, vR 2]) (bn_c8_94_17 call x1 5 5 x1 _ z9 f9) hc ?_
        show XC call (mP 94) 72 [some (vR 8), some (vI x1), some (vI x2), some (vI x3), some (vI x4), some (vI ((x4 * 12) + x2)), some (vI 0), some (vI (1 + (r2 / 2)))] [vI r10, vI 5, vI x1, vR 2] (LW W z10 f10) res
        refine xc_b (i' := 74) (ls' := [some (vR 8), some (vI x1), some (vI x2), some (vI x3), some (vI x4), some (vI ((x4 * 12) + x2)), some (vI 0), some (vI (1 + (r2 / 2)))]) (st' := [vI (r10 + 1), vI 5, vI x1, vR 2]) (L' := LW W z10 f10) 2 (bn_c8_94_18 call x1 x2 x3 x4 ((x4 * 12) + x2) 0 (1 + (r2 / 2)) r10 5 x1 _) ?_
        obtain ⟨z11, f11, hc, H⟩ := H
        refine xc_call (t := 75) (ls' := [some (vR 8), some (vI x1), some (vI x2), some (vI x3), some (vI x4), some (vI ((x4 * 12) + x2)), some (vI 0), some (vI (1 + (r2 / 2)))]) (st' := []) (bn_c8_94_19 call x1 5 (r10 + 1) _ z10 f10) hc ?_
        show XC call (mP 94) 75 [some (vR 8), some (vI x1), some (vI x2), some (vI x3), some (vI x4), some (vI ((x4 * 12) + x2)), some (vI 0), some (vI (1 + (r2 / 2)))] [] (LW W z11 f11) res
        refine xc_b (i' := 79) (ls' := [some (vR 8), some (vI x1), some (vI x2), some (vI x3), some (vI x4), some (vI ((x4 * 12) + x2)), some (vI 0), some (vI (1 + (r2 / 2)))]) (st' := [vI ((x4 * 12) + x2), vI x1, vI 0, vR 8]) (L' := LW W z11 f11) 4 (bn_c8_94_20 call x1 x2 x3 x4 ((x4 * 12) + x2) 0 (1 + (r2 / 2)) _) ?_
        obtain ⟨z12, f12, hc, H⟩ := H
        refine xc_call (t := 80) (ls' := [some (vR 8), some (vI x1), some (vI x2), some (vI x3), some (vI x4), some (vI ((x4 * 12) + x2)), some (vI 0), some (vI (1 + (r2 / 2)))]) (st' := []) (bn_c8_94_21 call 0 x1 ((x4 * 12) + x2) _ z11 f11) hc ?_
        show XC call (mP 94) 80 [some (vR 8), some (vI x1), some (vI x2), some (vI x3), some (vI x4), some (vI ((x4 * 12) + x2)), some (vI 0), some (vI (1 + (r2 / 2)))] [] (LW W z12 f12) res
        refine xc_b (i' := 81) (ls' := [some (vR 8), some (vI x1), some (vI x2), some (vI x3), some (vI x4), some (vI ((x4 * 12) + x2)), some (vI 0), some (vI (1 + (r2 / 2)))]) (st' := [vI ((x4 * 12) + x2)]) (L' := LW W z12 f12) 1 (bn_c8_94_22 call x1 x2 x3 x4 ((x4 * 12) + x2) 0 (1 + (r2 / 2)) _) ?_
        subst H
        exact xc_ret (bn_c8_94_23 call _ _ _)
    · have H := H.2 (cI0f q2)
      refine xc_b (i' := 45) (ls' := [some (vR 8), some (vI x1), some (vI x2), some (vI x3), some (vI x4), some (vI ((x4 * 12) + x2)), some (vI 1), o7]) (st' := [vI 3, vI x1, vR 2, vI 1]) (L' := LW W z1 f1) 8 (bn_c8_94_24 call x1 x2 x3 x4 ((x4 * 12) + x2) o6 o7 z1 f1) ?_
      obtain ⟨r13, z13, f13, hc, H⟩ := H
      refine xc_call (t := 46) (ls' := [some (vR 8), some (vI x1), some (vI x2), some (vI x3), some (vI x4), some (vI ((x4 * 12) + x2)), some (vI 1), o7]) (st' := [vI 1]) (bn_c8_94_7 call x1 3 1 _ z1 f1) hc ?_
      show XC call (mP 94) 46 [some (vR 8), some (vI x1), some (vI x2), some (vI x3), some (vI x4), some (vI ((x4 * 12) + x2)), some (vI 1), o7] [vI r13, vI 1] (LW W z13 f13) res
      refine xc_b (i' := 47) (ls' := [some (vR 8), some (vI x1), some (vI x2), some (vI x3), some (vI x4), some (vI ((x4 * 12) + x2)), some (vI 1), o7]) (st' := [vI 2, vI r13, vI 1]) (L' := LW W z13 f13) 1 (bn_c8_94_8 call x1 x2 x3 x4 ((x4 * 12) + x2) 1 o7 r13 1 _) ?_
      obtain ⟨g1, H⟩ := H
      refine xc_g (i' := 48) (ls' := [some (vR 8), some (vI x1), some (vI x2), some (vI x3), some (vI x4), some (vI ((x4 * 12) + x2)), some (vI 1), o7]) (st' := [vI (r13 / 2), vI 1]) (L' := LW W z13 f13) (bn_c8_94_9 call r13 2 1 _ _) (cmp_ne.trans (decide_eq_true g1)) ?_
      refine xc_b (i' := 50) (ls' := [some (vR 8), some (vI x1), some (vI x2), some (vI x3), some (vI x4), some (vI ((x4 * 12) + x2)), some (vI 1), o7]) (st' := [vI 9, vI (1 + (r13 / 2))]) (L' := LW W z13 f13) 2 (bn_c8_94_10 call x1 x2 x3 x4 ((x4 * 12) + x2) 1 o7 (r13 / 2) 1 _) ?_
      refine xc_if2 (it := 51) (ie := 51) (ls' := [some (vR 8), some (vI x1), some (vI x2), some (vI x3), some (vI x4), some (vI ((x4 * 12) + x2)), some (vI 1), o7]) (st1 := [vI 9]) (st2 := [vI (1 + (r13 / 2))]) (bn_c8_94_11 call (1 + (r13 / 2)) 9 _ _) (fun q4 => ?_) (fun q4 => ?_)
      · have H := H.1 (cI2t q4 rfl rfl)
        refine xc_b (i' := 60) (ls' := [some (vR 8), some (vI x1), some (vI x2), some (vI x3), some (vI x4), some (vI ((x4 * 12) + x2)), some (vI 1), some (vI 9)]) (st' := [vI 1, vI x1, vR 2, vI x1, vI ((x4 * 12) + x2), vR 2]) (L' := LW W z13 f13) 9 (bn_c8_94_12 call x1 x2 x3 x4 ((x4 * 12) + x2) 1 o7 9 z13 f13) ?_
        obtain ⟨r14, z14, f14, hc, H⟩ := H
        refine xc_call (t := 61) (ls' := [some (vR 8), some (vI x1), some (vI x2), some (vI x3), some (vI x4), some (vI ((x4 * 12) + x2)), some (vI 1), some (vI 9)]) (st' := [vI x1, vI ((x4 * 12) + x2), vR 2]) (bn_c8_94_13 call x1 1 x1 ((x4 * 12) + x2) _ z13 f13) hc ?_
        show XC call (mP 94) 61 [some (vR 8), some (vI x1), some (vI x2), some (vI x3), some (vI x4), some (vI ((x4 * 12) + x2)), some (vI 1), some (vI 9)] [vI r14, vI x1, vI ((x4 * 12) + x2), vR 2] (LW W z14 f14) res
        refine xc_b (i' := 62) (ls' := [some (vR 8), some (vI x1), some (vI x2), some (vI x3), some (vI x4), some (vI ((x4 * 12) + x2)), some (vI 1), some (vI 9)]) (st' := [vI 9, vI r14, vI x1, vI ((x4 * 12) + x2), vR 2]) (L' := LW W z14 f14) 1 (bn_c8_94_14 call x1 x2 x3 x4 ((x4 * 12) + x2) 1 9 r14 x1 ((x4 * 12) + x2) _) ?_
        obtain ⟨z15, f15, hc, H⟩ := H
        refine xc_call (t := 63) (ls' := [some (vR 8), some (vI x1), some (vI x2), some (vI x3), some (vI x4), some (vI ((x4 * 12) + x2)), some (vI 1), some (vI 9)]) (st' := []) (bn_c8_94_15 call ((x4 * 12) + x2) x1 r14 9 _ z14 f14) hc ?_
        show XC call (mP 94) 63 [some (vR 8), some (vI x1), some (vI x2), some (vI x3), some (vI x4), some (vI ((x4 * 12) + x2)), some (vI 1), some (vI 9)] [] (LW W z15 f15) res
        refine xc_b (i' := 71) (ls' := [some (vR 8), some (vI x1), some (vI x2), some (vI x3), some (vI x4), some (vI ((x4 * 12) + x2)), some (vI 1), some (vI 9)]) (st' := [vI 5, vI x1, vR 2, vI 5, vI x1, vR 2]) (L' := LW W z15 f15) 8 (bn_c8_94_16 call x1 x2 x3 x4 ((x4 * 12) + x2) 1 9 z15 f15) ?_
        obtain ⟨r16, z16, f16, hc, H⟩ := H
        refine xc_call (t := 72) (ls' := [some (vR 8), some (vI x1), some (vI x2), some (vI x3), some (vI x4), some (vI ((x4 * 12) + x2)), some (vI 1), some (vI 9)]) (st' := [vI 5, vI x1, vR 2]) (bn_c8_94_17 call x1 5 5 x1 _ z15 f15) hc ?_
        show XC call (mP 94) 72 [some (vR 8), some (vI x1), some (vI x2), some (vI x3), some (vI x4), some (vI ((x4 * 12) + x2)), some (vI 1), some (vI 9)] [vI r16, vI 5, vI x1, vR 2] (LW W z16 f16) res
        refine xc_b (i' := 74) (ls' := [some (vR 8), some (vI x1), some (vI x2), some (vI x3), some (vI x4), some (vI ((x4 * 12) + x2)), some (vI 1), some (vI 9)]) (st' := [vI (r16 + 1), vI 5, vI x1, vR 2]) (L' := LW W z16 f16) 2 (bn_c8_94_18 call x1 x2 x3 x4 ((x4 * 12) + x2) 1 9 r16 5 x1 _) ?_
        obtain ⟨z17, f17, hc, H⟩ := H
        refine xc_call (t := 75) (ls' := [some (vR 8), some (vI x1), some (vI x2), some (vI x3), some (vI x4), some (vI ((x4 * 12) + x2)), some (vI 1), some (vI 9)]) (st' := []) (bn_c8_94_19 call x1 5 (r16 + 1) _ z16 f16) hc ?_
        show XC call (mP 94) 75 [some (vR 8), some (vI x1), some (vI x2), some (vI x3), some (vI x4), some (vI ((x4 * 12) + x2)), some (vI 1), some (vI 9)] [] (LW W z17 f17) res
        refine xc_b (i' := 79) (ls' := [some (vR 8), some (vI x1), some (vI x2), some (vI x3), some (vI x4), some (vI ((x4 * 12) + x2)), some (vI 1), some (vI 9)]) (st' := [vI ((x4 * 12) + x2), vI x1, vI 1, vR 8]) (L' := LW W z17 f17) 4 (bn_c8_94_20 call x1 x2 x3 x4 ((x4 * 12) + x2) 1 9 _) ?_
        obtain ⟨z18, f18, hc, H⟩ := H
        refine xc_call (t := 80) (ls' := [some (vR 8), some (vI x1), some (vI x2), some (vI x3), some (vI x4), some (vI ((x4 * 12) + x2)), some (vI 1), some (vI 9)]) (st' := []) (bn_c8_94_21 call 1 x1 ((x4 * 12) + x2) _ z17 f17) hc ?_
        show XC call (mP 94) 80 [some (vR 8), some (vI x1), some (vI x2), some (vI x3), some (vI x4), some (vI ((x4 * 12) + x2)), some (vI 1), some (vI 9)] [] (LW W z18 f18) res
        refine xc_b (i' := 81) (ls' := [some (vR 8), some (vI x1), some (vI x2), some (vI x3), some (vI x4), some (vI ((x4 * 12) + x2)), some (vI 1), some (vI 9)]) (st' := [vI ((x4 * 12) + x2)]) (L' := LW W z18 f18) 1 (bn_c8_94_22 call x1 x2 x3 x4 ((x4 * 12) + x2) 1 9 _) ?_
        subst H
        exact xc_ret (bn_c8_94_23 call _ _ _)
      · have H := H.2 (cI2f q4 rfl rfl)
        refine xc_b (i' := 60) (ls' := [some (vR 8), some (vI x1), some (vI x2), some (vI x3), some (vI x4), some (vI ((x4 * 12) + x2)), some (vI 1), some (vI (1 + (r13 / 2)))]) (st' := [vI 1, vI x1, vR 2, vI x1, vI ((x4 * 12) + x2), vR 2]) (L' := LW W z13 f13) 9 (bn_c8_94_12 call x1 x2 x3 x4 ((x4 * 12) + x2) 1 o7 (1 + (r13 / 2)) z13 f13) ?_
        obtain ⟨r19, z19, f19, hc, H⟩ := H
        refine xc_call (t := 61) (ls' := [some (vR 8), some (vI x1), some (vI x2), some (vI x3), some (vI x4), some (vI ((x4 * 12) + x2)), some (vI 1), some (vI (1 + (r13 / 2)))]) (st' := [vI x1, vI ((x4 * 12) + x2), vR 2]) (bn_c8_94_13 call x1 1 x1 ((x4 * 12) + x2) _ z13 f13) hc ?_
        show XC call (mP 94) 61 [some (vR 8), some (vI x1), some (vI x2), some (vI x3), some (vI x4), some (vI ((x4 * 12) + x2)), some (vI 1), some (vI (1 + (r13 / 2)))] [vI r19, vI x1, vI ((x4 * 12) + x2), vR 2] (LW W z19 f19) res
        refine xc_b (i' := 62) (ls' := [some (vR 8), some (vI x1), some (vI x2), some (vI x3), some (vI x4), some (vI ((x4 * 12) + x2)), some (vI 1), some (vI (1 + (r13 / 2)))]) (st' := [vI (1 + (r13 / 2)), vI r19, vI x1, vI ((x4 * 12) + x2), vR 2]) (L' := LW W z19 f19) 1 (bn_c8_94_14 call x1 x2 x3 x4 ((x4 * 12) + x2) 1 (1 + (r13 / 2)) r19 x1 ((x4 * 12) + x2) _) ?_
        obtain ⟨z20, f20, hc, H⟩ := H
        refine xc_call (t := 63) (ls' := [some (vR 8), some (vI x1), some (vI x2), some (vI x3), some (vI x4), some (vI ((x4 * 12) + x2)), some (vI 1), some (vI (1 + (r13 / 2)))]) (st' := []) (bn_c8_94_15 call ((x4 * 12) + x2) x1 r19 (1 + (r13 / 2)) _ z19 f19) hc ?_
        show XC call (mP 94) 63 [some (vR 8), some (vI x1), some (vI x2), some (vI x3), some (vI x4), some (vI ((x4 * 12) + x2)), some (vI 1), some (vI (1 + (r13 / 2)))] [] (LW W z20 f20) res
        refine xc_b (i' := 71) (ls' := [some (vR 8), some (vI x1), some (vI x2), some (vI x3), some (vI x4), some (vI ((x4 * 12) + x2)), some (vI 1), some (vI (1 + (r13 / 2)))]) (st' := [vI 5, vI x1, vR 2, vI 5, vI x1, vR 2]) (L' := LW W z20 f20) 8 (bn_c8_94_16 call x1 x2 x3 x4 ((x4 * 12) + x2) 1 (1 + (r13 / 2)) z20 f20) ?_
        obtain ⟨r21, z21, f21, hc, H⟩ := H
        refine xc_call (t := 72) (ls' := [some (vR 8), some (vI x1), some (vI x2), some (vI x3), some (vI x4), some (vI ((x4 * 12) + x2)), some (vI 1), some (vI (1 + (r13 / 2)))]) (st' := [vI 5, vI x1, vR 2]) (bn_c8_94_17 call x1 5 5 x1 _ z20 f20) hc ?_
        show XC call (mP 94) 72 [some (vR 8), some (vI x1), some (vI x2), some (vI x3), some (vI x4), some (vI ((x4 * 12) + x2)), some (vI 1), some (vI (1 + (r13 / 2)))] [vI r21, vI 5, vI x1, vR 2] (LW W z21 f21) res
        refine xc_b (i' := 74) (ls' := [some (vR 8), some (vI x1), some (vI x2), some (vI x3), some (vI x4), some (vI ((x4 * 12) + x2)), some (vI 1), some (vI (1 + (r13 / 2)))]) (st' := [vI (r21 + 1), vI 5, vI x1, vR 2]) (L' := LW W z21 f21) 2 (bn_c8_94_18 call x1 x2 x3 x4 ((x4 * 12) + x2) 1 (1 + (r13 / 2)) r21 5 x1 _) ?_
        obtain ⟨z22, f22, hc, H⟩ := H
        refine xc_call (t := 75) (ls' := [some (vR 8), some (vI x1), some (vI x2), some (vI x3), some (vI x4), some (vI ((x4 * 12) + x2)), some (vI 1), some (vI (1 + (r13 / 2)))]) (st' := []) (bn_c8_94_19 call x1 5 (r21 + 1) _ z21 f21) hc ?_
        show XC call (mP 94) 75 [some (vR 8), some (vI x1), some (vI x2), some (vI x3), some (vI x4), some (vI ((x4 * 12) + x2)), some (vI 1), some (vI (1 + (r13 / 2)))] [] (LW W z22 f22) res
        refine xc_b (i' := 79) (ls' := [some (vR 8), some (vI x1), some (vI x2), some (vI x3), some (vI x4), some (vI ((x4 * 12) + x2)), some (vI 1), some (vI (1 + (r13 / 2)))]) (st' := [vI ((x4 * 12) + x2), vI x1, vI 1, vR 8]) (L' := LW W z22 f22) 4 (bn_c8_94_20 call x1 x2 x3 x4 ((x4 * 12) + x2) 1 (1 + (r13 / 2)) _) ?_
        obtain ⟨z23, f23, hc, H⟩ := H
        refine xc_call (t := 80) (ls' := [some (vR 8), some (vI x1), some (vI x2), some (vI x3), some (vI x4), some (vI ((x4 * 12) + x2)), some (vI 1), some (vI (1 + (r13 / 2)))]) (st' := []) (bn_c8_94_21 call 1 x1 ((x4 * 12) + x2) _ z22 f22) hc ?_
        show XC call (mP 94) 80 [some (vR 8), some (vI x1), some (vI x2), some (vI x3), some (vI x4), some (vI ((x4 * 12) + x2)), some (vI 1), some (vI (1 + (r13 / 2)))] [] (LW W z23 f23) res
        refine xc_b (i' := 81) (ls' := [some (vR 8), some (vI x1), some (vI x2), some (vI x3), some (vI x4), some (vI ((x4 * 12) + x2)), some (vI 1), some (vI (1 + (r13 / 2)))]) (st' := [vI ((x4 * 12) + x2)]) (L' := LW W z23 f23) 1 (bn_c8_94_22 call x1 x2 x3 x4 ((x4 * 12) + x2) 1 (1 + (r13 / 2)) _) ?_
        subst H
        exact xc_ret (bn_c8_94_23 call _ _ _)
  · have H := H.2 (cI3f q1 rfl rfl)
    refine xc_b (i' := 13) (ls' := [some (vR 8), some (vI x1), some (vI x2), some (vI x3), some (vI x4), o5, o6, o7]) (st' := [vI 11, vI x4]) (L' := LW W z f) 2 (bn_c8_94_25 call x1 x2 x3 x4 o5 o6 o7 _) ?_
    refine xc_if (it := 25) (ie := 14) (ls' := [some (vR 8), some (vI x1), some (vI x2), some (vI x3), some (vI x4), o5, o6, o7]) (st' := []) (bn_c8_94_26 call x4 11 _ _) (fun q5 => ?_) (fun q5 => ?_)
    · have H := H.1 (cI3t q5 rfl rfl)
      refine xc_b (i' := 34) (ls' := [some (vR 8), some (vI x1), some (vI x2), some (vI x3), some (vI x4), some (vI ((x4 * 12) + x2)), o6, o7]) (st' := [vI ((x4 * 12) + x2), vR 2]) (L' := LW W z f) 9 (bn_c8_94_3 call x1 x2 x3 x4 o5 o6 o7 z f) ?_
      obtain ⟨r24, z24, f24, hc, H⟩ := H
      refine xc_call (t := 35) (ls' := [some (vR 8), some (vI x1), some (vI x2), some (vI x3), some (vI x4), some (vI ((x4 * 12) + x2)), o6, o7]) (st' := []) (bn_c8_94_4 call ((x4 * 12) + x2) _ z f) hc ?_
      show XC call (mP 94) 35 [some (vR 8), some (vI x1), some (vI x2), some (vI x3), some (vI x4), some (vI ((x4 * 12) + x2)), o6, o7] [vI r24] (LW W z24 f24) res
      refine xc_if (it := 38) (ie := 36) (ls' := [some (vR 8), some (vI x1), some (vI x2), some (vI x3), some (vI x4), some (vI ((x4 * 12) + x2)), o6, o7]) (st' := []) (bn_c8_94_5 call r24 _ _) (fun q6 => ?_) (fun q6 => ?_)
      · have H := H.1 (cI0t q6)
        refine xc_b (i' := 45) (ls' := [some (vR 8), some (vI x1), some (vI x2), some (vI x3), some (vI x4), some (vI ((x4 * 12) + x2)), some (vI 0), o7]) (st' := [vI 3, vI x1, vR 2, vI 1]) (L' := LW W z24 f24) 7 (bn_c8_94_6 call x1 x2 x3 x4 ((x4 * 12) + x2) o6 o7 z24 f24) ?_
        obtain ⟨r25, z25, f25, hc, H⟩ := H
        refine xc_call (t := 46) (ls' := [some (vR 8), some (vI x1), some (vI x2), some (vI x3), some (vI x4), some (vI ((x4 * 12) + x2)), some (vI 0), o7]) (st' := [vI 1]) (bn_c8_94_7 call x1 3 1 _ z24 f24) hc ?_
        show XC call (mP 94) 46 [some (vR 8), some (vI x1), some (vI x2), some (vI x3), some (vI x4), some (vI ((x4 * 12) + x2)), some (vI 0), o7] [vI r25, vI 1] (LW W z25 f25) res
        refine xc_b (i' := 47) (ls' := [some (vR 8), some (vI x1), some (vI x2), some (vI x3), some (vI x4), some (vI ((x4 * 12) + x2)), some (vI 0), o7]) (st' := [vI 2, vI r25, vI 1]) (L' := LW W z25 f25) 1 (bn_c8_94_8 call x1 x2 x3 x4 ((x4 * 12) + x2) 0 o7 r25 1 _) ?_
        obtain ⟨g1, H⟩ := H
        refine xc_g (i' := 48) (ls' := [some (vR 8), some (vI x1), some (vI x2), some (vI x3), some (vI x4), some (vI ((x4 * 12) + x2)), some (vI 0), o7]) (st' := [vI (r25 / 2), vI 1]) (L' := LW W z25 f25) (bn_c8_94_9 call r25 2 1 _ _) (cmp_ne.trans (decide_eq_true g1)) ?_
        refine xc_b (i' := 50) (ls' := [some (vR 8), some (vI x1), some (vI x2), some (vI x3), some (vI x4), some (vI ((x4 * 12) + x2)), some (vI 0), o7]) (st' := [vI 9, vI (1 + (r25 / 2))]) (L' := LW W z25 f25) 2 (bn_c8_94_10 call x1 x2 x3 x4 ((x4 * 12) + x2) 0 o7 (r25 / 2) 1 _) ?_
        refine xc_if2 (it := 51) (ie := 51) (ls' := [some (vR 8), some (vI x1), some (vI x2), some (vI x3), some (vI x4), some (vI ((x4 * 12) + x2)), some (vI 0), o7]) (st1 := [vI 9]) (st2 := [vI (1 + (r25 / 2))]) (bn_c8_94_11 call (1 + (r25 / 2)) 9 _ _) (fun q7 => ?_) (fun q7 => ?_)
        · have H := H.1 (cI2t q7 rfl rfl)
          refine xc_b (i' := 60) (ls' := [some (vR 8), some (vI x1), some (vI x2), some (vI x3), some (vI x4), some (vI ((x4 * 12) + x2)), some (vI 0), some (vI 9)]) (st' := [vI 1, vI x1, vR 2, vI x1, vI ((x4 * 12) + x2), vR 2]) (L' := LW W z25 f25) 9 (bn_c8_94_12 call x1 x2 x3 x4 ((x4 * 12) + x2) 0 o7 9 z25 f25) ?_
          obtain ⟨r26, z26, f26, hc, H⟩ := H
          refine xc_call (t := 61) (ls' := [some (vR 8), some (vI x1), some (vI x2), some (vI x3), some (vI x4), some (vI ((x4 * 12) + x2)), some (vI 0), some (vI 9)]) (st' := [vI x1, vI ((x4 * 12) + x2), vR 2]) (bn_c8_94_13 call x1 1 x1 ((x4 * 12) + x2) _ z25 f25) hc ?_
          show XC call (mP 94) 61 [some (vR 8), some (vI x1), some (vI x2), some (vI x3), some (vI x4), some (vI ((x4 * 12) + x2)), some (vI 0), some (vI 9)] [vI r26, vI x1, vI ((x4 * 12) + x2), vR 2] (LW W z26 f26) res
          refine xc_b (i' := 62) (ls' := [some (vR 8), some (vI x1), some (vI x2), some (vI x3), some (vI x4), some (vI ((x4 * 12) + x2)), some (vI 0), some (vI 9)]) (st' := [vI 9, vI r26, vI x1, vI ((x4 * 12) + x2), vR 2]) (L' := LW W z26 f26) 1 (bn_c8_94_14 call x1 x2 x3 x4 ((x4 * 12) + x2) 0 9 r26 x1 ((x4 * 12) + x2) _) ?_
          obtain ⟨z27, f27, hc, H⟩ := H
          refine xc_call (t := 63) (ls' := [some (vR 8), some (vI x1), some (vI x2), some (vI x3), some (vI x4), some (vI ((x4 * 12) + x2)), some (vI 0), some (vI 9)]) (st' := []) (bn_c8_94_15 call ((x4 * 12) + x2) x1 r26 9 _ z26 f26) hc ?_
          show XC call (mP 94) 63 [some (vR 8), some (vI x1), some (vI x2), some (vI x3), some (vI x4), some (vI ((x4 * 12) + x2)), some (vI 0), some (vI 9)] [] (LW W z27 f27) res
          refine xc_b (i' := 71) (ls' := [some (vR 8), some (vI x1), some (vI x2), some (vI x3), some (vI x4), some (vI ((x4 * 12) + x2)), some (vI 0), some (vI 9)]) (st' := [vI 5, vI x1, vR 2, vI 5, vI x1, vR 2]) (L' := LW W z27 f27) 8 (bn_c8_94_16 call x1 x2 x3 x4 ((x4 * 12) + x2) 0 9 z27 f27) ?_
          obtain ⟨r28, z28, f28, hc, H⟩ := H
          refine xc_call (t := 72) (ls' := [some (vR 8), some (vI x1), some (vI x2), some (vI x3), some (vI x4), some (vI ((x4 * 12) + x2)), some (vI 0), some (vI 9)]) (st' := [vI 5, vI x1, vR 2]) (bn_c8_94_17 call x1 5 5 x1 _ z27 f27) hc ?_
          show XC call (mP 94) 72 [some (vR 8), some (vI x1), some (vI x2), some (vI x3), some (vI x4), some (vI ((x4 * 12) + x2)), some (vI 0), some (vI 9)] [vI r28, vI 5, vI x1, vR 2] (LW W z28 f28) res
          refine xc_b (i' := 74) (ls' := [some (vR 8), some (vI x1), some (vI x2), some (vI x3), some (vI x4), some (vI ((x4 * 12) + x2)), some (vI 0), some (vI 9)]) (st' := [vI (r28 + 1), vI 5, vI x1, vR 2]) (L' := LW W z28 f28) 2 (bn_c8_94_18 call x1 x2 x3 x4 ((x4 * 12) + x2) 0 9 r28 5 x1 _) ?_
          obtain ⟨z29, f29, hc, H⟩ := H
          refine xc_call (t := 75) (ls' := [some (vR 8), some (vI x1), some (vI x2), some (vI x3), some (vI x4), some (vI ((x4 * 12) + x2)), some (vI 0), some (vI 9)]) (st' := []) (bn_c8_94_19 call x1 5 (r28 + 1) _ z28 f28) hc ?_
          show XC call (mP 94) 75 [some (vR 8), some (vI x1), some (vI x2), some (vI x3), some (vI x4), some (vI ((x4 * 12) + x2)), some (vI 0), some (vI 9)] [] (LW W z29 f29) res
          refine xc_b (i' := 79) (ls' := [some (vR 8), some (vI x1), some (vI x2), some (vI x3), some (vI x4), some (vI ((x4 * 12) + x2)), some (vI 0), some (vI 9)]) (st' := [vI ((x4 * 12) + x2), vI x1, vI 0, vR 8]) (L' := LW W z29 f29) 4 (bn_c8_94_20 call x1 x2 x3 x4 ((x4 * 12) + x2) 0 9 _) ?_
          obtain ⟨z30, f30, hc, H⟩ := H
          refine xc_call (t := 80) (ls' := [some (vR 8), some (vI x1), some (vI x2), some (vI x3), some (vI x4), some (vI ((x4 * 12) + x2)), some (vI 0), some (vI 9)]) (st' := []) (bn_c8_94_21 call 0 x1 ((x4 * 12) + x2) _ z29 f29) hc ?_
          show XC call (mP 94) 80 [some (vR 8), some (vI x1), some (vI x2), some (vI x3), some (vI x4), some (vI ((x4 * 12) + x2)), some (vI 0), some (vI 9)] [] (LW W z30 f30) res
          refine xc_b (i' := 81) (ls' := [some (vR 8), some (vI x1), some (vI x2), some (vI x3), some (vI x4), some (vI ((x4 * 12) + x2)), some (vI 0), some (vI 9)]) (st' := [vI ((x4 * 12) + x2)]) (L' := LW W z30 f30) 1 (bn_c8_94_22 call x1 x2 x3 x4 ((x4 * 12) + x2) 0 9 _) ?_
          subst H
          exact xc_ret (bn_c8_94_23 call _ _ _)
        · have H := H.2 (cI2f q7 rfl rfl)
          refine xc_b (i' := 60) (ls' := [some (vR 8), some (vI x1), some (vI x2), some (vI x3), some (vI x4), some (vI ((x4 * 12) + x2)), some (vI 0), some (vI (1 + (r25 / 2)))]) (st' := [vI 1, vI x1, vR 2, vI x1, vI ((x4 * 12) + x2), vR 2]) (L' := LW W z25 f25) 9 (bn_c8_94_12 call x1 x2 x3 x4 ((x4 * 12) + x2) 0 o7 (1 + (r25 / 2)) z25 f25) ?_
          obtain ⟨r31, z31, f31, hc, H⟩ := H
          refine xc_call (t := 61) (ls' := [some (vR 8), some (vI x1), some (vI x2), some (vI x3), some (vI x4), some (vI ((x4 * 12) + x2)), some (vI 0), some (vI (1 + (r25 / 2)))]) (st' := [vI x1, vI ((x4 * 12) + x2), vR 2]) (bn_c8_94_13 call x1 1 x1 ((x4 * 12) + x2) _ z25 f25) hc ?_
          show XC call (mP 94) 61 [some (vR 8), some (vI x1), some (vI x2), some (vI x3), some (vI x4), some (vI ((x4 * 12) + x2)), some (vI 0), some (vI (1 + (r25 / 2)))] [vI r31, vI x1, vI ((x4 * 12) + x2), vR 2] (LW W z31 f31) res
          refine xc_b (i' := 62) (ls' := [some (vR 8), some (vI x1), some (vI x2), some (vI x3), some (vI x4), some (vI ((x4 * 12) + x2)), some (vI 0), some (vI (1 + (r25 / 2)))]) (st' := [vI (1 + (r25 / 2)), vI r31, vI x1, vI ((x4 * 12) + x2), vR 2]) (L' := LW W z31 f31) 1 (bn_c8_94_14 call x1 x2 x3 x4 ((x4 * 12) + x2) 0 (1 + (r25 / 2)) r31 x1 ((x4 * 12) + x2) _) ?_
          obtain ⟨z32, f32, hc, H⟩ := H
          refine xc_call (t := 63) (ls' := [some (vR 8), some (vI x1), some (vI x2), some (vI x3), some (vI x4), some (vI ((x4 * 12) + x2)), some (vI 0), some (vI (1 + (r25 / 2)))]) (st' := []) (bn_c8_94_15 call ((x4 * 12) + x2) x1 r31 (1 + (r25 / 2)) _ z31 f31) hc ?_
          show XC call (mP 94) 63 [some (vR 8), some (vI x1), some (vI x2), some (vI x3), some (vI x4), some (vI ((x4 * 12) + x2)), some (vI 0), some (vI (1 + (r25 / 2)))] [] (LW W z32 f32) res
          refine xc_b (i' := 71) (ls' := [some (vR 8), some (vI x1), some (vI x2), some (vI x3), some (vI x4), some (vI ((x4 * 12) + x2)), some (vI 0), some (vI (1 + (r25 / 2)))]) (st' := [vI 5, vI x1, vR 2, vI 5, vI x1, vR 2]) (L' := LW W z32 f32) 8 (bn_c8_94_16 call x1 x2 x3 x4 ((x4 * 12) + x2) 0 (1 + (r25 / 2)) z32 f32) ?_
          obtain ⟨r33, z33, f33, hc, H⟩ := H
          refine xc_call (t := 72) (ls' := [some (vR 8), some (vI x1), some (vI x2), some (vI x3), some (vI x4), some (vI ((x4 * 12) + x2)), some (vI 0), some (vI (1 + (r25 / 2)))]) (st' := [vI 5, vI x1, vR 2]) (bn_c8_94_17 call x1 5 5 x1 _ z32 f32) hc ?_
          show XC call (mP 94) 72 [some (vR 8), some (vI x1), some (vI x2), some (vI x3), some (vI x4), some (vI ((x4 * 12) + x2)), some (vI 0), some (vI (1 + (r25 / 2)))] [vI r33, vI 5, vI x1, vR 2] (LW W z33 f33) res
          refine xc_b (i' := 74) (ls' := [some (vR 8), some (vI x1), some (vI x2), some (vI x3), some (vI x4), some (vI ((x4 * 12) + x2)), some (vI 0), some (vI (1 + (r25 / 2)))]) (st' := [vI (r33 + 1), vI 5, vI x1, vR 2]) (L' := LW W z33 f33) 2 (bn_c8_94_18 call x1 x2 x3 x4 ((x4 * 12) + x2) 0 (1 + (r25 / 2)) r33 5 x1 _) ?_
          obtain ⟨z34, f34, hc, H⟩ := H
          refine xc_call (t := 75) (ls' := [some (vR 8), some (vI x1), some (vI x2), some (vI x3), some (vI x4), some (vI ((x4 * 12) + x2)), some (vI 0), some (vI (1 + (r25 / 2)))]) (st' := []) (bn_c8_94_19 call x1 5 (r33 + 1) _ z33 f33) hc ?_
          show XC call (mP 94) 75 [some (vR 8), some (vI x1), some (vI x2), some (vI x3), some (vI x4), some (vI ((x4 * 12) + x2)), some (vI 0), some (vI (1 + (r25 / 2)))] [] (LW W z34 f34) res
          refine xc_b (i' := 79) (ls' := [some (vR 8), some (vI x1), some (vI x2), some (vI x3), some (vI x4), some (vI ((x4 * 12) + x2)), some (vI 0), some (vI (1 + (r25 / 2)))]) (st' := [vI ((x4 * 12) + x2), vI x1, vI 0, vR 8]) (L' := LW W z34 f34) 4 (bn_c8_94_20 call x1 x2 x3 x4 ((x4 * 12) + x2) 0 (1 + (r25 / 2)) _) ?_
          obtain ⟨z35, f35, hc, H⟩ := H
          refine xc_call (t := 80) (ls' := [some (vR 8), some (vI x1), some (vI x2), some (vI x3), some (vI x4), some (vI ((x4 * 12) + x2)), some (vI 0), some (vI (1 + (r25 / 2)))]) (st' := []) (bn_c8_94_21 call 0 x1 ((x4 * 12) + x2) _ z34 f34) hc ?_
          show XC call (mP 94) 80 [some (vR 8), some (vI x1), some (vI x2), some (vI x3), some (vI x4), some (vI ((x4 * 12) + x2)), some (vI 0), some (vI (1 + (r25 / 2)))] [] (LW W z35 f35) res
          refine xc_b (i' := 81) (ls' := [some (vR 8), some (vI x1), some (vI x2), some (vI x3), some (vI x4), some (vI ((x4 * 12) + x2)), some (vI 0), some (vI (1 + (r25 / 2)))]) (st' := [vI ((x4 * 12) + x2)]) (L' := LW W z35 f35) 1 (bn_c8_94_22 call x1 x2 x3 x4 ((x4 * 12) + x2) 0 (1 + (r25 / 2)) _) ?_
          subst H
          exact xc_ret (bn_c8_94_23 call _ _ _)
      · have H := H.2 (cI0f q6)
        refine xc_b (i' := 45) (ls' := [some (vR 8), some (vI x1), some (vI x2), some (vI x3), some (vI x4), some (vI ((x4 * 12) + x2)), some (vI 1), o7]) (st' := [vI 3, vI x1, vR 2, vI 1]) (L' := LW W z24 f24) 8 (bn_c8_94_24 call x1 x2 x3 x4 ((x4 * 12) + x2) o6 o7 z24 f24) ?_
        obtain ⟨r36, z36, f36, hc, H⟩ := H
        refine xc_call (t := 46) (ls' := [some (vR 8), some (vI x1), some (vI x2), some (vI x3), some (vI x4), some (vI ((x4 * 12) + x2)), some (vI 1), o7]) (st' := [vI 1]) (bn_c8_94_7 call x1 3 1 _ z24 f24) hc ?_
        show XC call (mP 94) 46 [some (vR 8), some (vI x1), some (vI x2), some (vI x3), some (vI x4), some (vI ((x4 * 12) + x2)), some (vI 1), o7] [vI r36, vI 1] (LW W z36 f36) res
        refine xc_b (i' := 47) (ls' := [some (vR 8), some (vI x1), some (vI x2), some (vI x3), some (vI x4), some (vI ((x4 * 12) + x2)), some (vI 1), o7]) (st' := [vI 2, vI r36, vI 1]) (L' := LW W z36 f36) 1 (bn_c8_94_8 call x1 x2 x3 x4 ((x4 * 12) + x2) 1 o7 r36 1 _) ?_
        obtain ⟨g1, H⟩ := H
        refine xc_g (i' := 48) (ls' := [some (vR 8), some (vI x1), some (vI x2), some (vI x3), some (vI x4), some (vI ((x4 * 12) + x2)), some (vI 1), o7]) (st' := [vI (r36 / 2), vI 1]) (L' := LW W z36 f36) (bn_c8_94_9 call r36 2 1 _ _) (cmp_ne.trans (decide_eq_true g1)) ?_
        refine xc_b (i' := 50) (ls' := [some (vR 8), some (vI x1), some (vI x2), some (vI x3), some (vI x4), some (vI ((x4 * 12) + x2)), some (vI 1), o7]) (st' := [vI 9, vI (1 + (r36 / 2))]) (L' := LW W z36 f36) 2 (bn_c8_94_10 call x1 x2 x3 x4 ((x4 * 12) + x2) 1 o7 (r36 / 2) 1 _) ?_
        refine xc_if2 (it := 51) (ie := 51) (ls' := [some (vR 8), some (vI x1), some (vI x2), some (vI x3), some (vI x4), some (vI ((x4 * 12) + x2)), some (vI 1), o7]) (st1 := [vI 9]) (st2 := [vI (1 + (r36 / 2))]) (bn_c8_94_11 call (1 + (r36 / 2)) 9 _ _) (fun q8 => ?_) (fun q8 => ?_)
        · have H := H.1 (cI2t q8 rfl rfl)
          refine xc_b (i' := 60) (ls' := [some (vR 8), some (vI x1), some (vI x2), some (vI x3), some (vI x4), some (vI ((x4 * 12) + x2)), some (vI 1), some (vI 9)]) (st' := [vI 1, vI x1, vR 2, vI x1, vI ((x4 * 12) + x2), vR 2]) (L' := LW W z36 f36) 9 (bn_c8_94_12 call x1 x2 x3 x4 ((x4 * 12) + x2) 1 o7 9 z36 f36) ?_
          obtain ⟨r37, z37, f37, hc, H⟩ := H
          refine xc_call (t := 61) (ls' := [some (vR 8), some (vI x1), some (vI x2), some (vI x3), some (vI x4), some (vI ((x4 * 12) + x2)), some (vI 1), some (vI 9)]) (st' := [vI x1, vI ((x4 * 12) + x2), vR 2]) (bn_c8_94_13 call x1 1 x1 ((x4 * 12) + x2) _ z36 f36) hc ?_
          show XC call (mP 94) 61 [some (vR 8), some (vI x1), some (vI x2), some (vI x3), some (vI x4), some (vI ((x4 * 12) + x2)), some (vI 1), some (vI 9)] [vI r37, vI x1, vI ((x4 * 12) + x2), vR 2] (LW W z37 f37) res
          refine xc_b (i' := 62) (ls' := [some (vR 8), some (vI x1), some (vI x2), some (vI x3), some (vI x4), some (vI ((x4 * 12) + x2)), some (vI 1), some (vI 9)]) (st' := [vI 9, vI r37, vI x1, vI ((x4 * 12) + x2), vR 2]) (L' := LW W z37 f37) 1 (bn_c8_94_14 call x1 x2 x3 x4 ((x4 * 12) + x2) 1 9 r37 x1 ((x4 * 12) + x2) _) ?_
          obtain ⟨z38, f38, hc, H⟩ := H
          refine xc_call (t := 63) (ls' := [some (vR 8), some (vI x1), some (vI x2), some (vI x3), some (vI x4), some (vI ((x4 * 12) + x2)), some (vI 1), some (vI 9)]) (st' := []) (bn_c8_94_15 call ((x4 * 12) + x2) x1 r37 9 _ z37 f37) hc ?_
          show XC call (mP 94) 63 [some (vR 8), some (vI x1), some (vI x2), some (vI x3), some (vI x4), some (vI ((x4 * 12) + x2)), some (vI 1), some (vI 9)] [] (LW W z38 f38) res
          refine xc_b (i' := 71) (ls' := [some (vR 8), some (vI x1), some (vI x2), some (vI x3), some (vI x4), some (vI ((x4 * 12) + x2)), some (vI 1), some (vI 9)]) (st' := [vI 5, vI x1, vR 2, vI 5, vI x1, vR 2]) (L' := LW W z38 f38) 8 (bn_c8_94_16 call x1 x2 x3 x4 ((x4 * 12) + x2) 1 9 z38 f38) ?_
          obtain ⟨r39, z39, f39, hc, H⟩ := H
          refine xc_call (t := 72) (ls' := [some (vR 8), some (vI x1), some (vI x2), some (vI x3), some (vI x4), some (vI ((x4 * 12) + x2)), some (vI 1), some (vI 9)]) (st' := [vI 5, vI x1, vR 2]) (bn_c8_94_17 call x1 5 5 x1 _ z38 f38) hc ?_
          show XC call (mP 94) 72 [some (vR 8), some (vI x1), some (vI x2), some (vI x3), some (vI x4), some (vI ((x4 * 12) + x2)), some (vI 1), some (vI 9)] [vI r39, vI 5, vI x1, vR 2] (LW W z39 f39) res
          refine xc_b (i' := 74) (ls' := [some (vR 8), some (vI x1), some (vI x2), some (vI x3), some (vI x4), some (vI ((x4 * 12) + x2)), some (vI 1), some (vI 9)]) (st' := [vI (r39 + 1), vI 5, vI x1, vR 2]) (L' := LW W z39 f39) 2 (bn_c8_94_18 call x1 x2 x3 x4 ((x4 * 12) + x2) 1 9 r39 5 x1 _) ?_
          obtain ⟨z40, f40, hc, H⟩ := H
          refine xc_call (t := 75) (ls' := [some (vR 8), some (vI x1), some (vI x2), some (vI x3), some (vI x4), some (vI ((x4 * 12) + x2)), some (vI 1), some (vI 9)]) (st' := []) (bn_c8_94_19 call x1 5 (r39 + 1) _ z39 f39) hc ?_
          show XC call (mP 94) 75 [some (vR 8), some (vI x1), some (vI x2), some (vI x3), some (vI x4), some (vI ((x4 * 12) + x2)), some (vI 1), some (vI 9)] [] (LW W z40 f40) res
          refine xc_b (i' := 79) (ls' := [some (vR 8), some (vI x1), some (vI x2), some (vI x3), some (vI x4), some (vI ((x4 * 12) + x2)), some (vI 1), some (vI 9)]) (st' := [vI ((x4 * 12) + x2), vI x1, vI 1, vR 8]) (L' := LW W z40 f40) 4 (bn_c8_94_20 call x1 x2 x3 x4 ((x4 * 12) + x2) 1 9 _) ?_
          obtain ⟨z41, f41, hc, H⟩ := H
          refine xc_call (t := 80) (ls' := [some (vR 8), some (vI x1), some (vI x2), some (vI x3), some (vI x4), some (vI ((x4 * 12) + x2)), some (vI 1), some (vI 9)]) (st' := []) (bn_c8_94_21 call 1 x1 ((x4 * 12) + x2) _ z40 f40) hc ?_
          show XC call (mP 94) 80 [some (vR 8), some (vI x1), some (vI x2), some (vI x3), some (vI x4), some (vI ((x4 * 12) + x2)), some (vI 1), some (vI 9)] [] (LW W z41 f41) res
          refine xc_b (i' := 81) (ls' := [some (vR 8), some (vI x1), some (vI x2), some (vI x3), some (vI x4), some (vI ((x4 * 12) + x2)), some (vI 1), some (vI 9)]) (st' := [vI ((x4 * 12) + x2)]) (L' := LW W z41 f41) 1 (bn_c8_94_22 call x1 x2 x3 x4 ((x4 * 12) + x2) 1 9 _) ?_
          subst H
          exact xc_ret (bn_c8_94_23 call _ _ _)
        · have H := H.2 (cI2f q8 rfl rfl)
          refine xc_b (i' := 60) (ls' := [some (vR 8), some (vI x1), some (vI x2), some (vI x3), some (vI x4), some (vI ((x4 * 12) + x2)), some (vI 1), some (vI (1 + (r36 / 2)))]) (st' := [vI 1, vI x1, vR 2, vI x1, vI ((x4 * 12) + x2), vR 2]) (L' := LW W z36 f36) 9 (bn_c8_94_12 call x1 x2 x3 x4 ((x4 * 12) + x2) 1 o7 (1 + (r36 / 2)) z36 f36) ?_
          obtain ⟨r42, z42, f42, hc, H⟩ := H
          refine xc_call (t := 61) (ls' := [some (vR 8), some (vI x1), some (vI x2), some (vI x3), some (vI x4), some (vI ((x4 * 12) + x2)), some (vI 1), some (vI (1 + (r36 / 2)))]) (st' := [vI x1, vI ((x4 * 12) + x2), vR 2]) (bn_c8_94_13 call x1 1 x1 ((x4 * 12) + x2) _ z36 f36) hc ?_
          show XC call (mP 94) 61 [some (vR 8), some (vI x1), some (vI x2), some (vI x3), some (vI x4), some (vI ((x4 * 12) + x2)), some (vI 1), some (vI (1 + (r36 / 2)))] [vI r42, vI x1, vI ((x4 * 12) + x2), vR 2] (LW W z42 f42) res
          refine xc_b (i' := 62) (ls' := [some (vR 8), some (vI x1), some (vI x2), some (vI x3), some (vI x4), some (vI ((x4 * 12) + x2)), some (vI 1), some (vI (1 + (r36 / 2)))]) (st' := [vI (1 + (r36 / 2)), vI r42, vI x1, vI ((x4 * 12) + x2), vR 2]) (L' := LW W z42 f42) 1 (bn_c8_94_14 call x1 x2 x3 x4 ((x4 * 12) + x2) 1 (1 + (r36 / 2)) r42 x1 ((x4 * 12) + x2) _) ?_
          obtain ⟨z43, f43, hc, H⟩ := H
          refine xc_call (t := 63) (ls' := [some (vR 8), some (vI x1), some (vI x2), some (vI x3), some (vI x4), some (vI ((x4 * 12) + x2)), some (vI 1), some (vI (1 + (r36 / 2)))]) (st' := []) (bn_c8_94_15 call ((x4 * 12) + x2) x1 r42 (1 + (r36 / 2)) _ z42 f42) hc ?_
          show XC call (mP 94) 63 [some (vR 8), some (vI x1), some (vI x2), some (vI x3), some (vI x4), some (vI ((x4 * 12) + x2)), some (vI 1), some (vI (1 + (r36 / 2)))] [] (LW W z43 f43) res
          refine xc_b (i' := 71) (ls' := [some (vR 8), some (vI x1), some (vI x2), some (vI x3), some (vI x4), some (vI ((x4 * 12) + x2)), some (vI 1), some (vI (1 + (r36 / 2)))]) (st' := [vI 5, vI x1, vR 2, vI 5, vI x1, vR 2]) (L' := LW W z43 f43) 8 (bn_c8_94_16 call x1 x2 x3 x4 ((x4 * 12) + x2) 1 (1 + (r36 / 2)) z43 f43) ?_
          obtain ⟨r44, z44, f44, hc, H⟩ := H
          refine xc_call (t := 72) (ls' := [some (vR 8), some (vI x1), some (vI x2), some (vI x3), some (vI x4), some (vI ((x4 * 12) + x2)), some (vI 1), some (vI (1 + (r36 / 2)))]) (st' := [vI 5, vI x1, vR 2]) (bn_c8_94_17 call x1 5 5 x1 _ z43 f43) hc ?_
          show XC call (mP 94) 72 [some (vR 8), some (vI x1), some (vI x2), some (vI x3), some (vI x4), some (vI ((x4 * 12) + x2)), some (vI 1), some (vI (1 + (r36 / 2)))] [vI r44, vI 5, vI x1, vR 2] (LW W z44 f44) res
          refine xc_b (i' := 74) (ls' := [some (vR 8), some (vI x1), some (vI x2), some (vI x3), some (vI x4), some (vI ((x4 * 12) + x2)), some (vI 1), some (vI (1 + (r36 / 2)))]) (st' := [vI (r44 + 1), vI 5, vI x1, vR 2]) (L' := LW W z44 f44) 2 (bn_c8_94_18 call x1 x2 x3 x4 ((x4 * 12) + x2) 1 (1 + (r36 / 2)) r44 5 x1 _) ?_
          obtain ⟨z45, f45, hc, H⟩ := H
          refine xc_call (t := 75) (ls' := [some (vR 8), some (vI x1), some (vI x2), some (vI x3), some (vI x4), some (vI ((x4 * 12) + x2)), some (vI 1), some (vI (1 + (r36 / 2)))]) (st' := []) (bn_c8_94_19 call x1 5 (r44 + 1) _ z44 f44) hc ?_
          show XC call (mP 94) 75 [some (vR 8), some (vI x1), some (vI x2), some (vI x3), some (vI x4), some (vI ((x4 * 12) + x2)), some (vI 1), some (vI (1 + (r36 / 2)))] [] (LW W z45 f45) res
          refine xc_b (i' := 79) (ls' := [some (vR 8), some (vI x1), some (vI x2), some (vI x3), some (vI x4), some (vI ((x4 * 12) + x2)), some (vI 1), some (vI (1 + (r36 / 2)))]) (st' := [vI ((x4 * 12) + x2), vI x1, vI 1, vR 8]) (L' := LW W z45 f45) 4 (bn_c8_94_20 call x1 x2 x3 x4 ((x4 * 12) + x2) 1 (1 + (r36 / 2)) _) ?_
          obtain ⟨z46, f46, hc, H⟩ := H
          refine xc_call (t := 80) (ls' := [some (vR 8), some (vI x1), some (vI x2), some (vI x3), some (vI x4), some (vI ((x4 * 12) + x2)), some (vI 1), some (vI (1 + (r36 / 2)))]) (st' := []) (bn_c8_94_21 call 1 x1 ((x4 * 12) + x2) _ z45 f45) hc ?_
          show XC call (mP 94) 80 [some (vR 8), some (vI x1), some (vI x2), some (vI x3), some (vI x4), some (vI ((x4 * 12) + x2)), some (vI 1), some (vI (1 + (r36 / 2)))] [] (LW W z46 f46) res
          refine xc_b (i' := 81) (ls' := [some (vR 8), some (vI x1), some (vI x2), some (vI x3), some (vI x4), some (vI ((x4 * 12) + x2)), some (vI 1), some (vI (1 + (r36 / 2)))]) (st' := [vI ((x4 * 12) + x2)]) (L' := LW W z46 f46) 1 (bn_c8_94_22 call x1 x2 x3 x4 ((x4 * 12) + x2) 1 (1 + (r36 / 2)) _) ?_
          subst H
          exact xc_ret (bn_c8_94_23 call _ _ _)
    · have H := H.2 (cI3f q5 rfl rfl)
      refine xc_b (i' := 21) (ls' := [some (vR 8), some (vI x1), some (vI x2), some (vI x3), some (vI x4), o5, o6, o7]) (st' := [vI ((x4 * 12) + x2), vR 2]) (L' := LW W z f) 7 (bn_c8_94_27 call x1 x2 x3 x4 o5 o6 o7 z f) ?_
      obtain ⟨r47, z47, f47, hc, H⟩ := H
      refine xc_call (t := 22) (ls' := [some (vR 8), some (vI x1), some (vI x2), some (vI x3), some (vI x4), o5, o6, o7]) (st' := []) (bn_c8_94_28 call ((x4 * 12) + x2) _ z f) hc ?_
      show XC call (mP 94) 22 [some (vR 8), some (vI x1), some (vI x2), some (vI x3), some (vI x4), o5, o6, o7] [vI r47] (LW W z47 f47) res
      refine xc_if (it := 25) (ie := 23) (ls' := [some (vR 8), some (vI x1), some (vI x2), some (vI x3), some (vI x4), o5, o6, o7]) (st' := []) (bn_c8_94_29 call r47 _ _) (fun q9 => ?_) (fun q9 => ?_)
      · have H := H.1 (cI0t q9)
        refine xc_b (i' := 34) (ls' := [some (vR 8), some (vI x1), some (vI x2), some (vI x3), some (vI x4), some (vI ((x4 * 12) + x2)), o6, o7]) (st' := [vI ((x4 * 12) + x2), vR 2]) (L' := LW W z47 f47) 9 (bn_c8_94_3 call x1 x2 x3 x4 o5 o6 o7 z47 f47) ?_
        obtain ⟨r48, z48, f48, hc, H⟩ := H
        refine xc_call (t := 35) (ls' := [some (vR 8), some (vI x1), some (vI x2), some (vI x3), some (vI x4), some (vI ((x4 * 12) + x2)), o6, o7]) (st' := []) (bn_c8_94_4 call ((x4 * 12) + x2) _ z47 f47) hc ?_
        show XC call (mP 94) 35 [some (vR 8), some (vI x1), some (vI x2), some (vI x3), some (vI x4), some (vI ((x4 * 12) + x2)), o6, o7] [vI r48] (LW W z48 f48) res
        refine xc_if (it := 38) (ie := 36) (ls' := [some (vR 8), some (vI x1), some (vI x2), some (vI x3), some (vI x4), some (vI ((x4 * 12) + x2)), o6, o7]) (st' := []) (bn_c8_94_5 call r48 _ _) (fun q10 => ?_) (fun q10 => ?_)
        · have H := H.1 (cI0t q10)
          refine xc_b (i' := 45) (ls' := [some (vR 8), some (vI x1), some (vI x2), some (vI x3), some (vI x4), some (vI ((x4 * 12) + x2)), some (vI 0), o7]) (st' := [vI 3, vI x1, vR 2, vI 1]) (L' := LW W z48 f48) 7 (bn_c8_94_6 call x1 x2 x3 x4 ((x4 * 12) + x2) o6 o7 z48 f48) ?_
          obtain ⟨r49, z49, f49, hc, H⟩ := H
          refine xc_call (t := 46) (ls' := [some (vR 8), some (vI x1), some (vI x2), some (vI x3), some (vI x4), some (vI ((x4 * 12) + x2)), some (vI 0), o7]) (st' := [vI 1]) (bn_c8_94_7 call x1 3 1 _ z48 f48) hc ?_
          show XC call (mP 94) 46 [some (vR 8), some (vI x1), some (vI x2), some (vI x3), some (vI x4), some (vI ((x4 * 12) + x2)), some (vI 0), o7] [vI r49, vI 1] (LW W z49 f49) res
          refine xc_b (i' := 47) (ls' := [some (vR 8), some (vI x1), some (vI x2), some (vI x3), some (vI x4), some (vI ((x4 * 12) + x2)), some (vI 0), o7]) (st' := [vI 2, vI r49, vI 1]) (L' := LW W z49 f49) 1 (bn_c8_94_8 call x1 x2 x3 x4 ((x4 * 12) + x2) 0 o7 r49 1 _) ?_
          obtain ⟨g1, H⟩ := H
          refine xc_g (i' := 48) (ls' := [some (vR 8), some (vI x1), some (vI x2), some (vI x3), some (vI x4), some (vI ((x4 * 12) + x2)), some (vI 0), o7]) (st' := [vI (r49 / 2), vI 1]) (L' := LW W z49 f49) (bn_c8_94_9 call r49 2 1 _ _) (cmp_ne.trans (decide_eq_true g1)) ?_
          refine xc_b (i' := 50) (ls' := [some (vR 8), some (vI x1), some (vI x2), some (vI x3), some (vI x4), some (vI ((x4 * 12) + x2)), some (vI 0), o7]) (st' := [vI 9, vI (1 + (r49 / 2))]) (L' := LW W z49 f49) 2 (bn_c8_94_10 call x1 x2 x3 x4 ((x4 * 12) + x2) 0 o7 (r49 / 2) 1 _) ?_
          refine xc_if2 (it := 51) (ie := 51) (ls' := [some (vR 8), some (vI x1), some (vI x2), some (vI x3), some (vI x4), some (vI ((x4 * 12) + x2)), some (vI 0), o7]) (st1 := [vI 9]) (st2 := [vI (1 + (r49 / 2))]) (bn_c8_94_11 call (1 + (r49 / 2)) 9 _ _) (fun q11 => ?_) (fun q11 => ?_)
          · have H := H.1 (cI2t q11 rfl rfl)
            refine xc_b (i' := 60) (ls' := [some (vR 8), some (vI x1), some (vI x2), some (vI x3), some (vI x4), some (vI ((x4 * 12) + x2)), some (vI 0), some (vI 9)]) (st' := [vI 1, vI x1, vR 2, vI x1, vI ((x4 * 12) + x2), vR 2]) (L' := LW W z49 f49) 9 (bn_c8_94_12 call x1 x2 x3 x4 ((x4 * 12) + x2) 0 o7 9 z49 f49) ?_
            obtain ⟨r50, z50, f50, hc, H⟩ := H
            refine xc_call (t := 61) (ls' := [some (vR 8), some (vI x1), some (vI x2), some (vI x3), some (vI x4), some (vI ((x4 * 12) + x2)), some (vI 0), some (vI 9)]) (st' := [vI x1, vI ((x4 * 12) + x2), vR 2]) (bn_c8_94_13 call x1 1 x1 ((x4 * 12) + x2) _ z49 f49) hc ?_
            show XC call (mP 94) 61 [some (vR 8), some (vI x1), some (vI x2), some (vI x3), some (vI x4), some (vI ((x4 * 12) + x2)), some (vI 0), some (vI 9)] [vI r50, vI x1, vI ((x4 * 12) + x2), vR 2] (LW W z50 f50) res
            refine xc_b (i' := 62) (ls' := [some (vR 8), some (vI x1), some (vI x2), some (vI x3), some (vI x4), some (vI ((x4 * 12) + x2)), some (vI 0), some (vI 9)]) (st' := [vI 9, vI r50, vI x1, vI ((x4 * 12) + x2), vR 2]) (L' := LW W z50 f50) 1 (bn_c8_94_14 call x1 x2 x3 x4 ((x4 * 12) + x2) 0 9 r50 x1 ((x4 * 12) + x2) _) ?_
            obtain ⟨z51, f51, hc, H⟩ := H
            refine xc_call (t := 63) (ls' := [some (vR 8), some (vI x1), some (vI x2), some (vI x3), some (vI x4), some (vI ((x4 * 12) + x2)), some (vI 0), some (vI 9)]) (st' := []) (bn_c8_94_15 call ((x4 * 12) + x2) x1 r50 9 _ z50 f50) hc ?_
            show XC call (mP 94) 63 [some (vR 8), some (vI x1), some (vI x2), some (vI x3), some (vI x4), some (vI ((x4 * 12) + x2)), some (vI 0), some (vI 9)] [] (LW W z51 f51) res
            refine xc_b (i' := 71) (ls' := [some (vR 8), some (vI x1), some (vI x2), some (vI x3), some (vI x4), some (vI ((x4 * 12) + x2)), some (vI 0), some (vI 9)]) (st' := [vI 5, vI x1, vR 2, vI 5, vI x1, vR 2]) (L' := LW W z51 f51) 8 (bn_c8_94_16 call x1 x2 x3 x4 ((x4 * 12) + x2) 0 9 z51 f51) ?_
            obtain ⟨r52, z52, f52, hc, H⟩ := H
            refine xc_call (t := 72) (ls' := [some (vR 8), some (vI x1), some (vI x2), some (vI x3), some (vI x4), some (vI ((x4 * 12) + x2)), some (vI 0), some (vI 9)]) (st' := [vI 5, vI x1, vR 2]) (bn_c8_94_17 call x1 5 5 x1 _ z51 f51) hc ?_
            show XC call (mP 94) 72 [some (vR 8), some (vI x1), some (vI x2), some (vI x3), some (vI x4), some (vI ((x4 * 12) + x2)), some (vI 0), some (vI 9)] [vI r52, vI 5, vI x1, vR 2] (LW W z52 f52) res
            refine xc_b (i' := 74) (ls' := [some (vR 8), some (vI x1), some (vI x2), some (vI x3), some (vI x4), some (vI ((x4 * 12) + x2)), some (vI 0), some (vI 9)]) (st' := [vI (r52 + 1), vI 5, vI x1, vR 2]) (L' := LW W z52 f52) 2 (bn_c8_94_18 call x1 x2 x3 x4 ((x4 * 12) + x2) 0 9 r52 5 x1 _) ?_
            obtain ⟨z53, f53, hc, H⟩ := H
            refine xc_call (t := 75) (ls' := [some (vR 8), some (vI x1), some (vI x2), some (vI x3), some (vI x4), some (vI ((x4 * 12) + x2)), some (vI 0), some (vI 9)]) (st' := []) (bn_c8_94_19 call x1 5 (r52 + 1) _ z52 f52) hc ?_
            show XC call (mP 94) 75 [some (vR 8), some (vI x1), some (vI x2), some (vI x3), some (vI x4), some (vI ((x4 * 12) + x2)), some (vI 0), some (vI 9)] [] (LW W z53 f53) res
            refine xc_b (i' := 79) (ls' := [some (vR 8), some (vI x1), some (vI x2), some (vI x3), some (vI x4), some (vI ((x4 * 12) + x2)), some (vI 0), some (vI 9)]) (st' := [vI ((x4 * 12) + x2), vI x1, vI 0, vR 8]) (L' := LW W z53 f53) 4 (bn_c8_94_20 call x1 x2 x3 x4 ((x4 * 12) + x2) 0 9 _) ?_
            obtain ⟨z54, f54, hc, H⟩ := H
            refine xc_call (t := 80) (ls' := [some (vR 8), some (vI x1), some (vI x2), some (vI x3), some (vI x4), some (vI ((x4 * 12) + x2)), some (vI 0), some (vI 9)]) (st' := []) (bn_c8_94_21 call 0 x1 ((x4 * 12) + x2) _ z53 f53) hc ?_
            show XC call (mP 94) 80 [some (vR 8), some (vI x1), some (vI x2), some (vI x3), some (vI x4), some (vI ((x4 * 12) + x2)), some (vI 0), some (vI 9)] [] (LW W z54 f54) res
            refine xc_b (i' := 81) (ls' := [some (vR 8), some (vI x1), some (vI x2), some (vI x3), some (vI x4), some (vI ((x4 * 12) + x2)), some (vI 0), some (vI 9)]) (st' := [vI ((x4 * 12) + x2)]) (L' := LW W z54 f54) 1 (bn_c8_94_22 call x1 x2 x3 x4 ((x4 * 12) + x2) 0 9 _) ?_
            subst H
            exact xc_ret (bn_c8_94_23 call _ _ _)
          · have H := H.2 (cI2f q11 rfl rfl)
            refine xc_b (i' := 60) (ls' := [some (vR 8), some (vI x1), some (vI x2), some (vI x3), some (vI x4), some (vI ((x4 * 12) + x2)), some (vI 0), some (vI (1 + (r49 / 2)))]) (st' := [vI 1, vI x1, vR 2, vI x1, vI ((x4 * 12) + x2), vR 2]) (L' := LW W z49 f49) 9 (bn_c8_94_12 call x1 x2 x3 x4 ((x4 * 12) + x2) 0 o7 (1 + (r49 / 2)) z49 f49) ?_
            obtain ⟨r55, z55, f55, hc, H⟩ := H
            refine xc_call (t := 61) (ls' := [some (vR 8), some (vI x1), some (vI x2), some (vI x3), some (vI x4), some (vI ((x4 * 12) + x2)), some (vI 0), some (vI (1 + (r49 / 2)))]) (st' := [vI x1, vI ((x4 * 12) + x2), vR 2]) (bn_c8_94_13 call x1 1 x1 ((x4 * 12) + x2) _ z49 f49) hc ?_
            show XC call (mP 94) 61 [some (vR 8), some (vI x1), some (vI x2), some (vI x3), some (vI x4), some (vI ((x4 * 12) + x2)), some (vI 0), some (vI (1 + (r49 / 2)))] [vI r55, vI x1, vI ((x4 * 12) + x2), vR 2] (LW W z55 f55) res
            refine xc_b (i' := 62) (ls' := [some (vR 8), some (vI x1), some (vI x2), some (vI x3), some (vI x4), some (vI ((x4 * 12) + x2)), some (vI 0), some (vI (1 + (r49 / 2)))]) (st' := [vI (1 + (r49 / 2)), vI r55, vI x1, vI ((x4 * 12) + x2), vR 2]) (L' := LW W z55 f55) 1 (bn_c8_94_14 call x1 x2 x3 x4 ((x4 * 12) + x2) 0 (1 + (r49 / 2)) r55 x1 ((x4 * 12) + x2) _) ?_
            obtain ⟨z56, f56, hc, H⟩ := H
            refine xc_call (t := 63) (ls' := [some (vR 8), some (vI x1), some (vI x2), some (vI x3), some (vI x4), some (vI ((x4 * 12) + x2)), some (vI 0), some (vI (1 + (r49 / 2)))]) (st' := []) (bn_c8_94_15 call ((x4 * 12) + x2) x1 r55 (1 + (r49 / 2)) _ z55 f55) hc ?_
            show XC call (mP 94) 63 [some (vR 8), some (vI x1), some (vI x2), some (vI x3), some (vI x4), some (vI ((x4 * 12) + x2)), some (vI 0), some (vI (1 + (r49 / 2)))] [] (LW W z56 f56) res
            refine xc_b (i' := 71) (ls' := [some (vR 8), some (vI x1), some (vI x2), some (vI x3), some (vI x4), some (vI ((x4 * 12) + x2)), some (vI 0), some (vI (1 + (r49 / 2)))]) (st' := [vI 5, vI x1, vR 2, vI 5, vI x1, vR 2]) (L' := LW W z56 f56) 8 (bn_c8_94_16 call x1 x2 x3 x4 ((x4 * 12) + x2) 0 (1 + (r49 / 2)) z56 f56) ?_
            obtain ⟨r57, z57, f57, hc, H⟩ := H
            refine xc_call (t := 72) (ls' := [some (vR 8), some (vI x1), some (vI x2), some (vI x3), some (vI x4), some (vI ((x4 * 12) + x2)), some (vI 0), some (vI (1 + (r49 / 2)))]) (st' := [vI 5, vI x1, vR 2]) (bn_c8_94_17 call x1 5 5 x1 _ z56 f56) hc ?_
            show XC call (mP 94) 72 [some (vR 8), some (vI x1), some (vI x2), some (vI x3), some (vI x4), some (vI ((x4 * 12) + x2)), some (vI 0), some (vI (1 + (r49 / 2)))] [vI r57, vI 5, vI x1, vR 2] (LW W z57 f57) res
            refine xc_b (i' := 74) (ls' := [some (vR 8), some (vI x1), some (vI x2), some (vI x3), some (vI x4), some (vI ((x4 * 12) + x2)), some (vI 0), some (vI (1 + (r49 / 2)))]) (st' := [vI (r57 + 1), vI 5, vI x1, vR 2]) (L' := LW W z57 f57) 2 (bn_c8_94_18 call x1 x2 x3 x4 ((x4 * 12) + x2) 0 (1 + (r49 / 2)) r57 5 x1 _) ?_
            obtain ⟨z58, f58, hc, H⟩ := H
            refine xc_call (t := 75) (ls' := [some (vR 8), some (vI x1), some (vI x2), some (vI x3), some (vI x4), some (vI ((x4 * 12) + x2)), some (vI 0), some (vI (1 + (r49 / 2)))]) (st' := []) (bn_c8_94_19 call x1 5 (r57 + 1) _ z57 f57) hc ?_
            show XC call (mP 94) 75 [some (vR 8), some (vI x1), some (vI x2), some (vI x3), some (vI x4), some (vI ((x4 * 12) + x2)), some (vI 0), some (vI (1 + (r49 / 2)))] [] (LW W z58 f58) res
            refine xc_b (i' := 79) (ls' := [some (vR 8), some (vI x1), some (vI x2), some (vI x3), some (vI x4), some (vI ((x4 * 12) + x2)), some (vI 0), some (vI (1 + (r49 / 2)))]) (st' := [vI ((x4 * 12) + x2), vI x1, vI 0, vR 8]) (L' := LW W z58 f58) 4 (bn_c8_94_20 call x1 x2 x3 x4 ((x4 * 12) + x2) 0 (1 + (r49 / 2)) _) ?_
            obtain ⟨z59, f59, hc, H⟩ := H
            refine xc_call (t := 80) (ls' := [some (vR 8), some (vI x1), some (vI x2), some (vI x3), some (vI x4), some (vI ((x4 * 12) + x2)), some (vI 0), some (vI (1 + (r49 / 2)))]) (st' := []) (bn_c8_94_21 call 0 x1 ((x4 * 12) + x2) _ z58 f58) hc ?_
            show XC call (mP 94) 80 [some (vR 8), some (vI x1), some (vI x2), some (vI x3), some (vI x4), some (vI ((x4 * 12) + x2)), some (vI 0), some (vI (1 + (r49 / 2)))] [] (LW W z59 f59) res
            refine xc_b (i' := 81) (ls' := [some (vR 8), some (vI x1), some (vI x2), some (vI x3), some (vI x4), some (vI ((x4 * 12) + x2)), some (vI 0), some (vI (1 + (r49 / 2)))]) (st' := [vI ((x4 * 12) + x2)]) (L' := LW W z59 f59) 1 (bn_c8_94_22 call x1 x2 x3 x4 ((x4 * 12) + x2) 0 (1 + (r49 / 2)) _) ?_
            subst H
            exact xc_ret (bn_c8_94_23 call _ _ _)
        · have H := H.2 (cI0f q10)
          refine xc_b (i' := 45) (ls' := [some (vR 8), some (vI x1), some (vI x2), some (vI x3), some (vI x4), some (vI ((x4 * 12) + x2)), some (vI 1), o7]) (st' := [vI 3, vI x1, vR 2, vI 1]) (L' := LW W z48 f48) 8 (bn_c8_94_24 call x1 x2 x3 x4 ((x4 * 12) + x2) o6 o7 z48 f48) ?_
          obtain ⟨r60, z60, f60, hc, H⟩ := H
          refine xc_call (t := 46) (ls' := [some (vR 8), some (vI x1), some (vI x2), some (vI x3), some (vI x4), some (vI ((x4 * 12) + x2)), some (vI 1), o7]) (st' := [vI 1]) (bn_c8_94_7 call x1 3 1 _ z48 f48) hc ?_
          show XC call (mP 94) 46 [some (vR 8), some (vI x1), some (vI x2), some (vI x3), some (vI x4), some (vI ((x4 * 12) + x2)), some (vI 1), o7] [vI r60, vI 1] (LW W z60 f60) res
          refine xc_b (i' := 47) (ls' := [some (vR 8), some (vI x1), some (vI x2), some (vI x3), some (vI x4), some (vI ((x4 * 12) + x2)), some (vI 1), o7]) (st' := [vI 2, vI r60, vI 1]) (L' := LW W z60 f60) 1 (bn_c8_94_8 call x1 x2 x3 x4 ((x4 * 12) + x2) 1 o7 r60 1 _) ?_
          obtain ⟨g1, H⟩ := H
          refine xc_g (i' := 48) (ls' := [some (vR 8), some (vI x1), some (vI x2), some (vI x3), some (vI x4), some (vI ((x4 * 12) + x2)), some (vI 1), o7]) (st' := [vI (r60 / 2), vI 1]) (L' := LW W z60 f60) (bn_c8_94_9 call r60 2 1 _ _) (cmp_ne.trans (decide_eq_true g1)) ?_
          refine xc_b (i' := 50) (ls' := [some (vR 8), some (vI x1), some (vI x2), some (vI x3), some (vI x4), some (vI ((x4 * 12) + x2)), some (vI 1), o7]) (st' := [vI 9, vI (1 + (r60 / 2))]) (L' := LW W z60 f60) 2 (bn_c8_94_10 call x1 x2 x3 x4 ((x4 * 12) + x2) 1 o7 (r60 / 2) 1 _) ?_
          refine xc_if2 (it := 51) (ie := 51) (ls' := [some (vR 8), some (vI x1), some (vI x2), some (vI x3), some (vI x4), some (vI ((x4 * 12) + x2)), some (vI 1), o7]) (st1 := [vI 9]) (st2 := [vI (1 + (r60 / 2))]) (bn_c8_94_11 call (1 + (r60 / 2)) 9 _ _) (fun q12 => ?_) (fun q12 => ?_)
          · have H := H.1 (cI2t q12 rfl rfl)
            refine xc_b (i' := 60) (ls' := [some (vR 8), some (vI x1), some (vI x2), some (vI x3), some (vI x4), some (vI ((x4 * 12) + x2)), some (vI 1), some (vI 9)]) (st' := [vI 1, vI x1, vR 2, vI x1, vI ((x4 * 12) + x2), vR 2]) (L' := LW W z60 f60) 9 (bn_c8_94_12 call x1 x2 x3 x4 ((x4 * 12) + x2) 1 o7 9 z60 f60) ?_
            obtain ⟨r61, z61, f61, hc, H⟩ := H
            refine xc_call (t := 61) (ls' := [some (vR 8), some (vI x1), some (vI x2), some (vI x3), some (vI x4), some (vI ((x4 * 12) + x2)), some (vI 1), some (vI 9)]) (st' := [vI x1, vI ((x4 * 12) + x2), vR 2]) (bn_c8_94_13 call x1 1 x1 ((x4 * 12) + x2) _ z60 f60) hc ?_
            show XC call (mP 94) 61 [some (vR 8), some (vI x1), some (vI x2), some (vI x3), some (vI x4), some (vI ((x4 * 12) + x2)), some (vI 1), some (vI 9)] [vI r61, vI x1, vI ((x4 * 12) + x2), vR 2] (LW W z61 f61) res
            refine xc_b (i' := 62) (ls' := [some (vR 8), some (vI x1), some (vI x2), some (vI x3), some (vI x4), some (vI ((x4 * 12) + x2)), some (vI 1), some (vI 9)]) (st' := [vI 9, vI r61, vI x1, vI ((x4 * 12) + x2), vR 2]) (L' := LW W z61 f61) 1 (bn_c8_94_14 call x1 x2 x3 x4 ((x4 * 12) + x2) 1 9 r61 x1 ((x4 * 12) + x2) _) ?_
            obtain ⟨z62, f62, hc, H⟩ := H
            refine xc_call (t := 63) (ls' := [some (vR 8), some (vI x1), some (vI x2), some (vI x3), some (vI x4), some (vI ((x4 * 12) + x2)), some (vI 1), some (vI 9)]) (st' := []) (bn_c8_94_15 call ((x4 * 12) + x2) x1 r61 9 _ z61 f61) hc ?_
            show XC call (mP 94) 63 [some (vR 8), some (vI x1), some (vI x2), some (vI x3), some (vI x4), some (vI ((x4 * 12) + x2)), some (vI 1), some (vI 9)] [] (LW W z62 f62) res
            refine xc_b (i' := 71) (ls' := [some (vR 8), some (vI x1), some (vI x2), some (vI x3), some (vI x4), some (vI ((x4 * 12) + x2)), some (vI 1), some (vI 9)]) (st' := [vI 5, vI x1, vR 2, vI 5, vI x1, vR 2]) (L' := LW W z62 f62) 8 (bn_c8_94_16 call x1 x2 x3 x4 ((x4 * 12) + x2) 1 9 z62 f62) ?_
            obtain ⟨r63, z63, f63, hc, H⟩ := H
            refine xc_call (t := 72) (ls' := [some (vR 8), some (vI x1), some (vI x2), some (vI x3), some (vI x4), some (vI ((x4 * 12) + x2)), some (vI 1), some (vI 9)]) (st' := [vI 5, vI x1, vR 2]) (bn_c8_94_17 call x1 5 5 x1 _ z62 f62) hc ?_
            show XC call (mP 94) 72 [some (vR 8), some (vI x1), some (vI x2), some (vI x3), some (vI x4), some (vI ((x4 * 12) + x2)), some (vI 1), some (vI 9)] [vI r63, vI 5, vI x1, vR 2] (LW W z63 f63) res
            refine xc_b (i' := 74) (ls' := [some (vR 8), some (vI x1), some (vI x2), some (vI x3), some (vI x4), some (vI ((x4 * 12) + x2)), some (vI 1), some (vI 9)]) (st' := [vI (r63 + 1), vI 5, vI x1, vR 2]) (L' := LW W z63 f63) 2 (bn_c8_94_18 call x1 x2 x3 x4 ((x4 * 12) + x2) 1 9 r63 5 x1 _) ?_
            obtain ⟨z64, f64, hc, H⟩ := H
            refine xc_call (t := 75) (ls' := [some (vR 8), some (vI x1), some (vI x2), some (vI x3), some (vI x4), some (vI ((x4 * 12) + x2)), some (vI 1), some (vI 9)]) (st' := []) (bn_c8_94_19 call x1 5 (r63 + 1) _ z63 f63) hc ?_
            show XC call (mP 94) 75 [some (vR 8), some (vI x1), some (vI x2), some (vI x3), some (vI x4), some (vI ((x4 * 12) + x2)), some (vI 1), some (vI 9)] [] (LW W z64 f64) res
            refine xc_b (i' := 79) (ls' := [some (vR 8), some (vI x1), some (vI x2), some (vI x3), some (vI x4), some (vI ((x4 * 12) + x2)), some (vI 1), some (vI 9)]) (st' := [vI ((x4 * 12) + x2), vI x1, vI 1, vR 8]) (L' := LW W z64 f64) 4 (bn_c8_94_20 call x1 x2 x3 x4 ((x4 * 12) + x2) 1 9 _) ?_
            obtain ⟨z65, f65, hc, H⟩ := H
            refine xc_call (t := 80) (ls' := [some (vR 8), some (vI x1), some (vI x2), some (vI x3), some (vI x4), some (vI ((x4 * 12) + x2)), some (vI 1), some (vI 9)]) (st' := []) (bn_c8_94_21 call 1 x1 ((x4 * 12) + x2) _ z64 f64) hc ?_
            show XC call (mP 94) 80 [some (vR 8), some (vI x1), some (vI x2), some (vI x3), some (vI x4), some (vI ((x4 * 12) + x2)), some (vI 1), some (vI 9)] [] (LW W z65 f65) res
            refine xc_b (i' := 81) (ls' := [some (vR 8), some (vI x1), some (vI x2), some (vI x3), some (vI x4), some (vI ((x4 * 12) + x2)), some (vI 1), some (vI 9)]) (st' := [vI ((x4 * 12) + x2)]) (L' := LW W z65 f65) 1 (bn_c8_94_22 call x1 x2 x3 x4 ((x4 * 12) + x2) 1 9 _) ?_
            subst H
            exact xc_ret (bn_c8_94_23 call _ _ _)
          · have H := H.2 (cI2f q12 rfl rfl)
            refine xc_b (i' := 60) (ls' := [some (vR 8), some (vI x1), some (vI x2), some (vI x3), some (vI x4), some (vI ((x4 * 12) + x2)), some (vI 1), some (vI (1 + (r60 / 2)))]) (st' := [vI 1, vI x1, vR 2, vI x1, vI ((x4 * 12) + x2), vR 2]) (L' := LW W z60 f60) 9 (bn_c8_94_12 call x1 x2 x3 x4 ((x4 * 12) + x2) 1 o7 (1 + (r60 / 2)) z60 f60) ?_
            obtain ⟨r66, z66, f66, hc, H⟩ := H
            refine xc_call (t := 61) (ls' := [some (vR 8), some (vI x1), some (vI x2), some (vI x3), some (vI x4), some (vI ((x4 * 12) + x2)), some (vI 1), some (vI (1 + (r60 / 2)))]) (st' := [vI x1, vI ((x4 * 12) + x2), vR 2]) (bn_c8_94_13 call x1 1 x1 ((x4 * 12) + x2) _ z60 f60) hc ?_
            show XC call (mP 94) 61 [some (vR 8), some (vI x1), some (vI x2), some (vI x3), some (vI x4), some (vI ((x4 * 12) + x2)), some (vI 1), some (vI (1 + (r60 / 2)))] [vI r66, vI x1, vI ((x4 * 12) + x2), vR 2] (LW W z66 f66) res
            refine xc_b (i' := 62) (ls' := [some (vR 8), some (vI x1), some (vI x2), some (vI x3), some (vI x4), some (vI ((x4 * 12) + x2)), some (vI 1), some (vI (1 + (r60 / 2)))]) (st' := [vI (1 + (r60 / 2)), vI r66, vI x1, vI ((x4 * 12) + x2), vR 2]) (L' := LW W z66 f66) 1 (bn_c8_94_14 call x1 x2 x3 x4 ((x4 * 12) + x2) 1 (1 + (r60 / 2)) r66 x1 ((x4 * 12) + x2) _) ?_
            obtain ⟨z67, f67, hc, H⟩ := H
            refine xc_call (t := 63) (ls' := [some (vR 8), some (vI x1), some (vI x2), some (vI x3), some (vI x4), some (vI ((x4 * 12) + x2)), some (vI 1), some (vI (1 + (r60 / 2)))]) (st' := []) (bn_c8_94_15 call ((x4 * 12) + x2) x1 r66 (1 + (r60 / 2)) _ z66 f66) hc ?_
            show XC call (mP 94) 63 [some (vR 8), some (vI x1), some (vI x2), some (vI x3), some (vI x4), some (vI ((x4 * 12) + x2)), some (vI 1), some (vI (1 + (r60 / 2)))] [] (LW W z67 f67) res
            refine xc_b (i' := 71) (ls' := [some (vR 8), some (vI x1), some (vI x2), some (vI x3), some (vI x4), some (vI ((x4 * 12) + x2)), some (vI 1), some (vI (1 + (r60 / 2)))]) (st' := [vI 5, vI x1, vR 2, vI 5, vI x1, vR 2]) (L' := LW W z67 f67) 8 (bn_c8_94_16 call x1 x2 x3 x4 ((x4 * 12) + x2) 1 (1 + (r60 / 2)) z67 f67) ?_
            obtain ⟨r68, z68, f68, hc, H⟩ := H
            refine xc_call (t := 72) (ls' := [some (vR 8), some (vI x1), some (vI x2), some (vI x3), some (vI x4), some (vI ((x4 * 12) + x2)), some (vI 1), some (vI (1 + (r60 / 2)))]) (st' := [vI 5, vI x1, vR 2]) (bn_c8_94_17 call x1 5 5 x1 _ z67 f67) hc ?_
            show XC call (mP 94) 72 [some (vR 8), some (vI x1), some (vI x2), some (vI x3), some (vI x4), some (vI ((x4 * 12) + x2)), some (vI 1), some (vI (1 + (r60 / 2)))] [vI r68, vI 5, vI x1, vR 2] (LW W z68 f68) res
            refine xc_b (i' := 74) (ls' := [some (vR 8), some (vI x1), some (vI x2), some (vI x3), some (vI x4), some (vI ((x4 * 12) + x2)), some (vI 1), some (vI (1 + (r60 / 2)))]) (st' := [vI (r68 + 1), vI 5, vI x1, vR 2]) (L' := LW W z68 f68) 2 (bn_c8_94_18 call x1 x2 x3 x4 ((x4 * 12) + x2) 1 (1 + (r60 / 2)) r68 5 x1 _) ?_
            obtain ⟨z69, f69, hc, H⟩ := H
            refine xc_call (t := 75) (ls' := [some (vR 8), some (vI x1), some (vI x2), some (vI x3), some (vI x4), some (vI ((x4 * 12) + x2)), some (vI 1), some (vI (1 + (r60 / 2)))]) (st' := []) (bn_c8_94_19 call x1 5 (r68 + 1) _ z68 f68) hc ?_
            show XC call (mP 94) 75 [some (vR 8), some (vI x1), some (vI x2), some (vI x3), some (vI x4), some (vI ((x4 * 12) + x2)), some (vI 1), some (vI (1 + (r60 / 2)))] [] (LW W z69 f69) res
            refine xc_b (i' := 79) (ls' := [some (vR 8), some (vI x1), some (vI x2), some (vI x3), some (vI x4), some (vI ((x4 * 12) + x2)), some (vI 1), some (vI (1 + (r60 / 2)))]) (st' := [vI ((x4 * 12) + x2), vI x1, vI 1, vR 8]) (L' := LW W z69 f69) 4 (bn_c8_94_20 call x1 x2 x3 x4 ((x4 * 12) + x2) 1 (1 + (r60 / 2)) _) ?_
            obtain ⟨z70, f70, hc, H⟩ := H
            refine xc_call (t := 80) (ls' := [some (vR 8), some (vI x1), some (vI x2), some (vI x3), some (vI x4), some (vI ((x4 * 12) + x2)), some (vI 1), some (vI (1 + (r60 / 2)))]) (st' := []) (bn_c8_94_21 call 1 x1 ((x4 * 12) + x2) _ z69 f69) hc ?_
            show XC call (mP 94) 80 [some (vR 8), some (vI x1), some (vI x2), some (vI x3), some (vI x4), some (vI ((x4 * 12) + x2)), some (vI 1), some (vI (1 + (r60 / 2)))] [] (LW W z70 f70) res
            refine xc_b (i' := 81) (ls' := [some (vR 8), some (vI x1), some (vI x2), some (vI x3), some (vI x4), some (vI ((x4 * 12) + x2)), some (vI 1), some (vI (1 + (r60 / 2)))]) (st' := [vI ((x4 * 12) + x2)]) (L' := LW W z70 f70) 1 (bn_c8_94_22 call x1 x2 x3 x4 ((x4 * 12) + x2) 1 (1 + (r60 / 2)) _) ?_
            subst H
            exact xc_ret (bn_c8_94_23 call _ _ _)
      · have H := H.2 (cI0f q9)
        refine xc_b (i' := 24) (ls' := [some (vR 8), some (vI x1), some (vI x2), some (vI x3), some (vI (x4 + 1)), o5, o6, o7]) (st' := []) (L' := LW W z47 f47) 1 (bn_c8_94_30 call x1 x2 x3 x4 o5 o6 o7 _) ?_
        refine xc_b (i' := 8) (ls' := [some (vR 8), some (vI x1), some (vI x2), some (vI x3), some (vI (x4 + 1)), o5, o6, o7]) (st' := []) (L' := LW W z47 f47) 1 (bn_c8_94_31 call x1 x2 x3 (x4 + 1) o5 o6 o7 _) ?_
        exact H
theorem cr_putn {nv v i e : Nat} (hv : v < nv) (hi : i < 144) (h1 : 1 ≤ e) (h9 : e ≤ 9) (x y : Int32) (hx : x = 1 ∨ x = -1) {z : Nat → Int32} {f r : Nat → FA} (h : CRL 2 nv z f r) : CRL 2 nv z (uA (uA f 4 (upd (f 4) i (x * (nI v * 16 + nI e)))) 3 (upd (f 3) (100 + v) y)) (uA r 1 (upd (upd (upd (upd (r 1) (67 + i) (nI (v + 1))) (211 + i) x) (355 + i) (nI e)) (47 + v) y)) := by
  obtain ⟨hn, hs, ht, hm, hr⟩ := h
  have g : ∀ j, j < 67 → j ≠ 47 + v → upd (upd (upd (upd (r 1) (67 + i) (nI (v + 1))) (211 + i) x) (355 + i) (nI e)) (47 + v) y j = r 1 j := fun j hj h47 => by rw [pk_un h47, pk_un (by omega), pk_un (by omega), pk_un (by omega)]
  refine ⟨hn, ?_, ?_, ?_, ?_⟩
  · rw [uA_self]
    unfold CRs
    rw [g 4 (by omega) (by omega), g 1 (by omega) (by omega), g 0 (by omega) (by omega), g 5 (by omega) (by omega), g 6 (by omega) (by omega), g 2 (by omega) (by omega), g 3 (by omega) (by omega)]
    exact hs
  · show CRt nv (upd (f 3) (100 + v) y) (upd (upd (upd (upd (r 1) (67 + i) (nI (v + 1))) (211 + i) x) (355 + i) (nI e)) (47 + v) y) (r 4) (r 5) (r 6)
    intro u hu
    obtain ⟨b1, b2, b3, b4, b5, b6, b7, b8, b9⟩ := ht u hu
    refine ⟨(pk_un (by omega)).trans b1, ((pk_un (by omega)).trans b2).trans (g _ (by omega) (by omega)).symm, (pk_un (by omega)).trans b3, (pk_un (by omega)).trans b4, ((pk_un (by omega)).trans b5).trans (g _ (by omega) (by omega)).symm, ?_, b7, b8, ?_⟩
    · by_cases q : u = v
      · subst q
        rw [pk_us, pk_us]
      · rw [pk_un (by omega), g _ (by omega) (by omega)]
        exact b6
    · rw [g _ (by omega) (by omega)]
      exact b9
  · rw [uA_self]
    have hp := MRS.put hv h1 h9 hx hm hi
    refine hp.cong (fun j hj => ?_) (fun j q1 q2 => ?_)
    · rw [uA_ne (show (4 : Nat) ≠ 3 by decide), uA_self]
    · rw [pk_un (show j ≠ 47 + v by omega)]
  · rw [uA_self]
    unfold CRr
    rw [g 1 (by omega) (by omega), g 3 (by omega) (by omega)]
    exact hr
/-- a thumb is left in a column -/
theorem simPressn (d d' : Nat) {nv v col : Nat} (hv : v < nv) (hc : col < 12) {z zr : Nat → Int32} {f r : Nat → FA} (h : RLn nv z f zr r) (hmd : ¬ r 1 (7 + v) = 0) : ∃ i z' f' r', i < 144 ∧ xcall (d + 4) 94 [vR 8, vI (nI v), vI (nI col)] (LW W z f) = some (some (vI (nI i)), LW W z' f') ∧ mcall (d' + 2) 249 [vR 0, vI (nI v), vI (nI col)] (LR zr r) = some (some (vI (nI i)), LR zr r') ∧ RLn nv z' f' zr r' ∧ FRn z f r z' f' r' := by
  have h0 := h
  obtain ⟨hC, hX⟩ := h
  have hC0 := hC
  obtain ⟨hn, hs, ht, hm, hr⟩ := hC
  obtain ⟨b1, b2, b3, b4, b5, b6, ⟨a, ha, e5⟩, ⟨p, hp, e6⟩, b9⟩ := ht v hv
  have zv : z 22 = nI nv := hs.1
  have b2 : f 3 (20 + v) = r 1 (7 + v) := b2
  have b3 : f 3 (40 + v) = nI a := (show f 3 (40 + v) = r 5 v from b3).trans e5
  have b4 : f 3 (60 + v) = nI p := (show f 3 (60 + v) = r 6 v from b4).trans e6
  have b6 : f 3 (100 + v) = r 1 (47 + v) := b6
  have hx : r 1 (7 + v) = 1 ∨ r 1 (7 + v) = -1 := by
    rcases b9 with q | q | q
    · exact Or.inr q
    · exact absurd q hmd
    · exact Or.inl q
  have mks : ∀ i, i < 144 → (¬ f 4 i = 0 ↔ 0 < I (r 1 (67 + i))) := fun i hi => (hm i hi).iff hn
  obtain ⟨w1, w2, w3⟩ := frw_e (g := r 1) (col := col) a 0
  generalize hw : frw (r 1) col a 0 = row at w1 w2 w3
  rw [Nat.zero_add] at w2 w3
  have hi : 12 * row + col < 144 := by omega
  -- what is written, and what is put then
  have depth : 1 + p / 2 ≤ 9 := by omega
  have sn := simNoten (W := W) (d + 1) d' (if 0 < I (r 1 (67 + (12 * row + col))) then 1 else 0) (nI v) (nI (12 * row + col)) (nv := nv) (z := z) (zr := zr) (f := uA (uA f 4 (upd (f 4) (12 * row + col) (r 1 (7 + v) * (nI v * 16 + nI (1 + p / 2))))) 3 (upd (f 3) (100 + v) (r 1 (47 + v) + 1))) (r := uA r 1 (upd (upd (upd (upd (r 1) (67 + (12 * row + col)) (nI (v + 1))) (211 + (12 * row + col)) (r 1 (7 + v))) (355 + (12 * row + col)) (nI (1 + p / 2))) (47 + v) (r 1 (47 + v) + 1))) ⟨cr_putn hv hi (by omega) depth _ _ hx hC0, (fun j hj => by rw [uA_ne (show (6 : Nat) ≠ 3 by decide), uA_ne (show (6 : Nat) ≠ 4 by decide), uA_ne (show (7 : Nat) ≠ 1 by decide)]; exact hX.1 j hj), hX.2⟩
  obtain ⟨z', f6, r7, x3, k1, k2, k3, k4⟩ := sn
  have k5 := k2 r (uA_ne (show (7 : Nat) ≠ 1 by decide)).symm (fun j hj => by rw [uA_self, pk_un (by omega), pk_un (by omega), pk_un (by omega), pk_un (by omega)])
  refine ⟨12 * row + col, z', _, _, hi, ?_, ?_, k3, FRn.trans ⟨fun _ _ => rfl, fun k hk => by rw [uA_ne (fun q => hk (by rw [q]; decide)), uA_ne (fun q => hk (by rw [q]; decide))], fun k hk => uA_ne (fun q => hk (by rw [q]; decide))⟩ k4⟩
  · -- the class
    have ec : ∀ ro : Nat, nI ro * 12 + nI col = nI (12 * ro + col) := fun ro => by rw [show (12 : Int32) = nI 12 from rfl, mul_nI, nI_add, Nat.mul_comm]
    have tr : ∀ w, w < 6 → xcall (d + 3) 13 [vR 2, vI (nI v), vI (nI w)] (LW W z f) = some (some (vI (f 3 (20 * w + v))), LW W z f) := fun w hw6 => wTraitn (d + 1) zv hn hv hw6
    have t2 := tr 2 (by omega)
    rw [show 20 * 2 + v = 40 + v from rfl, b3] at t2
    have t3 := tr 3 (by omega)
    rw [show 20 * 3 + v = 60 + v from rfl, b4] at t3
    have t1 := tr 1 (by omega)
    rw [show 20 * 1 + v = 20 + v from rfl, b2] at t1
    have tne : (3 : Nat) ≠ 4 := by decide
    have t5 : ∀ G : FA, xcall (d + 3) 13 [vR 2, vI (nI v), vI 5] (LW W z (uA f 4 G)) = some (some (vI (r 1 (47 + v))), LW W z (uA f 4 G)) := fun G => by
      have q := wTraitn (W := W) (d + 1) (f := uA f 4 G) (w := 5) zv hn hv (by omega)
      rw [uA_ne tne, show 20 * 5 + v = 100 + v from rfl, b6] at q
      exact q
    have s5 : ∀ G : FA, xcall (d + 3) 87 [vR 2, vI (nI v), vI 5, vI (r 1 (47 + v) + 1)] (LW W z (uA f 4 G)) = some (none, LW W z (uA (uA f 4 G) 3 (upd (f 3) (100 + v) (r 1 (47 + v) + 1)))) := fun G => by
      have q := wSetTn (W := W) (d + 1) (r 1 (47 + v) + 1) (f := uA f 4 G) (w := 5) zv hn hv (by omega)
      rw [uA_ne tne, show 20 * 5 + v = 100 + v from rfl] at q
      exact q
    have ed : 1 + nI p / 2 = nI (1 + p / 2) := by rw [ndiv (a := p) (b := 2) rfl (by omega) (by omega) (by omega), show (1 : Int32) = nI 1 from rfl, nI_add]
    have id9 : ¬ 9 < I (1 + nI p / 2) := by rw [ed, I_nI (by omega)]; omega
    have pt : xcall (d + 3) 86 [vR 2, vI (nI row * 12 + nI col), vI (nI v), vI (r 1 (7 + v)), vI (1 + nI p / 2)] (LW W z f) = some (none, LW W z (uA f 4 (upd (f 4) (12 * row + col) (r 1 (7 + v) * (nI v * 16 + nI (1 + p / 2)))))) := by
      rw [ec, ed]
      exact wPutn (d + 2) _ _ _ hi
    have ia : I (nI a) = a := I_nI (by omega)
    have mk : ∀ ro, ro ≤ 11 → xcall (d + 3) 6 [vR 2, vI (nI ro * 12 + nI col)] (LW W z f) = some (some (vI (mk1 (¬ f 4 (12 * ro + col) = 0))), LW W z f) := fun ro hro => by
      rw [ec]
      exact wMkdn (d + 2) (by omega)
    have fin : ∀ o5 o6 o7, XC (xcall (d + 3)) (mP 94) 8 [some (vR 8), some (vI (nI v)), some (vI (nI col)), some (vI (nI a)), some (vI (nI row)), o5, o6, o7] [] (LW W z f) (some (vI (nI (12 * row + col))), LW W z' (uA (uA (uA f 4 (upd (f 4) (12 * row + col) (r 1 (7 + v) * (nI v * 16 + nI (1 + p / 2))))) 3 (upd (f 3) (100 + v) (r 1 (47 + v) + 1))) 6 f6)) := by
      intro o5 o6 o7
      have ir : I (nI row) = row := I_nI (by omega)
      have mr := mk row (by omega)
      by_cases cm : f 4 (12 * row + col) = 0
      · rw [mk1_f (fun q => q cm)] at mr
        rw [if_neg (fun q => (mks _ hi).mpr q cm)] at k1
        have kk := k1
        rw [show nI (12 * row + col) = nI row * 12 + nI col from (ec row).symm] at kk
        have FIN : ∀ {Q : Prop}, (¬ (0 : Int32) = 0 → Q) := fun q => absurd rfl q
        exact vcn_c8_94_8 _ _ _ _ _ _ _ _ _ _ _ ⟨fun _ => ⟨_, _, _, mr, fun _ => ⟨_, _, _, t3, by decide, fun q => absurd q id9, fun _ => ⟨_, _, _, t1, _, _, pt, _, _, _, t5 _, _, _, s5 _, _, _, kk, by rw [ec]⟩⟩, fun q => absurd rfl q⟩, fun q => ⟨fun q2 => by omega, fun _ => ⟨_, _, _, mr, fun _ => ⟨_, _, _, mr, fun _ => ⟨_, _, _, t3, by decide, fun q => absurd q id9, fun _ => ⟨_, _, _, t1, _, _, pt, _, _, _, t5 _, _, _, s5 _, _, _, kk, by rw [ec]⟩⟩, fun q => absurd rfl q⟩, fun q => absurd rfl q⟩⟩⟩
      · have ra : row = a := by
          rcases w3 with q | q
          · exact q
          · exact absurd ((mks _ hi).mp cm) q
        rw [mk1_t cm] at mr
        rw [if_pos ((mks _ hi).mp cm)] at k1
        have kk := k1
        rw [show nI (12 * row + col) = nI row * 12 + nI col from (ec row).symm] at kk
        exact vcn_c8_94_8 _ _ _ _ _ _ _ _ _ _ _ ⟨fun _ => ⟨_, _, _, mr, fun q => absurd q (by decide), fun _ => ⟨_, _, _, t3, by decide, fun q => absurd q id9, fun _ => ⟨_, _, _, t1, _, _, pt, _, _, _, t5 _, _, _, s5 _, _, _, kk, by rw [ec]⟩⟩⟩, fun q => by omega⟩
    have lp : ∀ t ro, ro + t = a → frw (r 1) col t ro = row → ∀ o5 o6 o7, XC (xcall (d + 3)) (mP 94) 8 [some (vR 8), some (vI (nI v)), some (vI (nI col)), some (vI (nI a)), some (vI (nI ro)), o5, o6, o7] [] (LW W z f) (some (vI (nI (12 * row + col))), LW W z' (uA (uA (uA f 4 (upd (f 4) (12 * row + col) (r 1 (7 + v) * (nI v * 16 + nI (1 + p / 2))))) 3 (upd (f 3) (100 + v) (r 1 (47 + v) + 1))) 6 f6)) := by
      intro t
      induction t with
      | zero =>
        intro ro hro hrow o5 o6 o7
        have hrow : ro = row := hrow
        subst hrow
        exact fin o5 o6 o7
      | succ t ih =>
        intro ro hro hrow o5 o6 o7
        by_cases cm : 0 < I (r 1 (67 + (12 * ro + col)))
        · have e : frw (r 1) col (t + 1) ro = frw (r 1) col t (ro + 1) := if_pos cm
          rw [e] at hrow
          have hnx := ih (ro + 1) (by omega) hrow o5 o6 o7
          have ir : I (nI ro) = ro := I_nI (by omega)
          have mr := mk ro (by omega)
          rw [mk1_t ((mks _ (by omega)).mpr cm)] at mr
          refine vcn_c8_94_8 _ _ _ _ _ _ _ _ _ _ _ ⟨fun q => by omega, fun _ => ⟨fun q => by omega, fun _ => ⟨_, _, _, mr, fun q => absurd q (by decide), fun _ => ?_⟩⟩⟩
          rw [show nI ro + 1 = nI (ro + 1) from nI_add ro 1]
          exact hnx
        · have e : frw (r 1) col (t + 1) ro = ro := if_neg cm
          rw [e] at hrow
          subst hrow
          exact fin o5 o6 o7
    exact xcall_i (mq94 (cu := [])).2.2 rfl (vcn_94_0 (xcall (d + 3)) (nI v) (nI col) none none none none none z f _ ⟨_, _, _, t2, lp a 0 (by omega) hw none none none⟩)
  · -- the reference
    have ec : ∀ ro : Nat, 12 * nI ro + nI col = nI (12 * ro + col) := fun ro => by rw [show (12 : Int32) = nI 12 from rfl, mul_nI, nI_add]
    have xv : ix (nI v) = v := ix_nI (by omega)
    have pv : pin (nI v) 20 = true := pin_nI (by omega) (by omega)
    have ia : I (nI a) = a := I_nI (by omega)
    have e67 : (67 : Int32) + nI (12 * row + col) = nI (67 + (12 * row + col)) := nI_add 67 _
    have e211 : (211 : Int32) + nI (12 * row + col) = nI (211 + (12 * row + col)) := nI_add 211 _
    have e355 : (355 : Int32) + nI (12 * row + col) = nI (355 + (12 * row + col)) := nI_add 355 _
    have e7 : (7 : Int32) + nI v = nI (7 + v) := nI_add 7 v
    have e47 : (47 : Int32) + nI v = nI (47 + v) := nI_add 47 v
    have ev1 : nI v + 1 = nI (v + 1) := nI_add v 1
    have ed : 1 + nI p / 2 = nI (1 + p / 2) := by rw [ndiv (a := p) (b := 2) rfl (by omega) (by omega) (by omega), show (1 : Int32) = nI 1 from rfl, nI_add]
    have mk : ∀ ro, ro ≤ 11 → mcall (d' + 1) 49 [vR 0, vI (12 * nI ro + nI col)] (LR zr r) = some (some (vI (mk1 (0 < I (r 1 (67 + (12 * ro + col)))))), LR zr r) := fun ro hro => by
      rw [ec]
      exact mIs d' (by omega)
    generalize hX3 : uA (uA r 7 r7) 1 (upd (r 1) 3 x3) = rn at k5
    have rn1 : rn 1 = upd (r 1) 3 x3 := by rw [← hX3, uA_self]
    have rn5 : rn 5 = r 5 := by rw [← hX3, uA_ne (by decide), uA_ne (by decide)]
    have rn6 : rn 6 = r 6 := by rw [← hX3, uA_ne (by decide), uA_ne (by decide)]
    have r7m : rn 1 (7 + v) = r 1 (7 + v) := by rw [rn1, pk_un (by omega)]
    have r47 : rn 1 (47 + v) = r 1 (47 + v) := by rw [rn1, pk_un (by omega)]
    have eEnd : uA rn 1 (upd (upd (upd (upd (rn 1) (67 + (12 * row + col)) (nI (v + 1))) (211 + (12 * row + col)) (r 1 (7 + v))) (355 + (12 * row + col)) (nI (1 + p / 2))) (47 + v) (r 1 (47 + v) + 1)) = uA (uA (uA r 1 (upd (upd (upd (upd (r 1) (67 + (12 * row + col)) (nI (v + 1))) (211 + (12 * row + col)) (r 1 (7 + v))) (355 + (12 * row + col)) (nI (1 + p / 2))) (47 + v) (r 1 (47 + v) + 1))) 7 r7) 1 (upd (uA r 1 (upd (upd (upd (upd (r 1) (67 + (12 * row + col)) (nI (v + 1))) (211 + (12 * row + col)) (r 1 (7 + v))) (355 + (12 * row + col)) (nI (1 + p / 2))) (47 + v) (r 1 (47 + v) + 1)) 1) 3 x3) := by
      funext k
      by_cases c1 : k = 1
      · subst c1
        rw [uA_self, uA_self, uA_self, rn1]
        funext j
        by_cases c3 : j = 3
        · subst c3
          rw [pk_un (by omega), pk_un (by omega), pk_un (by omega), pk_un (by omega), pk_us, pk_us]
        · rw [pk_un c3]
          unfold upd
          simp only [c3, if_false]
      · rw [uA_ne c1, uA_ne c1, ← hX3, uA_ne c1]
        by_cases c7 : k = 7
        · subst c7
          rw [uA_self, uA_self]
        · rw [uA_ne c7, uA_ne c7, uA_ne c1]
    rw [← eEnd]
    have FIN : ∀ what : Int32, mcall (d' + 1) 243 [vR 0, vI what, vI (nI v), vI (nI (12 * row + col))] (LR zr r) = some (none, LR zr rn) → ∃ (z2 : Nat → Int32) (f2 : Nat → FA), (mcall (d' + 1)) 243 [vR 0, vI what, vI (nI v), vI (12 * nI row + nI col)] (LR zr r) = some (none, LR z2 f2) ∧ (pin (67 + (12 * nI row + nI col)) 499 = true ∧ (pin (7 + nI v) 499 = true ∧ (pin (211 + (12 * nI row + nI col)) 499 = true ∧ (pin (nI v) 20 = true ∧ (¬ (2 : Int32) = 0 ∧ (∃ (r3 : Int32) (z3 : Nat → Int32) (f3 : Nat → FA), (mcall (d' + 1)) 62 [vR 0, vI 9, vI (1 + ((f2 6 (ix (nI v))) / 2))] (LR z2 (uA (uA f2 1 (upd (f2 1) (ix (67 + (12 * nI row + nI col))) (nI v + 1))) 1 (upd (upd (f2 1) (ix (67 + (12 * nI row + nI col))) (nI v + 1)) (ix (211 + (12 * nI row + nI col))) ((upd (f2 1) (ix (67 + (12 * nI row + nI col))) (nI v + 1)) (ix (7 + nI v)))))) = some (some (vI r3), LR z3 f3) ∧ (pin (355 + (12 * nI row + nI col)) 499 = true ∧ (pin (47 + nI v) 499 = true ∧ (pin (47 + nI v) 499 = true ∧ (some (vI (nI (12 * row + col))), LR zr (uA rn 1 (upd (upd (upd (upd (rn 1) (67 + (12 * row + col)) (nI (v + 1))) (211 + (12 * row + col)) (r 1 (7 + v))) (355 + (12 * row + col)) (nI (1 + p / 2))) (47 + v) (r 1 (47 + v) + 1)))) = (some (vI (12 * nI row + nI col)), LR z3 (uA (uA f3 1 (upd (f3 1) (ix (355 + (12 * nI row + nI col))) r3)) 1 (upd (upd (f3 1) (ix (355 + (12 * nI row + nI col))) r3) (ix (47 + nI v)) (((upd (f3 1) (ix (355 + (12 * nI row + nI col))) r3) (ix (47 + nI v))) + 1))))))))))))) := by
      intro what hk
      rw [ec, e67, e211, e355, e7, e47, ev1, xv, ix_nI (j := 67 + (12 * row + col)) (by omega), ix_nI (j := 211 + (12 * row + col)) (by omega), ix_nI (j := 355 + (12 * row + col)) (by omega), ix_nI (j := 7 + v) (by omega), ix_nI (j := 47 + v) (by omega)]
      refine ⟨zr, rn, hk, pin_nI (by omega) (by omega), pin_nI (by omega) (by omega), pin_nI (by omega) (by omega), pv, by decide, nI (1 + p / 2), zr, (uA (uA rn 1 (upd (rn 1) (67 + (12 * row + col)) (nI (v + 1)))) 1 (upd (upd (rn 1) (67 + (12 * row + col)) (nI (v + 1))) (211 + (12 * row + col)) (upd (rn 1) (67 + (12 * row + col)) (nI (v + 1)) (7 + v)))), ?_, pin_nI (by omega) (by omega), pin_nI (by omega) (by omega), pin_nI (by omega) (by omega), ?_⟩
      · rw [rn6, e6, ed]
        exact mLess9 d' depth
      · simp only [uA_uA, uA_self]
        rw [pk_un (show 7 + v ≠ 67 + (12 * row + col) by omega), r7m, pk_un (show 47 + v ≠ 355 + (12 * row + col) by omega), pk_un (show 47 + v ≠ 211 + (12 * row + col) by omega), pk_un (show 47 + v ≠ 67 + (12 * row + col) by omega), r47]
    have fin : ∀ o4, RC (mcall (d' + 1)) (mP 249) 2 [some (vR 0), some (vI (nI v)), some (vI (nI col)), some (vI (nI row)), o4] [] (LR zr r) (some (vI (nI (12 * row + col))), LR zr (uA rn 1 (upd (upd (upd (upd (rn 1) (67 + (12 * row + col)) (nI (v + 1))) (211 + (12 * row + col)) (r 1 (7 + v))) (355 + (12 * row + col)) (nI (1 + p / 2))) (47 + v) (r 1 (47 + v) + 1)))) := by
      intro o4
      have ir : I (nI row) = row := I_nI (by omega)
      have i5 : I (r 5 (ix (nI v))) = a := by rw [xv, e5]; exact ia
      have mr := mk row (by omega)
      by_cases cm : 0 < I (r 1 (67 + (12 * row + col)))
      · rw [mk1_t cm] at mr
        rw [if_pos cm] at k5
        have ra : row = a := by
          rcases w3 with q | q
          · exact q
          · exact absurd cm q
        exact vcc2_249_2 d' _ _ _ _ _ _ _ ⟨pv, fun _ => ⟨_, _, _, mr, fun q => absurd q (by decide), fun _ => FIN 1 k5⟩, fun q => by omega⟩
      · rw [mk1_f cm] at mr
        rw [if_neg cm] at k5
        exact vcc2_249_2 d' _ _ _ _ _ _ _ ⟨pv, fun _ => ⟨_, _, _, mr, fun _ => FIN 0 k5, fun q => absurd rfl q⟩, fun q => ⟨_, _, _, mr, fun _ => ⟨_, _, _, mr, fun _ => FIN 0 k5, fun q => absurd rfl q⟩, fun q => absurd rfl q⟩⟩
    have lp : ∀ t ro, ro + t = a → frw (r 1) col t ro = row → ∀ o4, RC (mcall (d' + 1)) (mP 249) 2 [some (vR 0), some (vI (nI v)), some (vI (nI col)), some (vI (nI ro)), o4] [] (LR zr r) (some (vI (nI (12 * row + col))), LR zr (uA rn 1 (upd (upd (upd (upd (rn 1) (67 + (12 * row + col)) (nI (v + 1))) (211 + (12 * row + col)) (r 1 (7 + v))) (355 + (12 * row + col)) (nI (1 + p / 2))) (47 + v) (r 1 (47 + v) + 1)))) := by
      intro t
      induction t with
      | zero =>
        intro ro hro hrow o4
        have hrow : ro = row := hrow
        subst hrow
        exact fin o4
      | succ t ih =>
        intro ro hro hrow o4
        by_cases cm : 0 < I (r 1 (67 + (12 * ro + col)))
        · have e : frw (r 1) col (t + 1) ro = frw (r 1) col t (ro + 1) := if_pos cm
          rw [e] at hrow
          have hnx := ih (ro + 1) (by omega) hrow o4
          have ir : I (nI ro) = ro := I_nI (by omega)
          have i5 : I (r 5 (ix (nI v))) = a := by rw [xv, e5]; exact ia
          have mr := mk ro (by omega)
          rw [mk1_t cm] at mr
          refine vcc2_249_2 d' _ _ _ _ _ _ _ ⟨pv, fun q => by omega, fun _ => ⟨_, _, _, mr, fun q => absurd q (by decide), fun _ => ?_⟩⟩
          rw [show nI ro + 1 = nI (ro + 1) from nI_add ro 1]
          exact hnx
        · have e : frw (r 1) col (t + 1) ro = ro := if_neg cm
          rw [e] at hrow
          subst hrow
          exact fin o4
    exact mcall_i (mq249 (cu := [])).2.2 rfl (vc249_0 d' (nI v) (nI col) none none zr r _ (lp a 0 (by omega) hw none))
end TWs
