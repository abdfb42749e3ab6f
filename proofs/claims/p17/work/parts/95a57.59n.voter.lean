/-! voter: both sides -/
section TWs
variable {W : TXW}
set_option maxRecDepth 100000 in
theorem bs_184_1 (call : QC FA) (x1 : Int32) (x2 : Int32) (x3 : Int32) (x4 : Int32) (o5 : Option PV) (o6 : Option PV) (L : QH FA) (F : Nat) : xnG call 184 (F + 2) 0 [some (vR 0), some (vI x1), some (vI x2), some (vI x3), some (vI x4), o5, o6] [] L = xnG call 184 F 2 [some (vR 0), some (vI x1), some (vI x2), some (vI x3), some (vI x4), o5, o6] [vI x1, vI 0] L := rfl
set_option maxRecDepth 100000 in
theorem bs_184_2 (call : QC FA) (a0 : Int32) (a1 : Int32) (ls : List (Option PV)) (z : Nat → Int32) (f : Nat → FA) (F : Nat) : xnG call 184 (F + 1) 2 ls [vI a1, vI a0] (LW W z f) = cbd (call 181 [vI a0, vI a1] (LW W z f)) (fun r L' => xnG call 184 F 3 ls (r.toList ++ []) L') := pcZ (ih := xnG call 184 F) (call := call) (a := 181) (b := 2) (t := 3) (ls := ls) (As := [vI a0, vI a1]) (st' := []) (L := LW W z f) rfl rfl
set_option maxRecDepth 100000 in
theorem bs_184_3 (call : QC FA) (x : Int32) (ls : List (Option PV)) (L : QH FA) (F : Nat) : xnG call 184 (F + 1) 3 ls [vI x] L = bif pcmp 0 x 0 then xnG call 184 F 18 ls [] L else xnG call 184 F 4 ls [] L := rfl
set_option maxRecDepth 100000 in
theorem bs_184_4 (call : QC FA) (x1 : Int32) (x2 : Int32) (x3 : Int32) (x4 : Int32) (o5 : Option PV) (o6 : Option PV) (L : QH FA) (F : Nat) : xnG call 184 (F + 3) 18 [some (vR 0), some (vI x1), some (vI x2), some (vI x3), some (vI x4), o5, o6] [] L = xnG call 184 F 21 [some (vR 0), some (vI x1), some (vI x2), some (vI x3), some (vI x4), some (vI 0), o6] [vI 0] L := rfl
set_option maxRecDepth 100000 in
theorem bs_184_5 (call : QC FA) (x : Int32) (ls : List (Option PV)) (L : QH FA) (F : Nat) : xnG call 184 (F + 1) 21 ls [vI x] L = bif pcmp 0 x 0 then xnG call 184 F 28 ls [] L else xnG call 184 F 22 ls [] L := rfl
set_option maxRecDepth 100000 in
theorem bs_184_6 (call : QC FA) (x1 : Int32) (x2 : Int32) (x3 : Int32) (x4 : Int32) (x5 : Int32) (o6 : Option PV) (L : QH FA) (F : Nat) : xnG call 184 (F + 1) 28 [some (vR 0), some (vI x1), some (vI x2), some (vI x3), some (vI x4), some (vI x5), o6] [] L = xnG call 184 F 29 [some (vR 0), some (vI x1), some (vI x2), some (vI x3), some (vI x4), some (vI x5), o6] [vI ((-1))] L := rfl
set_option maxRecDepth 100000 in
theorem bs_184_7 (call : QC FA) (x : Int32) (ls : List (Option PV)) (L : QH FA) (F : Nat) : xnG call 184 (F + 1) 29 ls [vI x] L = some (some (vI x), L) := rfl
set_option maxRecDepth 100000 in
theorem bs_184_8 (call : QC FA) (x1 : Int32) (x2 : Int32) (x3 : Int32) (x4 : Int32) (o5 : Option PV) (o6 : Option PV) (L : QH FA) (F : Nat) : xnG call 184 (F + 2) 4 [some (vR 0), some (vI x1), some (vI x2), some (vI x3), some (vI x4), o5, o6] [] L = xnG call 184 F 6 [some (vR 0), some (vI x1), some (vI x2), some (vI x3), some (vI x4), o5, o6] [vI x2, vI 1] L := rfl
set_option maxRecDepth 100000 in
theorem bs_184_9 (call : QC FA) (a0 : Int32) (a1 : Int32) (ls : List (Option PV)) (z : Nat → Int32) (f : Nat → FA) (F : Nat) : xnG call 184 (F + 1) 6 ls [vI a1, vI a0] (LW W z f) = cbd (call 181 [vI a0, vI a1] (LW W z f)) (fun r L' => xnG call 184 F 7 ls (r.toList ++ []) L') := pcZ (ih := xnG call 184 F) (call := call) (a := 181) (b := 2) (t := 7) (ls := ls) (As := [vI a0, vI a1]) (st' := []) (L := LW W z f) rfl rfl
set_option maxRecDepth 100000 in
theorem bs_184_10 (call : QC FA) (x : Int32) (ls : List (Option PV)) (L : QH FA) (F : Nat) : xnG call 184 (F + 1) 7 ls [vI x] L = bif pcmp 0 x 0 then xnG call 184 F 18 ls [] L else xnG call 184 F 8 ls [] L := rfl
set_option maxRecDepth 100000 in
theorem bs_184_11 (call : QC FA) (x1 : Int32) (x2 : Int32) (x3 : Int32) (x4 : Int32) (o5 : Option PV) (o6 : Option PV) (L : QH FA) (F : Nat) : xnG call 184 (F + 2) 8 [some (vR 0), some (vI x1), some (vI x2), some (vI x3), some (vI x4), o5, o6] [] L = xnG call 184 F 10 [some (vR 0), some (vI x1), some (vI x2), some (vI x3), some (vI x4), o5, o6] [vI x3, vI 2] L := rfl
set_option maxRecDepth 100000 in
theorem bs_184_12 (call : QC FA) (a0 : Int32) (a1 : Int32) (ls : List (Option PV)) (z : Nat → Int32) (f : Nat → FA) (F : Nat) : xnG call 184 (F + 1) 10 ls [vI a1, vI a0] (LW W z f) = cbd (call 181 [vI a0, vI a1] (LW W z f)) (fun r L' => xnG call 184 F 11 ls (r.toList ++ []) L') := pcZ (ih := xnG call 184 F) (call := call) (a := 181) (b := 2) (t := 11) (ls := ls) (As := [vI a0, vI a1]) (st' := []) (L := LW W z f) rfl rfl
set_option maxRecDepth 100000 in
theorem bs_184_13 (call : QC FA) (x : Int32) (ls : List (Option PV)) (L : QH FA) (F : Nat) : xnG call 184 (F + 1) 11 ls [vI x] L = bif pcmp 0 x 0 then xnG call 184 F 18 ls [] L else xnG call 184 F 12 ls [] L := rfl
set_option maxRecDepth 100000 in
theorem bs_184_14 (call : QC FA) (x1 : Int32) (x2 : Int32) (x3 : Int32) (x4 : Int32) (o5 : Option PV) (o6 : Option PV) (L : QH FA) (F : Nat) : xnG call 184 (F + 2) 12 [some (vR 0), some (vI x1), some (vI x2), some (vI x3), some (vI x4), o5, o6] [] L = xnG call 184 F 14 [some (vR 0), some (vI x1), some (vI x2), some (vI x3), some (vI x4), o5, o6] [vI x4, vI 3] L := rfl
set_option maxRecDepth 100000 in
theorem bs_184_15 (call : QC FA) (a0 : Int32) (a1 : Int32) (ls : List (Option PV)) (z : Nat → Int32) (f : Nat → FA) (F : Nat) : xnG call 184 (F + 1) 14 ls [vI a1, vI a0] (LW W z f) = cbd (call 181 [vI a0, vI a1] (LW W z f)) (fun r L' => xnG call 184 F 15 ls (r.toList ++ []) L') := pcZ (ih := xnG call 184 F) (call := call) (a := 181) (b := 2) (t := 15) (ls := ls) (As := [vI a0, vI a1]) (st' := []) (L := LW W z f) rfl rfl
set_option maxRecDepth 100000 in
theorem bs_184_16 (call : QC FA) (x : Int32) (ls : List (Option PV)) (L : QH FA) (F : Nat) : xnG call 184 (F + 1) 15 ls [vI x] L = bif pcmp 0 x 0 then xnG call 184 F 18 ls [] L else xnG call 184 F 16 ls [] L := rfl
set_option maxRecDepth 100000 in
theorem bs_184_17 (call : QC FA) (x1 : Int32) (x2 : Int32) (x3 : Int32) (x4 : Int32) (o5 : Option PV) (o6 : Option PV) (L : QH FA) (F : Nat) : xnG call 184 (F + 4) 16 [some (vR 0), some (vI x1), some (vI x2), some (vI x3), some (vI x4), o5, o6] [] L = xnG call 184 F 21 [some (vR 0), some (vI x1), some (vI x2), some (vI x3), some (vI x4), some (vI 1), o6] [vI 1] L := rfl
set_option maxRecDepth 100000 in
theorem bs_184_18 (call : QC FA) (x1 : Int32) (x2 : Int32) (x3 : Int32) (x4 : Int32) (x5 : Int32) (o6 : Option PV) (z : Nat → Int32) (f : Nat → FA) (F : Nat) : xnG call 184 (F + 5) 22 [some (vR 0), some (vI x1), some (vI x2), some (vI x3), some (vI x4), some (vI x5), o6] [] (LW W z f) = xnG call 184 F 27 [some (vR 0), some (vI x1), some (vI x2), some (vI x3), some (vI x4), some (vI x5), o6] [vI 20, vI (z 22)] (LW W z f) := rfl
set_option maxRecDepth 100000 in
theorem bs_184_19 (call : QC FA) (x y : Int32) (ls : List (Option PV)) (L : QH FA) (F : Nat) : xnG call 184 (F + 1) 27 ls [vI y, vI x] L = bif pcmp 2 x y then xnG call 184 F 30 ls [] L else xnG call 184 F 28 ls [] L := rfl
set_option maxRecDepth 100000 in
theorem bs_184_20 (call : QC FA) (x1 : Int32) (x2 : Int32) (x3 : Int32) (x4 : Int32) (x5 : Int32) (o6 : Option PV) (z : Nat → Int32) (f : Nat → FA) (F : Nat) : xnG call 184 (F + 11) 30 [some (vR 0), some (vI x1), some (vI x2), some (vI x3), some (vI x4), some (vI x5), o6] [] (LW W z f) = xnG call 184 F 41 [some (vR 0), some (vI x1), some (vI x2), some (vI x3), some (vI x4), some (vI x5), some (vI (z 22))] [vI ((z 22) + 1), vR 2] (LW W z f) := rfl
set_option maxRecDepth 100000 in
theorem bs_184_21 (call : QC FA) (y : Int32) (ls : List (Option PV)) (z : Nat → Int32) (f : Nat → FA) (F : Nat) : xnG call 184 (F + 1) 41 ls [vI y, vR 2] (LW W z f) = xnG call 184 F 42 ls [] (LW W (uZ z 22 y) f) := rfl
set_option maxRecDepth 100000 in
theorem bs_184_22 (call : QC FA) (x1 : Int32) (x2 : Int32) (x3 : Int32) (x4 : Int32) (x5 : Int32) (x6 : Int32) (z : Nat → Int32) (f : Nat → FA) (F : Nat) : xnG call 184 (F + 6) 42 [some (vR 0), some (vI x1), some (vI x2), some (vI x3), some (vI x4), some (vI x5), some (vI x6)] [] (LW W z f) = xnG call 184 F 48 [some (vR 0), some (vI x1), some (vI x2), some (vI x3), some (vI x4), some (vI x5), some (vI x6)] [vI x1, vI 0, vI x6, vR 2] (LW W z f) := rfl
set_option maxRecDepth 100000 in
theorem bs_184_23 (call : QC FA) (a0 : Int32) (a1 : Int32) (a2 : Int32) (ls : List (Option PV)) (z : Nat → Int32) (f : Nat → FA) (F : Nat) : xnG call 184 (F + 1) 48 ls [vI a2, vI a1, vI a0, vR 2] (LW W z f) = cbd (call 87 [vR 2, vI a0, vI a1, vI a2] (LW W z f)) (fun r L' => xnG call 184 F 49 ls (r.toList ++ []) L') := pcY (ih := xnG call 184 F) (call := call) (a := 87) (b := 3) (v := 0) (t := 49) (x := 2) (ls := ls) (As := [vI a0, vI a1, vI a2]) (st' := []) (L := LW W z f) rfl rfl rfl
set_option maxRecDepth 100000 in
theorem bs_184_24 (call : QC FA) (x1 : Int32) (x2 : Int32) (x3 : Int32) (x4 : Int32) (x5 : Int32) (x6 : Int32) (z : Nat → Int32) (f : Nat → FA) (F : Nat) : xnG call 184 (F + 6) 49 [some (vR 0), some (vI x1), some (vI x2), some (vI x3), some (vI x4), some (vI x5), some (vI x6)] [] (LW W z f) = xnG call 184 F 55 [some (vR 0), some (vI x1), some (vI x2), some (vI x3), some (vI x4), some (vI x5), some (vI x6)] [vI x2, vI 1, vI x6, vR 2] (LW W z f) := rfl
set_option maxRecDepth 100000 in
theorem bs_184_25 (call : QC FA) (a0 : Int32) (a1 : Int32) (a2 : Int32) (ls : List (Option PV)) (z : Nat → Int32) (f : Nat → FA) (F : Nat) : xnG call 184 (F + 1) 55 ls [vI a2, vI a1, vI a0, vR 2] (LW W z f) = cbd (call 87 [vR 2, vI a0, vI a1, vI a2] (LW W z f)) (fun r L' => xnG call 184 F 56 ls (r.toList ++ []) L') := pcY (ih := xnG call 184 F) (call := call) (a := 87) (b := 3) (v := 0) (t := 56) (x := 2) (ls := ls) (As := [vI a0, vI a1, vI a2]) (st' := []) (L := LW W z f) rfl rfl rfl
set_option maxRecDepth 100000 in
theorem bs_184_26 (call : QC FA) (x1 : Int32) (x2 : Int32) (x3 : Int32) (x4 : Int32) (x5 : Int32) (x6 : Int32) (z : Nat → Int32) (f : Nat → FA) (F : Nat) : xnG call 184 (F + 6) 56 [some (vR 0), some (vI x1), some (vI x2), some (vI x3), some (vI x4), some (vI x5), some (vI x6)] [] (LW W z f) = xnG call 184 F 62 [some (vR 0), some (vI x1), some (vI x2), some (vI x3), some (vI x4), some (vI x5), some (vI x6)] [vI x3, vI 2, vI x6, vR 2] (LW W z f) := rfl
set_option maxRecDepth 100000 in
theorem bs_184_27 (call : QC FA) (a0 : Int32) (a1 : Int32) (a2 : Int32) (ls : List (Option PV)) (z : Nat → Int32) (f : Nat → FA) (F : Nat) : xnG call 184 (F + 1) 62 ls [vI a2, vI a1, vI a0, vR 2] (LW W z f) = cbd (call 87 [vR 2, vI a0, vI a1, vI a2] (LW W z f)) (fun r L' => xnG call 184 F 63 ls (r.toList ++ []) L') := pcY (ih := xnG call 184 F) (call := call) (a := 87) (b := 3) (v := 0) (t := 63) (x := 2) (ls := ls) (As := [vI a0, vI a1, vI a2]) (st' := []) (L := LW W z f) rfl rfl rfl
set_option maxRecDepth 100000 in
theorem bs_184_28 (call : QC FA) (x1 : Int32) (x2 : Int32) (x3 : Int32) (x4 : Int32) (x5 : Int32) (x6 : Int32) (z : Nat → Int32) (f : Nat → FA) (F : Nat) : xnG call 184 (F + 6) 63 [some (vR 0), some (vI x1), some (vI x2), some (vI x3), some (vI x4), some (vI x5), some (vI x6)] [] (LW W z f) = xnG call 184 F 69 [some (vR 0), some (vI x1), some (vI x2), some (vI x3), some (vI x4), some (vI x5), some (vI x6)] [vI x4, vI 3, vI x6, vR 2] (LW W z f) := rfl
set_option maxRecDepth 100000 in
theorem bs_184_29 (call : QC FA) (a0 : Int32) (a1 : Int32) (a2 : Int32) (ls : List (Option PV)) (z : Nat → Int32) (f : Nat → FA) (F : Nat) : xnG call 184 (F + 1) 69 ls [vI a2, vI a1, vI a0, vR 2] (LW W z f) = cbd (call 87 [vR 2, vI a0, vI a1, vI a2] (LW W z f)) (fun r L' => xnG call 184 F 70 ls (r.toList ++ []) L') := pcY (ih := xnG call 184 F) (call := call) (a := 87) (b := 3) (v := 0) (t := 70) (x := 2) (ls := ls) (As := [vI a0, vI a1, vI a2]) (st' := []) (L := LW W z f) rfl rfl rfl
set_option maxRecDepth 100000 in
theorem bs_184_30 (call : QC FA) (x1 : Int32) (x2 : Int32) (x3 : Int32) (x4 : Int32) (x5 : Int32) (x6 : Int32) (z : Nat → Int32) (f : Nat → FA) (F : Nat) : xnG call 184 (F + 6) 70 [some (vR 0), some (vI x1), some (vI x2), some (vI x3), some (vI x4), some (vI x5), some (vI x6)] [] (LW W z f) = xnG call 184 F 76 [some (vR 0), some (vI x1), some (vI x2), some (vI x3), some (vI x4), some (vI x5), some (vI x6)] [vI 0, vI 4, vI x6, vR 2] (LW W z f) := rfl
set_option maxRecDepth 100000 in
theorem bs_184_31 (call : QC FA) (a0 : Int32) (a1 : Int32) (a2 : Int32) (ls : List (Option PV)) (z : Nat → Int32) (f : Nat → FA) (F : Nat) : xnG call 184 (F + 1) 76 ls [vI a2, vI a1, vI a0, vR 2] (LW W z f) = cbd (call 87 [vR 2, vI a0, vI a1, vI a2] (LW W z f)) (fun r L' => xnG call 184 F 77 ls (r.toList ++ []) L') := pcY (ih := xnG call 184 F) (call := call) (a := 87) (b := 3) (v := 0) (t := 77) (x := 2) (ls := ls) (As := [vI a0, vI a1, vI a2]) (st' := []) (L := LW W z f) rfl rfl rfl
set_option maxRecDepth 100000 in
theorem bs_184_32 (call : QC FA) (x1 : Int32) (x2 : Int32) (x3 : Int32) (x4 : Int32) (x5 : Int32) (x6 : Int32) (z : Nat → Int32) (f : Nat → FA) (F : Nat) : xnG call 184 (F + 6) 77 [some (vR 0), some (vI x1), some (vI x2), some (vI x3), some (vI x4), some (vI x5), some (vI x6)] [] (LW W z f) = xnG call 184 F 83 [some (vR 0), some (vI x1), some (vI x2), some (vI x3), some (vI x4), some (vI x5), some (vI x6)] [vI 0, vI 5, vI x6, vR 2] (LW W z f) := rfl
set_option maxRecDepth 100000 in
theorem bs_184_33 (call : QC FA) (a0 : Int32) (a1 : Int32) (a2 : Int32) (ls : List (Option PV)) (z : Nat → Int32) (f : Nat → FA) (F : Nat) : xnG call 184 (F + 1) 83 ls [vI a2, vI a1, vI a0, vR 2] (LW W z f) = cbd (call 87 [vR 2, vI a0, vI a1, vI a2] (LW W z f)) (fun r L' => xnG call 184 F 84 ls (r.toList ++ []) L') := pcY (ih := xnG call 184 F) (call := call) (a := 87) (b := 3) (v := 0) (t := 84) (x := 2) (ls := ls) (As := [vI a0, vI a1, vI a2]) (st' := []) (L := LW W z f) rfl rfl rfl
set_option maxRecDepth 100000 in
theorem bs_184_34 (call : QC FA) (x1 : Int32) (x2 : Int32) (x3 : Int32) (x4 : Int32) (x5 : Int32) (x6 : Int32) (z : Nat → Int32) (f : Nat → FA) (F : Nat) : xnG call 184 (F + 2) 84 [some (vR 0), some (vI x1), some (vI x2), some (vI x3), some (vI x4), some (vI x5), some (vI x6)] [] (LW W z f) = xnG call 184 F 86 [some (vR 0), some (vI x1), some (vI x2), some (vI x3), some (vI x4), some (vI x5), some (vI x6)] [vR 12] (LW W z f) := rfl
set_option maxRecDepth 100000 in
theorem bs_184_35 (call : QC FA) (ls : List (Option PV)) (z : Nat → Int32) (f : Nat → FA) (F : Nat) : xnG call 184 (F + 1) 86 ls [vR 12] (LW W z f) = cbd (call 139 [vR 12] (LW W z f)) (fun r L' => xnG call 184 F 87 ls (r.toList ++ []) L') := pcY (ih := xnG call 184 F) (call := call) (a := 139) (b := 0) (v := 7) (t := 87) (x := 12) (ls := ls) (As := []) (st' := []) (L := LW W z f) rfl rfl rfl
set_option maxRecDepth 100000 in
theorem bs_184_36 (call : QC FA) (x1 : Int32) (x2 : Int32) (x3 : Int32) (x4 : Int32) (x5 : Int32) (x6 : Int32) (L : QH FA) (F : Nat) : xnG call 184 (F + 1) 87 [some (vR 0), some (vI x1), some (vI x2), some (vI x3), some (vI x4), some (vI x5), some (vI x6)] [] L = xnG call 184 F 88 [some (vR 0), some (vI x1), some (vI x2), some (vI x3), some (vI x4), some (vI x5), some (vI x6)] [vI x6] L := rfl
set_option maxRecDepth 100000 in
theorem bs_184_37 (call : QC FA) (x : Int32) (ls : List (Option PV)) (L : QH FA) (F : Nat) : xnG call 184 (F + 1) 88 ls [vI x] L = some (some (vI x), L) := rfl
theorem vcs_184_0 (call : QC FA) (x1 : Int32) (x2 : Int32) (x3 : Int32) (x4 : Int32) (o5 : Option PV) (o6 : Option PV) (z : Nat → Int32) (f : Nat → FA) (res : Option PV × QH FA) (H : (∃ (r1 : Int32) (z1 : Nat → Int32) (f1 : Nat → FA), call 181 [vI 0, vI x1] (LW W z f) = some (some (vI r1), LW W z1 f1) ∧ ((r1 = 0 → res = (some (vI ((-1))), LW W z1 f1)) ∧ (¬ r1 = 0 → (∃ (r2 : Int32) (z2 : Nat → Int32) (f2 : Nat → FA), call 181 [vI 1, vI x2] (LW W z1 f1) = some (some (vI r2), LW W z2 f2) ∧ ((r2 = 0 → res = (some (vI ((-1))), LW W z2 f2)) ∧ (¬ r2 = 0 → (∃ (r3 : Int32) (z3 : Nat → Int32) (f3 : Nat → FA), call 181 [vI 2, vI x3] (LW W z2 f2) = some (some (vI r3), LW W z3 f3) ∧ ((r3 = 0 → res = (some (vI ((-1))), LW W z3 f3)) ∧ (¬ r3 = 0 → (∃ (r4 : Int32) (z4 : Nat → Int32) (f4 : Nat → FA), call 181 [vI 3, vI x4] (LW W z3 f3) = some (some (vI r4), LW W z4 f4) ∧ ((r4 = 0 → res = (some (vI ((-1))), LW W z4 f4)) ∧ (¬ r4 = 0 → ((I (z4 22) < 20 → (∃ (z5 : Nat → Int32) (f5 : Nat → FA), call 87 [vR 2, vI (z4 22), vI 0, vI x1] (LW W (uZ z4 22 ((z4 22) + 1)) f4) = some (none, LW W z5 f5) ∧ (∃ (z6 : Nat → Int32) (f6 : Nat → FA), call 87 [vR 2, vI (z4 22), vI 1, vI x2] (LW W z5 f5) = some (none, LW W z6 f6) ∧ (∃ (z7 : Nat → Int32) (f7 : Nat → FA), call 87 [vR 2, vI (z4 22), vI 2, vI x3] (LW W z6 f6) = some (none, LW W z7 f7) ∧ (∃ (z8 : Nat → Int32) (f8 : Nat → FA), call 87 [vR 2, vI (z4 22), vI 3, vI x4] (LW W z7 f7) = some (none, LW W z8 f8) ∧ (∃ (z9 : Nat → Int32) (f9 : Nat → FA), call 87 [vR 2, vI (z4 22), vI 4, vI 0] (LW W z8 f8) = some (none, LW W z9 f9) ∧ (∃ (z10 : Nat → Int32) (f10 : Nat → FA), call 87 [vR 2, vI (z4 22), vI 5, vI 0] (LW W z9 f9) = some (none, LW W z10 f10) ∧ (∃ (z11 : Nat → Int32) (f11 : Nat → FA), call 139 [vR 12] (LW W z10 f10) = some (none, LW W z11 f11) ∧ res = (some (vI (z4 22)), LW W z11 f11))))))))) ∧ (20 ≤ I (z4 22) → res = (some (vI ((-1))), LW W z4 f4)))))))))))))))) : XC call (mP 184) 0 [some (vR 0), some (vI x1), some (vI x2), some (vI x3), some (vI x4), o5, o6] [] (LW W z f) res := by
  refine xc_b (i' := 2) (ls' := [some (vR 0), some (vI x1), some (vI x2), some (vI x3), some (vI x4), o5, o6]) (st' := [vI x1, vI 0]) (L' := LW W z f) 2 (bs_184_1 call x1 x2 x3 x4 o5 o6 _) ?_
  obtain ⟨r1, z1, f1, hc, H⟩ := H
  refine xc_call (t := 3) (ls' := [some (vR 0), some (vI x1), some (vI x2), some (vI x3), some (vI x4), o5, o6]) (st' := []) (bs_184_2 call 0 x1 _ z f) hc ?_
  show XC call (mP 184) 3 [some (vR 0), some (vI x1), some (vI x2), some (vI x3), some (vI x4), o5, o6] [vI r1] (LW W z1 f1) res
  refine xc_if (it := 18) (ie := 4) (ls' := [some (vR 0), some (vI x1), some (vI x2), some (vI x3), some (vI x4), o5, o6]) (st' := []) (bs_184_3 call r1 _ _) (fun q1 => ?_) (fun q1 => ?_)
  · have H := H.1 (cI0t q1)
    refine xc_b (i' := 21) (ls' := [some (vR 0), some (vI x1), some (vI x2), some (vI x3), some (vI x4), some (vI 0), o6]) (st' := [vI 0]) (L' := LW W z1 f1) 3 (bs_184_4 call x1 x2 x3 x4 o5 o6 _) ?_
    refine xc_t (it := 28) (ie := 22) (ls' := [some (vR 0), some (vI x1), some (vI x2), some (vI x3), some (vI x4), some (vI 0), o6]) (st' := []) (bs_184_5 call 0 _ _) (by decide) ?_
    refine xc_b (i' := 29) (ls' := [some (vR 0), some (vI x1), some (vI x2), some (vI x3), some (vI x4), some (vI 0), o6]) (st' := [vI ((-1))]) (L' := LW W z1 f1) 1 (bs_184_6 call x1 x2 x3 x4 0 o6 _) ?_
    subst H
    exact xc_ret (bs_184_7 call _ _ _)
  · have H := H.2 (cI0f q1)
    refine xc_b (i' := 6) (ls' := [some (vR 0), some (vI x1), some (vI x2), some (vI x3), some (vI x4), o5, o6]) (st' := [vI x2, vI 1]) (L' := LW W z1 f1) 2 (bs_184_8 call x1 x2 x3 x4 o5 o6 _) ?_
    obtain ⟨r2, z2, f2, hc, H⟩ := H
    refine xc_call (t := 7) (ls' := [some (vR 0), some (vI x1), some (vI x2), some (vI x3), some (vI x4), o5, o6]) (st' := []) (bs_184_9 call 1 x2 _ z1 f1) hc ?_
    show XC call (mP 184) 7 [some (vR 0), some (vI x1), some (vI x2), some (vI x3), some (vI x4), o5, o6] [vI r2] (LW W z2 f2) res
    refine xc_if (it := 18) (ie := 8) (ls' := [some (vR 0), some (vI x1), some (vI x2), some (vI x3), some (vI x4), o5, o6]) (st' := []) (bs_184_10 call r2 _ _) (fun q2 => ?_) (fun q2 => ?_)
    · have H := H.1 (cI0t q2)
      refine xc_b (i' := 21) (ls' := [some (vR 0), some (vI x1), some (vI x2), some (vI x3), some (vI x4), some (vI 0), o6]) (st' := [vI 0]) (L' := LW W z2 f2) 3 (bs_184_4 call x1 x2 x3 x4 o5 o6 _) ?_
      refine xc_t (it := 28) (ie := 22) (ls' := [some (vR 0), some (vI x1), some (vI x2), some (vI x3), some (vI x4), some (vI 0), o6]) (st' := []) (bs_184_5 call 0 _ _) (by decide) ?_
      refine xc_b (i' := 29) (ls' := [some (vR 0), some (vI x1), some (vI x2), some (vI x3), some (vI x4), some (vI 0), o6]) (st' := [vI ((-1))]) (L' := LW W z2 f2) 1 (bs_184_6 call x1 x2 x3 x4 0 o6 _) ?_
      subst H
      exact xc_ret (bs_184_7 call _ _ _)
    · have H := H.2 (cI0f q2)
      refine xc_b (i' := 10) (ls' := [some (vR 0), some (vI x1), some (vI x2), some (vI x3), some (vI x4), o5, o6]) (st' := [vI x3, vI 2]) (L' := LW W z2 f2) 2 (bs_184_11 call x1 x2 x3 x4 o5 o6 _) ?_
      obtain ⟨r3, z3, f3, hc, H⟩ := H
      refine xc_call (t := 11) (ls' := [some (vR 0), some (vI x1), some (vI x2), some (vI x3), some (vI x4), o5, o6]) (st' := []) (bs_184_12 call 2 x3 _ z2 f2) hc ?_
      show XC call (mP 184) 11 [some (vR 0), some (vI x1), some (vI x2), some (vI x3), some (vI x4), o5, o6] [vI r3] (LW W z3 f3) res
      refine xc_if (it := 18) (ie := 12) (ls' := [some (vR 0), some (vI x1), some (vI x2), some (vI x3), some (vI x4), o5, o6]) (st' := []) (bs_184_13 call r3 _ _) (fun q3 => ?_) (fun q3 => ?_)
      · have H := H.1 (cI0t q3)
        refine xc_b (i' := 21) (ls' := [some (vR 0), some (vI x1), some (vI x2), some (vI x3), some (vI x4), some (vI 0), o6]) (st' := [vI 0]) (L' := LW W z3 f3) 3 (bs_184_4 call x1 x2 x3 x4 o5 o6 _) ?_
        refine xc_t (it := 28) (ie := 22) (ls' := [some (vR 0), some (vI x1), some (vI x2), some (vI x3), some (vI x4), some (vI 0), o6]) (st' := []) (bs_184_5 call 0 _ _) (by decide) ?_
        refine xc_b (i' := 29) (ls' := [some (vR 0), some (vI x1), some (vI x2), some (vI x3), some (vI x4), some (vI 0), o6]) (st' := [vI ((-1))]) (L' := LW W z3 f3) 1 (bs_184_6 call x1 x2 x3 x4 0 o6 _) ?_
        subst H
        exact xc_ret (bs_184_7 call _ _ _)
      · have H := H.2 (cI0f q3)
        refine xc_b (i' := 14) (ls' := [some (vR 0), some (vI x1), some (vI x2), some (vI x3), some (vI x4), o5, o6]) (st' := [vI x4, vI 3]) (L' := LW W z3 f3) 2 (bs_184_14 call x1 x2 x3 x4 o5 o6 _) ?_
        obtain ⟨r4, z4, f4, hc, H⟩ := H
        refine xc_call (t := 15) (ls' := [some (vR 0), some (vI x1), some (vI x2), some (vI x3), some (vI x4), o5, o6]) (st' := []) (bs_184_15 call 3 x4 _ z3 f3) hc ?_
        show XC call (mP 184) 15 [some (vR 0), some (vI x1), some (vI x2), some (vI x3), some (vI x4), o5, o6] [vI r4] (LW W z4 f4) res
        refine xc_if (it := 18) (ie := 16) (ls' := [some (vR 0), some (vI x1), some (vI x2), some (vI x3), some (vI x4), o5, o6]) (st' := []) (bs_184_16 call r4 _ _) (fun q4 => ?_) (fun q4 => ?_)
        · have H := H.1 (cI0t q4)
          refine xc_b (i' := 21) (ls' := [some (vR 0), some (vI x1), some (vI x2), some (vI x3), some (vI x4), some (vI 0), o6]) (st' := [vI 0]) (L' := LW W z4 f4) 3 (bs_184_4 call x1 x2 x3 x4 o5 o6 _) ?_
          refine xc_t (it := 28) (ie := 22) (ls' := [some (vR 0), some (vI x1), some (vI x2), some (vI x3), some (vI x4), some (vI 0), o6]) (st' := []) (bs_184_5 call 0 _ _) (by decide) ?_
          refine xc_b (i' := 29) (ls' := [some (vR 0), some (vI x1), some (vI x2), some (vI x3), some (vI x4), some (vI 0), o6]) (st' := [vI ((-1))]) (L' := LW W z4 f4) 1 (bs_184_6 call x1 x2 x3 x4 0 o6 _) ?_
          subst H
          exact xc_ret (bs_184_7 call _ _ _)
        · have H := H.2 (cI0f q4)
          refine xc_b (i' := 21) (ls' := [some (vR 0), some (vI x1), some (vI x2), some (vI x3), some (vI x4), some (vI 1), o6]) (st' := [vI 1]) (L' := LW W z4 f4) 4 (bs_184_17 call x1 x2 x3 x4 o5 o6 _) ?_
          refine xc_f (it := 28) (ie := 22) (ls' := [some (vR 0), some (vI x1), some (vI x2), some (vI x3), some (vI x4), some (vI 1), o6]) (st' := []) (bs_184_5 call 1 _ _) (by decide) ?_
          refine xc_b (i' := 27) (ls' := [some (vR 0), some (vI x1), some (vI x2), some (vI x3), some (vI x4), some (vI 1), o6]) (st' := [vI 20, vI (z4 22)]) (L' := LW W z4 f4) 5 (bs_184_18 call x1 x2 x3 x4 1 o6 z4 f4) ?_
          refine xc_if (it := 30) (ie := 28) (ls' := [some (vR 0), some (vI x1), some (vI x2), some (vI x3), some (vI x4), some (vI 1), o6]) (st' := []) (bs_184_19 call (z4 22) 20 _ _) (fun q5 => ?_) (fun q5 => ?_)
          · have H := H.1 (cI2t q5 rfl rfl)
            refine xc_b (i' := 41) (ls' := [some (vR 0), some (vI x1), some (vI x2), some (vI x3), some (vI x4), some (vI 1), some (vI (z4 22))]) (st' := [vI ((z4 22) + 1), vR 2]) (L' := LW W z4 f4) 11 (bs_184_20 call x1 x2 x3 x4 1 o6 z4 f4) ?_
            refine xc_b (i' := 42) (ls' := [some (vR 0), some (vI x1), some (vI x2), some (vI x3), some (vI x4), some (vI 1), some (vI (z4 22))]) (st' := []) (L' := LW W (uZ z4 22 ((z4 22) + 1)) f4) 1 (bs_184_21 call ((z4 22) + 1) _ z4 f4) ?_
            refine xc_b (i' := 48) (ls' := [some (vR 0), some (vI x1), some (vI x2), some (vI x3), some (vI x4), some (vI 1), some (vI (z4 22))]) (st' := [vI x1, vI 0, vI (z4 22), vR 2]) (L' := LW W (uZ z4 22 ((z4 22) + 1)) f4) 6 (bs_184_22 call x1 x2 x3 x4 1 (z4 22) (uZ z4 22 ((z4 22) + 1)) f4) ?_
            obtain ⟨z5, f5, hc, H⟩ := H
            refine xc_call (t := 49) (ls' := [some (vR 0), some (vI x1), some (vI x2), some (vI x3), some (vI x4), some (vI 1), some (vI (z4 22))]) (st' := []) (bs_184_23 call (z4 22) 0 x1 _ (uZ z4 22 ((z4 22) + 1)) f4) hc ?_
            show XC call (mP 184) 49 [some (vR 0), some (vI x1), some (vI x2), some (vI x3), some (vI x4), some (vI 1), some (vI (z4 22))] [] (LW W z5 f5) res
            refine xc_b (i' := 55) (ls' := [some (vR 0), some (vI x1), some (vI x2), some (vI x3), some (vI x4), some (vI 1), some (vI (z4 22))]) (st' := [vI x2, vI 1, vI (z4 22), vR 2]) (L' := LW W z5 f5) 6 (bs_184_24 call x1 x2 x3 x4 1 (z4 22) z5 f5) ?_
            obtain ⟨z6, f6, hc, H⟩ := H
            refine xc_call (t := 56) (ls' := [some (vR 0), some (vI x1), some (vI x2), some (vI x3), some (vI x4), some (vI 1), some (vI (z4 22))]) (st' := []) (bs_184_25 call (z4 22) 1 x2 _ z5 f5) hc ?_
            show XC call (mP 184) 56 [some (vR 0), some (vI x1), some (vI x2), some (vI x3), some (vI x4), some (vI 1), some (vI (z4 22))] [] (LW W z6 f6) res
            refine xc_b (i' := 62) (ls' := [some (vR 0), some (vI x1), some (vI x2), some (vI x3), some (vI x4), some (vI 1), some (vI (z4 22))]) (st' := [vI x3, vI 2, vI (z4 22), vR 2]) (L' := LW W z6 f6) 6 (bs_184_26 call x1 x2 x3 x4 1 (z4 22) z6 f6) ?_
            obtain ⟨z7, f7, hc, H⟩ := H
            refine xc_call (t := 63) (ls' := [some (vR 0), some (vI x1), some (vI x2), some (vI x3), some (vI x4), some (vI 1), some (vI (z4 22))]) (st' := []) (bs_184_27 call (z4 22) 2 x3 _ z6 f6) hc ?_
            show XC call (mP 184) 63 [some (vR 0), some (vI x1), some (vI x2), some (vI x3), some (vI x4), some (vI 1), some (vI (z4 22))] [] (LW W z7 f7) res
            refine xc_b (i' := 69) (ls' := [some (vR 0), some (vI x1), some (vI x2), some (vI x3), some (vI x4), some (vI 1), some (vI (z4 22))]) (st' := [vI x4, vI 3, vI (z4 22), vR 2]) (L' := LW W z7 f7) 6 (bs_184_28 call x1 x2 x3 x4 1 (z4 22) z7 f7) ?_
            obtain ⟨z8, f8, hc, H⟩ := H
            refine xc_call (t := 70) (ls' := [some (vR 0), some (vI x1), some (vI x2), some (vI x3), some (vI x4), some (vI 1), some (vI (z4 22))]) (st' := []) (bs_184_29 call (z4 22) 3 x4 _ z7 f7) hc ?_
            show XC call (mP 184) 70 [some (vR 0), some (vI x1), some (vI x2), some (vI x3), some (vI x4), some (vI 1), some (vI (z4 22))] [] (LW W z8 f8) res
            refine xc_b (i' := 76) (ls' := [some (vR 0), some (vI x1), some (vI x2), some (vI x3), some (vI x4), some (vI 1), some (vI (z4 22))]) (st' := [vI 0, vI 4, vI (z4 22), vR 2]) (L' := LW W z8 f8) 6 (bs_184_30 call x1 x2 x3 x4 1 (z4 22) z8 f8) ?_
            obtain ⟨z9, f9, hc, H⟩ := H
            refine xc_call (t := 77) (ls' := [some (vR 0), some (vI x1), some (vI x2), some (vI x3), some (vI x4), some (vI 1), some (vI (z4 22))]) (st' := []) (bs_184_31 call (z4 22) 4 0 _ z8 f8) hc ?_
            show XC call (mP 184) 77 [some (vR 0), some (vI x1), some (vI x2), some (vI x3), some (vI x4), some (vI 1), some (vI (z4 22))] [] (LW W z9 f9) res
            refine xc_b (i' := 83) (ls' := [some (vR 0), some (vI x1), some (vI x2), some (vI x3), some (vI x4), some (vI 1), some (vI (z4 22))]) (st' := [vI 0, vI 5, vI (z4 22), vR 2]) (L' := LW W z9 f9) 6 (bs_184_32 call x1 x2 x3 x4 1 (z4 22) z9 f9) ?_
            obtain ⟨z10, f10, hc, H⟩ := H
            refine xc_call (t := 84) (ls' := [some (vR 0), some (vI x1), some (vI x2), some (vI x3), some (vI x4), some (vI 1), some (vI (z4 22))]) (st' := []) (bs_184_33 call (z4 22) 5 0 _ z9 f9) hc ?_
            show XC call (mP 184) 84 [some (vR 0), some (vI x1), some (vI x2), some (vI x3), some (vI x4), some (vI 1), some (vI (z4 22))] [] (LW W z10 f10) res
            refine xc_b (i' := 86) (ls' := [some (vR 0), some (vI x1), some (vI x2), some (vI x3), some (vI x4), some (vI 1), some (vI (z4 22))]) (st' := [vR 12]) (L' := LW W z10 f10) 2 (bs_184_34 call x1 x2 x3 x4 1 (z4 22) z10 f10) ?_
            obtain ⟨z11, f11, hc, H⟩ := H
            refine xc_call (t := 87) (ls' := [some (vR 0), some (vI x1), some (vI x2), some (vI x3), some (vI x4), some (vI 1), some (vI (z4 22))]) (st' := []) (bs_184_35 call _ z10 f10) hc ?_
            show XC call (mP 184) 87 [some (vR 0), some (vI x1), some (vI x2), some (vI x3), some (vI x4), some (vI 1), some (vI (z4 22))] [] (LW W z11 f11) res
            refine xc_b (i' := 88) (ls' := [some (vR 0), some (vI x1), some (vI x2), some (vI x3), some (vI x4), some (vI 1), some (vI (z4 22))]) (st' := [vI (z4 22)]) (L' := LW W z11 f11) 1 (bs_184_36 call x1 x2 x3 x4 1 (z4 22) _) ?_
            subst H
            exact xc_ret (bs_184_37 call _ _ _)
          · have H := H.2 (cI2f q5 rfl rfl)
            refine xc_b (i' := 29) (ls' := [some (vR 0), some (vI x1), some (vI x2), some (vI x3), some (vI x4), some (vI 1), o6]) (st' := [vI ((-1))]) (L' := LW W z4 f4) 1 (bs_184_6 call x1 x2 x3 x4 1 o6 _) ?_
            subst H
            exact xc_ret (bs_184_7 call _ _ _)
/-- as HF, but there may be a voter more -/
def HV (z : Nat → Int32) (f : Nat → FA) (zr : Nat → Int32) (r : Nat → FA) (z' : Nat → Int32) (f' : Nat → FA) (zr' : Nat → Int32) (r' : Nat → FA) : Prop := (∀ j, (j < 22 ∨ (29 < j ∧ j < 122)) → z' j = z j) ∧ (∀ k, k < 14 → k ∉ [3, 4, 6, 9, 10, 11] → f' k = f k) ∧ (∀ j, j ≠ 0 → j ≠ 3 → j ≠ 6 → zr' j = zr j) ∧ ∀ k, k ∉ [1, 2, 3, 4, 5, 6, 7, 21, 22] → r' k = r k
theorem HV.z0 (z : Nat → Int32) (f : Nat → FA) (zr : Nat → Int32) (r : Nat → FA) : HV z f zr r z f (uZ zr 0 0) r := ⟨fun _ _ => Eq.refl _, fun _ _ _ => Eq.refl _, fun j h1 _ _ => uZ_n h1, fun _ _ => Eq.refl _⟩
section VOTER
variable {L : LAW} {n nv nw ns : Nat}
theorem simVoterU (d d' : Nat) {c : Nat} {z zr : Nat → Int32} {f r : Nat → FA} (x1 x2 x3 x4 : Int32) (hR : WR W L n nv nw ns z f zr r) (hG : RGA c c c nv z f zr r) : ∃ a z' f' zr' r' c' nv', xcall (d + 4) 184 [vR 0, vI x1, vI x2, vI x3, vI x4] (LW W z f) = some (some (vI a), LW W z' f') ∧ mcall (d' + 2) 284 [vR 0, vI x1, vI x2, vI x3, vI x4] (LR zr r) = some (some (vI a), LR zr' r') ∧ WR W L n nv' nw ns z' f' zr' r' ∧ RGA c' c' c' nv' z' f' zr' r' ∧ HV z f zr r z' f' zr' r' ∧ nv ≤ nv' := by
  have hn := hR.1.1.1
  have zv : z 22 = nI nv := hR.1.1.2.1.1
  have z6 : zr 6 = nI nv := hR.2.2.2.2
  have R0 := hR.z0
  have G0 := hG.z0
  have cn1 := wCan0 (W := W) (d + 2) x1 (z := z) (f := f)
  have cn2 := wCan1 (W := W) (d + 2) x2 (z := z) (f := f)
  have cn3 := wCan2 (W := W) (d + 2) x3 (z := z) (f := f)
  have cn4 := wCan3 (W := W) (d + 2) x4 (z := z) (f := f)
  by_cases o1 : 0 ≤ I x1 ∧ I x1 ≤ 255
  · rw [mk1_t o1] at cn1
    by_cases o2 : -1 ≤ I x2 ∧ I x2 ≤ 1
    · rw [mk1_t o2] at cn2
      by_cases o3 : 0 ≤ I x3 ∧ I x3 ≤ 11
      · rw [mk1_t o3] at cn3
        by_cases o4 : 0 ≤ I x4 ∧ I x4 ≤ 9
        · rw [mk1_t o4] at cn4
          by_cases full : nv = 20
          · have e20 : zr 6 = 20 := by rw [z6, full]; rfl
            have i20 : I (z 22) = 20 := by rw [zv, full]; decide
            exact ⟨-1, z, f, uZ zr 0 0, r, c, nv, xcall_i (mq184 (cu := [])).2.2 rfl (vcs_184_0 (xcall (d + 3)) x1 x2 x3 x4 none none z f _ ⟨_, _, _, cn1, fun q => absurd q (by decide), fun _ => ⟨_, _, _, cn2, fun q => absurd q (by decide), fun _ => ⟨_, _, _, cn3, fun q => absurd q (by decide), fun _ => ⟨_, _, _, cn4, fun q => absurd q (by decide), fun _ => ⟨fun q => by omega, fun _ => rfl⟩⟩⟩⟩⟩), mcall_i (mq284 (cu := [])).2.2 rfl (vc284_0 d' x1 x2 x3 x4 zr r _ ⟨fun _ => ⟨fun _ => ⟨fun _ => ⟨fun _ => ⟨fun q => absurd e20 q, fun _ => rfl⟩, fun q => absurd o4 q⟩, fun q => absurd o3 q⟩, fun q => absurd o2 q⟩, fun q => absurd o1 q⟩), R0, G0, HV.z0 z f zr r, Nat.le_refl _⟩
          · have h20 : nv < 20 := by omega
            have iv : I (z 22) = nv := by rw [zv]; exact I_nI (by omega)
            have n20 : ¬ zr 6 = 20 := fun q => by
              rw [z6] at q
              have := congrArg I q
              rw [I_nI (by omega), show I 20 = 20 by decide] at this
              omega
            have ez : z 22 + 1 = nI (nv + 1) := by rw [zv]; exact nI_add nv 1
            have st : ∀ (k : Nat) (x : Int32) (T : FA), k < 6 → xcall (d + 3) 87 [vR 2, vI (z 22), vI (nI k), vI x] (LW W (uZ z 22 (z 22 + 1)) (uA f 3 T)) = some (none, LW W (uZ z 22 (z 22 + 1)) (uA f 3 (upd T (20 * k + nv) x))) := fun k x T hk => by
              have q := wSetTn (W := W) (d + 1) x (z := uZ z 22 (z 22 + 1)) (f := uA f 3 T) (nv := nv + 1) (v := nv) (w := k) (by rw [uZ_s, ez]) (by omega) (by omega) hk
              rw [uA_self, uA_uA] at q
              rw [zv] at q ⊢
              exact q
            have s0 := st 0 x1 (f 3) (by decide)
            rw [uA_id rfl, show 20 * 0 + nv = nv by omega] at s0
            have s1 := st 1 x2 (upd (f 3) nv x1) (by decide)
            have s2 := st 2 x3 (upd (upd (f 3) nv x1) (20 * 1 + nv) x2) (by decide)
            have s3 := st 3 x4 (upd (upd (upd (f 3) nv x1) (20 * 1 + nv) x2) (20 * 2 + nv) x3) (by decide)
            have s4 := st 4 0 (upd (upd (upd (upd (f 3) nv x1) (20 * 1 + nv) x2) (20 * 2 + nv) x3) (20 * 3 + nv) x4) (by decide)
            have s5 := st 5 0 (upd (upd (upd (upd (upd (f 3) nv x1) (20 * 1 + nv) x2) (20 * 2 + nv) x3) (20 * 3 + nv) x4) (20 * 4 + nv) 0) (by decide)
            have e7 : (7 : Int32) + zr 6 = nI (7 + nv) := by rw [z6]; exact nI_add 7 nv
            have e27 : (27 : Int32) + zr 6 = nI (27 + nv) := by rw [z6]; exact nI_add 27 nv
            have e47 : (47 : Int32) + zr 6 = nI (47 + nv) := by rw [z6]; exact nI_add 47 nv
            have pv : pin (zr 6) 20 = true := by rw [z6]; exact pin_nI (by omega) (by omega)
            have xv : ix (zr 6) = nv := by rw [z6]; exact ix_nI (by omega)
            have p7 : pin (7 + zr 6) 499 = true := by rw [e7]; exact pin_nI (by omega) (by omega)
            have p27 : pin (27 + zr 6) 499 = true := by rw [e27]; exact pin_nI (by omega) (by omega)
            have p47 : pin (47 + zr 6) 499 = true := by rw [e47]; exact pin_nI (by omega) (by omega)
            have x7 : ix (7 + zr 6) = 7 + nv := by rw [e7]; exact ix_nI (by omega)
            have x27 : ix (27 + zr 6) = 27 + nv := by rw [e27]; exact ix_nI (by omega)
            have x47 : ix (47 + zr 6) = 47 + nv := by rw [e47]; exact ix_nI (by omega)
            have er : zr 6 + 1 - 1 = z 22 := by rw [z6, zv, show nI nv + 1 = nI (nv + 1) from nI_add nv 1]; exact nI_sub (a := nv + 1) (b := 1) (by omega)
            have e1 : zr 6 + 1 = nI (nv + 1) := by rw [z6]; exact nI_add nv 1
            have ref : mcall (d' + 2) 284 [vR 0, vI x1, vI x2, vI x3, vI x4] (LR zr r) = some (some (vI (z 22)), LR (uZ (uZ (uZ zr 0 0) 6 (zr 6 + 1)) 3 0) (uA (uA (uA (uA (uA (uA r 4 (upd (r 4) nv x1)) 5 (upd (r 5) nv x3)) 6 (upd (r 6) nv x4)) 1 (upd (r 1) (7 + nv) x2)) 1 (upd (upd (r 1) (7 + nv) x2) (27 + nv) 0)) 1 (upd (upd (upd (r 1) (7 + nv) x2) (27 + nv) 0) (47 + nv) 0))) := mcall_i (mq284 (cu := [])).2.2 rfl (vc284_0 d' x1 x2 x3 x4 zr r _ ⟨fun _ => ⟨fun _ => ⟨fun _ => ⟨fun _ => ⟨fun _ => ⟨pv, pv, pv, p7, p27, p47, by rw [xv, x7, x27, x47, er]⟩, fun q => absurd q n20⟩, fun q => absurd o4 q⟩, fun q => absurd o3 q⟩, fun q => absurd o2 q⟩, fun q => absurd o1 q⟩)
            rw [uA_uA, uA_uA] at ref
            have ro : ∀ k, k ≠ 4 → k ≠ 5 → k ≠ 6 → k ≠ 1 → uA (uA (uA (uA r 4 (upd (r 4) nv x1)) 5 (upd (r 5) nv x3)) 6 (upd (r 6) nv x4)) 1 (upd (upd (upd (r 1) (7 + nv) x2) (27 + nv) 0) (47 + nv) 0) k = r k := fun k h4 h5 h6 h1 => by rw [uA_ne h1, uA_ne h6, uA_ne h5, uA_ne h4]
            have zz : ∀ j, j ≠ 22 → j ≠ 123 → uZ (uZ z 22 (z 22 + 1)) 123 0 j = z j := fun j h1 h2 => by rw [uZ_n h2, uZ_n h1]
            have hc := cr_new h20 (z' := uZ (uZ z 22 (z 22 + 1)) 123 0) (f' := uA f 3 (nwT (f 3) nv x1 x2 x3 x4)) (mind3 o2) (by obtain ⟨u, e, e1, e2⟩ := nI_ofI o3.1; exact ⟨u, by omega, e⟩) (by obtain ⟨u, e, e1, e2⟩ := nI_ofI o4.1; exact ⟨u, by omega, e⟩) hR.1.1 (by rw [uZ_n (by decide), uZ_s, ez]) (fun j h1 h2 => zz j (by omega) (by omega)) (uA_self _ _ _) (uA_ne (by decide)) (r' := uA (uA (uA (uA r 4 (upd (r 4) nv x1)) 5 (upd (r 5) nv x3)) 6 (upd (r 6) nv x4)) 1 (upd (upd (upd (r 1) (7 + nv) x2) (27 + nv) 0) (47 + nv) 0)) (uA_self _ _ _) (by rw [uA_ne (by decide), uA_ne (by decide), uA_ne (by decide), uA_self]) (by rw [uA_ne (by decide), uA_ne (by decide), uA_self]) (by rw [uA_ne (by decide), uA_self])
            have zro : ∀ j, j ≠ 0 → j ≠ 3 → j ≠ 6 → uZ (uZ (uZ zr 0 0) 6 (zr 6 + 1)) 3 0 j = zr j := fun j h1 h2 h3 => by rw [uZ_n h2, uZ_n h3, uZ_n h1]
            refine ⟨z 22, uZ (uZ z 22 (z 22 + 1)) 123 0, uA f 3 (nwT (f 3) nv x1 x2 x3 x4), _, _, 0, nv + 1, xcall_i (mq184 (cu := [])).2.2 rfl (vcs_184_0 (xcall (d + 3)) x1 x2 x3 x4 none none z f _ ⟨_, _, _, cn1, fun q => absurd q (by decide), fun _ => ⟨_, _, _, cn2, fun q => absurd q (by decide), fun _ => ⟨_, _, _, cn3, fun q => absurd q (by decide), fun _ => ⟨_, _, _, cn4, fun q => absurd q (by decide), fun _ => ⟨fun _ => ⟨_, _, s0, _, _, s1, _, _, s2, _, _, s3, _, _, s4, _, _, s5, _, _, wForget (d + 2), rfl⟩, fun q => by omega⟩⟩⟩⟩⟩), ref, ⟨⟨hc, fun j hj => ?_, (zro 5 (by decide) (by decide) (by decide)).trans hR.1.2.2⟩, ?_, ?_, ?_, ?_⟩, hG.forget (zz 122 (by decide) (by decide)) uZ_s uZ_s, ⟨fun j hj => zz j (by omega) (by omega), fun k _ hk => uA_ne (fun q => hk (by rw [q]; decide)), zro, fun k hk => ro k (fun q => hk (by rw [q]; decide)) (fun q => hk (by rw [q]; decide)) (fun q => hk (by rw [q]; decide)) (fun q => hk (by rw [q]; decide))⟩, Nat.le_succ _⟩
            · rw [uA_ne (show (6 : Nat) ≠ 3 by decide), ro 7 (by decide) (by decide) (by decide) (by decide)]
              exact hR.1.2.1 j hj
            · exact hR.2.1.hf (z := z) (z' := z) (f := f) (f' := f) (zr := zr) (zr' := zr) ⟨fun _ _ => rfl, fun _ _ _ => rfl, fun _ _ _ => rfl, fun k hk => ro k (fun q => hk (by rw [q]; decide)) (fun q => hk (by rw [q]; decide)) (fun q => hk (by rw [q]; decide)) (fun q => hk (by rw [q]; decide))⟩
            · rw [ro 18 (by decide) (by decide) (by decide) (by decide)]
              have q := hR.2.2.1.wide
              unfold WYR at q ⊢
              rw [zro 34 (by decide) (by decide) (by decide)]
              exact q
            · rw [ro 19 (by decide) (by decide) (by decide) (by decide)]
              have q := hR.2.2.2.1.wide
              unfold SKR at q ⊢
              rw [zro 36 (by decide) (by decide) (by decide)]
              exact q
            · rw [uZ_n (by decide), uZ_s, e1]
        · rw [mk1_f o4] at cn4
          exact ⟨-1, z, f, uZ zr 0 0, r, c, nv, xcall_i (mq184 (cu := [])).2.2 rfl (vcs_184_0 (xcall (d + 3)) x1 x2 x3 x4 none none z f _ ⟨_, _, _, cn1, fun q => absurd q (by decide), fun _ => ⟨_, _, _, cn2, fun q => absurd q (by decide), fun _ => ⟨_, _, _, cn3, fun q => absurd q (by decide), fun _ => ⟨_, _, _, cn4, fun _ => rfl, fun q => absurd rfl q⟩⟩⟩⟩), mcall_i (mq284 (cu := [])).2.2 rfl (vc284_0 d' x1 x2 x3 x4 zr r _ ⟨fun _ => ⟨fun _ => ⟨fun _ => ⟨fun q => absurd q o4, fun _ => rfl⟩, fun _ => rfl⟩, fun _ => rfl⟩, fun _ => rfl⟩), R0, G0, HV.z0 z f zr r, Nat.le_refl _⟩
      · rw [mk1_f o3] at cn3
        exact ⟨-1, z, f, uZ zr 0 0, r, c, nv, xcall_i (mq184 (cu := [])).2.2 rfl (vcs_184_0 (xcall (d + 3)) x1 x2 x3 x4 none none z f _ ⟨_, _, _, cn1, fun q => absurd q (by decide), fun _ => ⟨_, _, _, cn2, fun q => absurd q (by decide), fun _ => ⟨_, _, _, cn3, fun _ => rfl, fun q => absurd rfl q⟩⟩⟩), mcall_i (mq284 (cu := [])).2.2 rfl (vc284_0 d' x1 x2 x3 x4 zr r _ ⟨fun _ => ⟨fun _ => ⟨fun q => absurd q o3, fun _ => rfl⟩, fun _ => rfl⟩, fun _ => rfl⟩), R0, G0, HV.z0 z f zr r, Nat.le_refl _⟩
    · rw [mk1_f o2] at cn2
      exact ⟨-1, z, f, uZ zr 0 0, r, c, nv, xcall_i (mq184 (cu := [])).2.2 rfl (vcs_184_0 (xcall (d + 3)) x1 x2 x3 x4 none none z f _ ⟨_, _, _, cn1, fun q => absurd q (by decide), fun _ => ⟨_, _, _, cn2, fun _ => rfl, fun q => absurd rfl q⟩⟩), mcall_i (mq284 (cu := [])).2.2 rfl (vc284_0 d' x1 x2 x3 x4 zr r _ ⟨fun _ => ⟨fun q => absurd q o2, fun _ => rfl⟩, fun _ => rfl⟩), R0, G0, HV.z0 z f zr r, Nat.le_refl _⟩
  · rw [mk1_f o1] at cn1
    exact ⟨-1, z, f, uZ zr 0 0, r, c, nv, xcall_i (mq184 (cu := [])).2.2 rfl (vcs_184_0 (xcall (d + 3)) x1 x2 x3 x4 none none z f _ ⟨_, _, _, cn1, fun _ => rfl, fun q => absurd rfl q⟩), mcall_i (mq284 (cu := [])).2.2 rfl (vc284_0 d' x1 x2 x3 x4 zr r _ ⟨fun q => absurd q o1, fun _ => rfl⟩), R0, G0, HV.z0 z f zr r, Nat.le_refl _⟩
end VOTER
end TWs
