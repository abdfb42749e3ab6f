/-! the sky in thought -/
section TWs
variable {W : TXW}
set_option maxRecDepth 100000 in
theorem bh_100_1 (call : QC FA) (o1 : Option PV) (o2 : Option PV) (o3 : Option PV) (z : Nat → Int32) (f : Nat → FA) (F : Nat) : xnG call 100 (F + 3) 0 [some (vR 35), o1, o2, o3] [] (LW W z f) = xnG call 100 F 3 [some (vR 35), o1, o2, o3] [vI 2, vR 7] (LW W z f) := rfl
set_option maxRecDepth 100000 in
theorem bh_100_2 (hW : WTX W) (call : QC FA) (hk : 2 < 4) (hp : pin 2 4 = true) (hc : ix 2 = 2) (ls : List (Option PV)) (z : Nat → Int32) (f : Nat → FA) (F : Nat) : xnG call 100 (F + 1) 3 ls [vI 2, vR 7] (LW W z f) = xnG call 100 F 4 ls [vR (wJ W 2 + 42)] (LW W z f) := gx_t (ih := xnG call 100 F) (t := 4) (st := []) hW hk hc hp
set_option maxRecDepth 100000 in
theorem bh_100_3 (call : QC FA) (o1 : Option PV) (o2 : Option PV) (o3 : Option PV) (L : QH FA) (F : Nat) : xnG call 100 (F + 3) 4 [some (vR 35), o1, o2, o3] [vR (wJ W 2 + 42)] L = xnG call 100 F 7 [some (vR 35), some (vR (wJ W 2 + 42)), some (vI 0), o3] [] L := rfl
theorem vch_100_0 (hW : WTX W) (call : QC FA) (o1 : Option PV) (o2 : Option PV) (o3 : Option PV) (z : Nat → Int32) (f : Nat → FA) (res : Option PV × QH FA) (H : XC call (mP 100) 7 [some (vR 35), some (vR (wJ W 2 + 42)), some (vI 0), o3] [] (LW W z f) res) : XC call (mP 100) 0 [some (vR 35), o1, o2, o3] [] (LW W z f) res := by
  refine xc_b (i' := 3) (ls' := [some (vR 35), o1, o2, o3]) (st' := [vI 2, vR 7]) (L' := LW W z f) 3 (bh_100_1 call o1 o2 o3 z f) ?_
  refine xc_b (i' := 4) (ls' := [some (vR 35), o1, o2, o3]) (st' := [vR (wJ W 2 + 42)]) (L' := LW W z f) 1 (bh_100_2 hW call (by decide) (by decide) (by decide) _ z f) ?_
  refine xc_b (i' := 7) (ls' := [some (vR 35), some (vR (wJ W 2 + 42)), some (vI 0), o3]) (st' := []) (L' := LW W z f) 3 (bh_100_3 call o1 o2 o3 _) ?_
  exact H
set_option maxRecDepth 100000 in
theorem bh_c7_100_1 (call : QC FA) (x2 : Int32) (o3 : Option PV) (L : QH FA) (F : Nat) : xnG call 100 (F + 2) 7 [some (vR 35), some (vR (wJ W 2 + 42)), some (vI x2), o3] [] L = xnG call 100 F 9 [some (vR 35), some (vR (wJ W 2 + 42)), some (vI x2), o3] [vR (wJ W 2 + 42), vI x2] L := rfl
set_option maxRecDepth 100000 in
theorem bh_c7_100_2 (hW : WTX W) (hk : 2 < 4) (call : QC FA) (s0 : Int32) (ls : List (Option PV)) (z : Nat → Int32) (f : Nat → FA) (F : Nat) : xnG call 100 (F + 1) 9 ls [vR (wJ W 2 + 42), vI s0] (LW W z f) = xnG call 100 F 10 ls [vI (wn W 2), vI s0] (LW W z f) := gt_1 (ih := xnG call 100 F) (t := 10) (st := [vI s0]) hW hk
set_option maxRecDepth 100000 in
theorem bh_c7_100_3 (call : QC FA) (x y : Int32) (ls : List (Option PV)) (L : QH FA) (F : Nat) : xnG call 100 (F + 1) 10 ls [vI y, vI x] L = bif pcmp 3 x y then xnG call 100 F 75 ls [] L else xnG call 100 F 11 ls [] L := rfl
set_option maxRecDepth 100000 in
theorem bh_c7_100_4 (call : QC FA) (ls : List (Option PV)) (L : QH FA) (F : Nat) : xnG call 100 (F + 1) 75 ls [] L = some (none, L) := rfl
set_option maxRecDepth 100000 in
theorem bh_c7_100_5 (call : QC FA) (x2 : Int32) (o3 : Option PV) (L : QH FA) (F : Nat) : xnG call 100 (F + 3) 11 [some (vR 35), some (vR (wJ W 2 + 42)), some (vI x2), o3] [] L = xnG call 100 F 14 [some (vR 35), some (vR (wJ W 2 + 42)), some (vI x2), o3] [vI 0, vI x2, vR (wJ W 2 + 42)] L := rfl
set_option maxRecDepth 100000 in
theorem bh_c7_100_6 (hW : WTX W) (hk : 2 < 4) (call : QC FA) (a0 : Int32) (a1 : Int32) (ls : List (Option PV)) (z : Nat → Int32) (f : Nat → FA) (F : Nat) : xnG call 100 (F + 1) 14 ls [vI a1, vI a0, vR (wJ W 2 + 42)] (LW W z f) = cbd (call 18 [vR (wJ W 2 + 42), vI a0, vI a1] (LW W z f)) (fun r L' => xnG call 100 F 15 ls (r.toList ++ []) L') := pcY (ih := xnG call 100 F) (call := call) (a := 18) (b := 2) (v := 8) (t := 15) (x := wJ W 2 + 42) (ls := ls) (As := [vI a0, vI a1]) (st' := []) (L := LW W z f) rfl (gj_t hW hk) rfl
set_option maxRecDepth 100000 in
theorem bh_c7_100_7 (call : QC FA) (x2 : Int32) (o3 : Option PV) (s0 : Int32) (z : Nat → Int32) (f : Nat → FA) (F : Nat) : xnG call 100 (F + 3) 15 [some (vR 35), some (vR (wJ W 2 + 42)), some (vI x2), o3] [vI s0] (LW W z f) = xnG call 100 F 18 [some (vR 35), some (vR (wJ W 2 + 42)), some (vI x2), o3] [vI (z 325), vI s0] (LW W z f) := rfl
set_option maxRecDepth 100000 in
theorem bh_c7_100_8 (call : QC FA) (x y : Int32) (ls : List (Option PV)) (L : QH FA) (F : Nat) : xnG call 100 (F + 1) 18 ls [vI y, vI x] L = bif pcmp 1 x y then xnG call 100 F 73 ls [] L else xnG call 100 F 19 ls [] L := rfl
set_option maxRecDepth 100000 in
theorem bh_c7_100_9 (call : QC FA) (x2 : Int32) (o3 : Option PV) (L : QH FA) (F : Nat) : xnG call 100 (F + 1) 73 [some (vR 35), some (vR (wJ W 2 + 42)), some (vI x2), o3] [] L = xnG call 100 F 74 [some (vR 35), some (vR (wJ W 2 + 42)), some (vI (x2 + 1)), o3] [] L := rfl
set_option maxRecDepth 100000 in
theorem bh_c7_100_10 (call : QC FA) (x2 : Int32) (o3 : Option PV) (L : QH FA) (F : Nat) : xnG call 100 (F + 1) 74 [some (vR 35), some (vR (wJ W 2 + 42)), some (vI x2), o3] [] L = xnG call 100 F 7 [some (vR 35), some (vR (wJ W 2 + 42)), some (vI x2), o3] [] L := rfl
set_option maxRecDepth 100000 in
theorem bh_c7_100_11 (call : QC FA) (x2 : Int32) (o3 : Option PV) (L : QH FA) (F : Nat) : xnG call 100 (F + 3) 19 [some (vR 35), some (vR (wJ W 2 + 42)), some (vI x2), o3] [] L = xnG call 100 F 22 [some (vR 35), some (vR (wJ W 2 + 42)), some (vI x2), o3] [vI 2, vI x2, vR (wJ W 2 + 42)] L := rfl
set_option maxRecDepth 100000 in
theorem bh_c7_100_12 (hW : WTX W) (hk : 2 < 4) (call : QC FA) (a0 : Int32) (a1 : Int32) (ls : List (Option PV)) (z : Nat → Int32) (f : Nat → FA) (F : Nat) : xnG call 100 (F + 1) 22 ls [vI a1, vI a0, vR (wJ W 2 + 42)] (LW W z f) = cbd (call 18 [vR (wJ W 2 + 42), vI a0, vI a1] (LW W z f)) (fun r L' => xnG call 100 F 23 ls (r.toList ++ []) L') := pcY (ih := xnG call 100 F) (call := call) (a := 18) (b := 2) (v := 8) (t := 23) (x := wJ W 2 + 42) (ls := ls) (As := [vI a0, vI a1]) (st' := []) (L := LW W z f) rfl (gj_t hW hk) rfl
set_option maxRecDepth 100000 in
theorem bh_c7_100_13 (call : QC FA) (x2 : Int32) (o3 : Option PV) (s0 : Int32) (z : Nat → Int32) (f : Nat → FA) (F : Nat) : xnG call 100 (F + 3) 23 [some (vR 35), some (vR (wJ W 2 + 42)), some (vI x2), o3] [vI s0] (LW W z f) = xnG call 100 F 26 [some (vR 35), some (vR (wJ W 2 + 42)), some (vI x2), o3] [vI (z 324), vI s0] (LW W z f) := rfl
set_option maxRecDepth 100000 in
theorem bh_c7_100_14 (call : QC FA) (x y : Int32) (ls : List (Option PV)) (L : QH FA) (F : Nat) : xnG call 100 (F + 1) 26 ls [vI y, vI x] L = bif pcmp 1 x y then xnG call 100 F 73 ls [] L else xnG call 100 F 27 ls [] L := rfl
set_option maxRecDepth 100000 in
theorem bh_c7_100_15 (call : QC FA) (x2 : Int32) (o3 : Option PV) (L : QH FA) (F : Nat) : xnG call 100 (F + 3) 27 [some (vR 35), some (vR (wJ W 2 + 42)), some (vI x2), o3] [] L = xnG call 100 F 30 [some (vR 35), some (vR (wJ W 2 + 42)), some (vI x2), o3] [vI 1, vI x2, vR (wJ W 2 + 42)] L := rfl
set_option maxRecDepth 100000 in
theorem bh_c7_100_16 (hW : WTX W) (hk : 2 < 4) (call : QC FA) (a0 : Int32) (a1 : Int32) (ls : List (Option PV)) (z : Nat → Int32) (f : Nat → FA) (F : Nat) : xnG call 100 (F + 1) 30 ls [vI a1, vI a0, vR (wJ W 2 + 42)] (LW W z f) = cbd (call 18 [vR (wJ W 2 + 42), vI a0, vI a1] (LW W z f)) (fun r L' => xnG call 100 F 31 ls (r.toList ++ []) L') := pcY (ih := xnG call 100 F) (call := call) (a := 18) (b := 2) (v := 8) (t := 31) (x := wJ W 2 + 42) (ls := ls) (As := [vI a0, vI a1]) (st' := []) (L := LW W z f) rfl (gj_t hW hk) rfl
set_option maxRecDepth 100000 in
theorem bh_c7_100_17 (call : QC FA) (x2 : Int32) (o3 : Option PV) (s0 : Int32) (L : QH FA) (F : Nat) : xnG call 100 (F + 3) 31 [some (vR 35), some (vR (wJ W 2 + 42)), some (vI x2), o3] [vI s0] L = xnG call 100 F 34 [some (vR 35), some (vR (wJ W 2 + 42)), some (vI x2), some (vI s0)] [vI 303, vI s0] L := rfl
set_option maxRecDepth 100000 in
theorem bh_c7_100_18 (call : QC FA) (x y : Int32) (ls : List (Option PV)) (L : QH FA) (F : Nat) : xnG call 100 (F + 1) 34 ls [vI y, vI x] L = bif pcmp 1 x y then xnG call 100 F 48 ls [] L else xnG call 100 F 35 ls [] L := rfl
set_option maxRecDepth 100000 in
theorem bh_c7_100_19 (call : QC FA) (x2 : Int32) (x3 : Int32) (L : QH FA) (F : Nat) : xnG call 100 (F + 2) 48 [some (vR 35), some (vR (wJ W 2 + 42)), some (vI x2), some (vI x3)] [] L = xnG call 100 F 50 [some (vR 35), some (vR (wJ W 2 + 42)), some (vI x2), some (vI x3)] [vI 307, vI x3] L := rfl
set_option maxRecDepth 100000 in
theorem bh_c7_100_20 (call : QC FA) (x y : Int32) (ls : List (Option PV)) (L : QH FA) (F : Nat) : xnG call 100 (F + 1) 50 ls [vI y, vI x] L = bif pcmp 1 x y then xnG call 100 F 59 ls [] L else xnG call 100 F 51 ls [] L := rfl
set_option maxRecDepth 100000 in
theorem bh_c7_100_21 (call : QC FA) (x2 : Int32) (x3 : Int32) (L : QH FA) (F : Nat) : xnG call 100 (F + 4) 59 [some (vR 35), some (vR (wJ W 2 + 42)), some (vI x2), some (vI x3)] [] L = xnG call 100 F 63 [some (vR 35), some (vR (wJ W 2 + 42)), some (vI x2), some (vI x3)] [vI 4, vI x2, vR (wJ W 2 + 42), vR 35] L := rfl
set_option maxRecDepth 100000 in
theorem bh_c7_100_22 (hW : WTX W) (hk : 2 < 4) (call : QC FA) (a0 : Int32) (a1 : Int32) (ls : List (Option PV)) (z : Nat → Int32) (f : Nat → FA) (F : Nat) : xnG call 100 (F + 1) 63 ls [vI a1, vI a0, vR (wJ W 2 + 42), vR 35] (LW W z f) = cbd (call 18 [vR (wJ W 2 + 42), vI a0, vI a1] (LW W z f)) (fun r L' => xnG call 100 F 64 ls (r.toList ++ [vR 35]) L') := pcY (ih := xnG call 100 F) (call := call) (a := 18) (b := 2) (v := 8) (t := 64) (x := wJ W 2 + 42) (ls := ls) (As := [vI a0, vI a1]) (st' := [vR 35]) (L := LW W z f) rfl (gj_t hW hk) rfl
set_option maxRecDepth 100000 in
theorem bh_c7_100_23 (call : QC FA) (x2 : Int32) (x3 : Int32) (s0 : Int32) (L : QH FA) (F : Nat) : xnG call 100 (F + 5) 64 [some (vR 35), some (vR (wJ W 2 + 42)), some (vI x2), some (vI x3)] [vI s0, vR 35] L = xnG call 100 F 69 [some (vR 35), some (vR (wJ W 2 + 42)), some (vI x2), some (vI x3)] [vI 3, vI x2, vR (wJ W 2 + 42), vI (s0 * 12), vR 35] L := rfl
set_option maxRecDepth 100000 in
theorem bh_c7_100_24 (hW : WTX W) (hk : 2 < 4) (call : QC FA) (a0 : Int32) (a1 : Int32) (s0 : Int32) (ls : List (Option PV)) (z : Nat → Int32) (f : Nat → FA) (F : Nat) : xnG call 100 (F + 1) 69 ls [vI a1, vI a0, vR (wJ W 2 + 42), vI s0, vR 35] (LW W z f) = cbd (call 18 [vR (wJ W 2 + 42), vI a0, vI a1] (LW W z f)) (fun r L' => xnG call 100 F 70 ls (r.toList ++ [vI s0, vR 35]) L') := pcY (ih := xnG call 100 F) (call := call) (a := 18) (b := 2) (v := 8) (t := 70) (x := wJ W 2 + 42) (ls := ls) (As := [vI a0, vI a1]) (st' := [vI s0, vR 35]) (L := LW W z f) rfl (gj_t hW hk) rfl
set_option maxRecDepth 100000 in
theorem bh_c7_100_25 (call : QC FA) (x2 : Int32) (x3 : Int32) (s0 : Int32) (s1 : Int32) (L : QH FA) (F : Nat) : xnG call 100 (F + 2) 70 [some (vR 35), some (vR (wJ W 2 + 42)), some (vI x2), some (vI x3)] [vI s0, vI s1, vR 35] L = xnG call 100 F 72 [some (vR 35), some (vR (wJ W 2 + 42)), some (vI x2), some (vI x3)] [vI 3, vI (s1 + s0), vR 35] L := rfl
set_option maxRecDepth 100000 in
theorem bh_c7_100_26 (call : QC FA) (a0 : Int32) (a1 : Int32) (ls : List (Option PV)) (z : Nat → Int32) (f : Nat → FA) (F : Nat) : xnG call 100 (F + 1) 72 ls [vI a1, vI a0, vR 35] (LW W z f) = cbd (call 101 [vR 35, vI a0, vI a1] (LW W z f)) (fun r L' => xnG call 100 F 73 ls (r.toList ++ []) L') := pcY (ih := xnG call 100 F) (call := call) (a := 101) (b := 2) (v := 1) (t := 73) (x := 35) (ls := ls) (As := [vI a0, vI a1]) (st' := []) (L := LW W z f) rfl rfl rfl
set_option maxRecDepth 100000 in
theorem bh_c7_100_27 (call : QC FA) (x2 : Int32) (x3 : Int32) (L : QH FA) (F : Nat) : xnG call 100 (F + 1) 73 [some (vR 35), some (vR (wJ W 2 + 42)), some (vI x2), some (vI x3)] [] L = xnG call 100 F 74 [some (vR 35), some (vR (wJ W 2 + 42)), some (vI (x2 + 1)), some (vI x3)] [] L := rfl
set_option maxRecDepth 100000 in
theorem bh_c7_100_28 (call : QC FA) (x2 : Int32) (x3 : Int32) (L : QH FA) (F : Nat) : xnG call 100 (F + 1) 74 [some (vR 35), some (vR (wJ W 2 + 42)), some (vI x2), some (vI x3)] [] L = xnG call 100 F 7 [some (vR 35), some (vR (wJ W 2 + 42)), some (vI x2), some (vI x3)] [] L := rfl
set_option maxRecDepth 100000 in
theorem bh_c7_100_29 (call : QC FA) (x2 : Int32) (x3 : Int32) (z : Nat → Int32) (f : Nat → FA) (F : Nat) : xnG call 100 (F + 5) 51 [some (vR 35), some (vR (wJ W 2 + 42)), some (vI x2), some (vI x3)] [] (LW W z f) = xnG call 100 F 56 [some (vR 35), some (vR (wJ W 2 + 42)), some (vI x2), some (vI x3)] [vI 3, vI x2, vR (wJ W 2 + 42), vR 32] (LW W z f) := rfl
set_option maxRecDepth 100000 in
theorem bh_c7_100_30 (hW : WTX W) (hk : 2 < 4) (call : QC FA) (a0 : Int32) (a1 : Int32) (ls : List (Option PV)) (z : Nat → Int32) (f : Nat → FA) (F : Nat) : xnG call 100 (F + 1) 56 ls [vI a1, vI a0, vR (wJ W 2 + 42), vR 32] (LW W z f) = cbd (call 18 [vR (wJ W 2 + 42), vI a0, vI a1] (LW W z f)) (fun r L' => xnG call 100 F 57 ls (r.toList ++ [vR 32]) L') := pcY (ih := xnG call 100 F) (call := call) (a := 18) (b := 2) (v := 8) (t := 57) (x := wJ W 2 + 42) (ls := ls) (As := [vI a0, vI a1]) (st' := [vR 32]) (L := LW W z f) rfl (gj_t hW hk) rfl
set_option maxRecDepth 100000 in
theorem bh_c7_100_31 (call : QC FA) (y : Int32) (ls : List (Option PV)) (z : Nat → Int32) (f : Nat → FA) (F : Nat) : xnG call 100 (F + 1) 57 ls [vI y, vR 32] (LW W z f) = xnG call 100 F 58 ls [] (LW W (uZ z 323 y) f) := rfl
set_option maxRecDepth 100000 in
theorem bh_c7_100_32 (call : QC FA) (x2 : Int32) (x3 : Int32) (L : QH FA) (F : Nat) : xnG call 100 (F + 1) 58 [some (vR 35), some (vR (wJ W 2 + 42)), some (vI x2), some (vI x3)] [] L = xnG call 100 F 73 [some (vR 35), some (vR (wJ W 2 + 42)), some (vI x2), some (vI x3)] [] L := rfl
set_option maxRecDepth 100000 in
theorem bh_c7_100_33 (call : QC FA) (x2 : Int32) (x3 : Int32) (z : Nat → Int32) (f : Nat → FA) (F : Nat) : xnG call 100 (F + 5) 35 [some (vR 35), some (vR (wJ W 2 + 42)), some (vI x2), some (vI x3)] [] (LW W z f) = xnG call 100 F 40 [some (vR 35), some (vR (wJ W 2 + 42)), some (vI x2), some (vI x3)] [vI 3, vI x2, vR (wJ W 2 + 42), vR 32] (LW W z f) := rfl
set_option maxRecDepth 100000 in
theorem bh_c7_100_34 (hW : WTX W) (hk : 2 < 4) (call : QC FA) (a0 : Int32) (a1 : Int32) (ls : List (Option PV)) (z : Nat → Int32) (f : Nat → FA) (F : Nat) : xnG call 100 (F + 1) 40 ls [vI a1, vI a0, vR (wJ W 2 + 42), vR 32] (LW W z f) = cbd (call 18 [vR (wJ W 2 + 42), vI a0, vI a1] (LW W z f)) (fun r L' => xnG call 100 F 41 ls (r.toList ++ [vR 32]) L') := pcY (ih := xnG call 100 F) (call := call) (a := 18) (b := 2) (v := 8) (t := 41) (x := wJ W 2 + 42) (ls := ls) (As := [vI a0, vI a1]) (st' := [vR 32]) (L := LW W z f) rfl (gj_t hW hk) rfl
set_option maxRecDepth 100000 in
theorem bh_c7_100_35 (call : QC FA) (x2 : Int32) (x3 : Int32) (s0 : Int32) (L : QH FA) (F : Nat) : xnG call 100 (F + 4) 41 [some (vR 35), some (vR (wJ W 2 + 42)), some (vI x2), some (vI x3)] [vI s0, vR 32] L = xnG call 100 F 45 [some (vR 35), some (vR (wJ W 2 + 42)), some (vI x2), some (vI x3)] [vI 4, vI x2, vR (wJ W 2 + 42), vI 1, vI s0, vR 32] L := rfl
set_option maxRecDepth 100000 in
theorem bh_c7_100_36 (hW : WTX W) (hk : 2 < 4) (call : QC FA) (a0 : Int32) (a1 : Int32) (s0 : Int32) (s1 : Int32) (ls : List (Option PV)) (z : Nat → Int32) (f : Nat → FA) (F : Nat) : xnG call 100 (F + 1) 45 ls [vI a1, vI a0, vR (wJ W 2 + 42), vI s0, vI s1, vR 32] (LW W z f) = cbd (call 18 [vR (wJ W 2 + 42), vI a0, vI a1] (LW W z f)) (fun r L' => xnG call 100 F 46 ls (r.toList ++ [vI s0, vI s1, vR 32]) L') := pcY (ih := xnG call 100 F) (call := call) (a := 18) (b := 2) (v := 8) (t := 46) (x := wJ W 2 + 42) (ls := ls) (As := [vI a0, vI a1]) (st' := [vI s0, vI s1, vR 32]) (L := LW W z f) rfl (gj_t hW hk) rfl
set_option maxRecDepth 100000 in
theorem bh_c7_100_37 (call : QC FA) (a0 : Int32) (a1 : Int32) (a2 : Int32) (ls : List (Option PV)) (z : Nat → Int32) (f : Nat → FA) (F : Nat) : xnG call 100 (F + 1) 46 ls [vI a2, vI a1, vI a0, vR 32] (LW W z f) = cbd (call 87 [vR 32, vI a0, vI a1, vI a2] (LW W z f)) (fun r L' => xnG call 100 F 47 ls (r.toList ++ []) L') := pcY (ih := xnG call 100 F) (call := call) (a := 87) (b := 3) (v := 0) (t := 47) (x := 32) (ls := ls) (As := [vI a0, vI a1, vI a2]) (st' := []) (L := LW W z f) rfl rfl rfl
set_option maxRecDepth 100000 in
theorem bh_c7_100_38 (call : QC FA) (x2 : Int32) (x3 : Int32) (L : QH FA) (F : Nat) : xnG call 100 (F + 1) 47 [some (vR 35), some (vR (wJ W 2 + 42)), some (vI x2), some (vI x3)] [] L = xnG call 100 F 73 [some (vR 35), some (vR (wJ W 2 + 42)), some (vI x2), some (vI x3)] [] L := rfl
theorem vch_c7_100_7 (hW : WTX W) (call : QC FA) (x2 : Int32) (o3 : Option PV) (z : Nat → Int32) (f : Nat → FA) (res : Option PV × QH FA) (H : ((I (wn W 2) ≤ I x2 → res = (none, LW W z f)) ∧ (I x2 < I (wn W 2) → (∃ (r1 : Int32) (z1 : Nat → Int32) (f1 : Nat → FA), call 18 [vR (wJ W 2 + 42), vI x2, vI 0] (LW W z f) = some (some (vI r1), LW W z1 f1) ∧ ((¬ r1 = z1 325 → XC call (mP 100) 7 [some (vR 35), some (vR (wJ W 2 + 42)), some (vI (x2 + 1)), o3] [] (LW W z1 f1) res) ∧ (r1 = z1 325 → (∃ (r2 : Int32) (z2 : Nat → Int32) (f2 : Nat → FA), call 18 [vR (wJ W 2 + 42), vI x2, vI 2] (LW W z1 f1) = some (some (vI r2), LW W z2 f2) ∧ ((¬ r2 = z2 324 → XC call (mP 100) 7 [some (vR 35), some (vR (wJ W 2 + 42)), some (vI (x2 + 1)), o3] [] (LW W z2 f2) res) ∧ (r2 = z2 324 → (∃ (r3 : Int32) (z3 : Nat → Int32) (f3 : Nat → FA), call 18 [vR (wJ W 2 + 42), vI x2, vI 1] (LW W z2 f2) = some (some (vI r3), LW W z3 f3) ∧ ((¬ r3 = 303 → ((¬ r3 = 307 → (∃ (r4 : Int32) (z4 : Nat → Int32) (f4 : Nat → FA), call 18 [vR (wJ W 2 + 42), vI x2, vI 4] (LW W z3 f3) = some (some (vI r4), LW W z4 f4) ∧ (∃ (r5 : Int32) (z5 : Nat → Int32) (f5 : Nat → FA), call 18 [vR (wJ W 2 + 42), vI x2, vI 3] (LW W z4 f4) = some (some (vI r5), LW W z5 f5) ∧ (∃ (z6 : Nat → Int32) (f6 : Nat → FA), call 101 [vR 35, vI ((r4 * 12) + r5), vI 3] (LW W z5 f5) = some (none, LW W z6 f6) ∧ XC call (mP 100) 7 [some (vR 35), some (vR (wJ W 2 + 42)), some (vI (x2 + 1)), some (vI r3)] [] (LW W z6 f6) res)))) ∧ (r3 = 307 → (∃ (r7 : Int32) (z7 : Nat → Int32) (f7 : Nat → FA), call 18 [vR (wJ W 2 + 42), vI x2, vI 3] (LW W z3 f3) = some (some (vI r7), LW W z7 f7) ∧ XC call (mP 100) 7 [some (vR 35), some (vR (wJ W 2 + 42)), some (vI (x2 + 1)), some (vI r3)] [] (LW W (uZ z7 323 r7) f7) res)))) ∧ (r3 = 303 → (∃ (r8 : Int32) (z8 : Nat → Int32) (f8 : Nat → FA), call 18 [vR (wJ W 2 + 42), vI x2, vI 3] (LW W z3 f3) = some (some (vI r8), LW W z8 f8) ∧ (∃ (r9 : Int32) (z9 : Nat → Int32) (f9 : Nat → FA), call 18 [vR (wJ W 2 + 42), vI x2, vI 4] (LW W z8 f8) = some (some (vI r9), LW W z9 f9) ∧ (∃ (z10 : Nat → Int32) (f10 : Nat → FA), call 87 [vR 32, vI r8, vI 1, vI r9] (LW W z9 f9) = some (none, LW W z10 f10) ∧ XC call (mP 100) 7 [some (vR 35), some (vR (wJ W 2 + 42)), some (vI (x2 + 1)), some (vI r3)] [] (LW W z10 f10) res))))))))))))))) : XC call (mP 100) 7 [some (vR 35), some (vR (wJ W 2 + 42)), some (vI x2), o3] [] (LW W z f) res := by
  refine xc_b (i' := 9) (ls' := [some (vR 35), some (vR (wJ W 2 + 42)), some (vI x2), o3]) (st' := [vR (wJ W 2 + 42), vI x2]) (L' := LW W z f) 2 (bh_c7_100_1 call x2 o3 _) ?_
  refine xc_b (i' := 10) (ls' := [some (vR 35), some (vR (wJ W 2 + 42)), some (vI x2), o3]) (st' := [vI (wn W 2), vI x2]) (L' := LW W z f) 1 (bh_c7_100_2 hW (by decide) call x2 _ z f) ?_
  refine xc_if (it := 75) (ie := 11) (ls' := [some (vR 35), some (vR (wJ W 2 + 42)), some (vI x2), o3]) (st' := []) (bh_c7_100_3 call x2 (wn W 2) _ _) (fun q1 => ?_) (fun q1 => ?_)
  · have H := H.1 (cI3t q1 rfl rfl)
    subst H
    exact xc_ret (bh_c7_100_4 call _ _)
  · have H := H.2 (cI3f q1 rfl rfl)
    refine xc_b (i' := 14) (ls' := [some (vR 35), some (vR (wJ W 2 + 42)), some (vI x2), o3]) (st' := [vI 0, vI x2, vR (wJ W 2 + 42)]) (L' := LW W z f) 3 (bh_c7_100_5 call x2 o3 _) ?_
    obtain ⟨r1, z1, f1, hc, H⟩ := H
    refine xc_call (t := 15) (ls' := [some (vR 35), some (vR (wJ W 2 + 42)), some (vI x2), o3]) (st' := []) (bh_c7_100_6 hW (by decide) call x2 0 _ z f) hc ?_
    show XC call (mP 100) 15 [some (vR 35), some (vR (wJ W 2 + 42)), some (vI x2), o3] [vI r1] (LW W z1 f1) res
    refine xc_b (i' := 18) (ls' := [some (vR 35), some (vR (wJ W 2 + 42)), some (vI x2), o3]) (st' := [vI (z1 325), vI r1]) (L' := LW W z1 f1) 3 (bh_c7_100_7 call x2 o3 r1 z1 f1) ?_
    refine xc_if (it := 73) (ie := 19) (ls' := [some (vR 35), some (vR (wJ W 2 + 42)), some (vI x2), o3]) (st' := []) (bh_c7_100_8 call r1 (z1 325) _ _) (fun q2 => ?_) (fun q2 => ?_)
    · have H := H.1 (cI1t q2)
      refine xc_b (i' := 74) (ls' := [some (vR 35), some (vR (wJ W 2 + 42)), some (vI (x2 + 1)), o3]) (st' := []) (L' := LW W z1 f1) 1 (bh_c7_100_9 call x2 o3 _) ?_
      refine xc_b (i' := 7) (ls' := [some (vR 35), some (vR (wJ W 2 + 42)), some (vI (x2 + 1)), o3]) (st' := []) (L' := LW W z1 f1) 1 (bh_c7_100_10 call (x2 + 1) o3 _) ?_
      exact H
    · have H := H.2 (cI1f q2)
      refine xc_b (i' := 22) (ls' := [some (vR 35), some (vR (wJ W 2 + 42)), some (vI x2), o3]) (st' := [vI 2, vI x2, vR (wJ W 2 + 42)]) (L' := LW W z1 f1) 3 (bh_c7_100_11 call x2 o3 _) ?_
      obtain ⟨r2, z2, f2, hc, H⟩ := H
      refine xc_call (t := 23) (ls' := [some (vR 35), some (vR (wJ W 2 + 42)), some (vI x2), o3]) (st' := []) (bh_c7_100_12 hW (by decide) call x2 2 _ z1 f1) hc ?_
      show XC call (mP 100) 23 [some (vR 35), some (vR (wJ W 2 + 42)), some (vI x2), o3] [vI r2] (LW W z2 f2) res
      refine xc_b (i' := 26) (ls' := [some (vR 35), some (vR (wJ W 2 + 42)), some (vI x2), o3]) (st' := [vI (z2 324), vI r2]) (L' := LW W z2 f2) 3 (bh_c7_100_13 call x2 o3 r2 z2 f2) ?_
      refine xc_if (it := 73) (ie := 27) (ls' := [some (vR 35), some (vR (wJ W 2 + 42)), some (vI x2), o3]) (st' := []) (bh_c7_100_14 call r2 (z2 324) _ _) (fun q3 => ?_) (fun q3 => ?_)
      · have H := H.1 (cI1t q3)
        refine xc_b (i' := 74) (ls' := [some (vR 35), some (vR (wJ W 2 + 42)), some (vI (x2 + 1)), o3]) (st' := []) (L' := LW W z2 f2) 1 (bh_c7_100_9 call x2 o3 _) ?_
        refine xc_b (i' := 7) (ls' := [some (vR 35), some (vR (wJ W 2 + 42)), some (vI (x2 + 1)), o3]) (st' := []) (L' := LW W z2 f2) 1 (bh_c7_100_10 call (x2 + 1) o3 _) ?_
        exact H
      · have H := H.2 (cI1f q3)
        refine xc_b (i' := 30) (ls' := [some (vR 35), some (vR (wJ W 2 + 42)), some (vI x2), o3]) (st' := [vI 1, vI x2, vR (wJ W 2 + 42)]) (L' := LW W z2 f2) 3 (bh_c7_100_15 call x2 o3 _) ?_
        obtain ⟨r3, z3, f3, hc, H⟩ := H
        refine xc_call (t := 31) (ls' := [some (vR 35), some (vR (wJ W 2 + 42)), some (vI x2), o3]) (st' := []) (bh_c7_100_16 hW (by decide) call x2 1 _ z2 f2) hc ?_
        show XC call (mP 100) 31 [some (vR 35), some (vR (wJ W 2 + 42)), some (vI x2), o3] [vI r3] (LW W z3 f3) res
        refine xc_b (i' := 34) (ls' := [some (vR 35), some (vR (wJ W 2 + 42)), some (vI x2), some (vI r3)]) (st' := [vI 303, vI r3]) (L' := LW W z3 f3) 3 (bh_c7_100_17 call x2 o3 r3 _) ?_
        refine xc_if (it := 48) (ie := 35) (ls' := [some (vR 35), some (vR (wJ W 2 + 42)), some (vI x2), some (vI r3)]) (st' := []) (bh_c7_100_18 call r3 303 _ _) (fun q4 => ?_) (fun q4 => ?_)
        · have H := H.1 (cI1t q4)
          refine xc_b (i' := 50) (ls' := [some (vR 35), some (vR (wJ W 2 + 42)), some (vI x2), some (vI r3)]) (st' := [vI 307, vI r3]) (L' := LW W z3 f3) 2 (bh_c7_100_19 call x2 r3 _) ?_
          refine xc_if (it := 59) (ie := 51) (ls' := [some (vR 35), some (vR (wJ W 2 + 42)), some (vI x2), some (vI r3)]) (st' := []) (bh_c7_100_20 call r3 307 _ _) (fun q5 => ?_) (fun q5 => ?_)
          · have H := H.1 (cI1t q5)
            refine xc_b (i' := 63) (ls' := [some (vR 35), some (vR (wJ W 2 + 42)), some (vI x2), some (vI r3)]) (st' := [vI 4, vI x2, vR (wJ W 2 + 42), vR 35]) (L' := LW W z3 f3) 4 (bh_c7_100_21 call x2 r3 _) ?_
            obtain ⟨r4, z4, f4, hc, H⟩ := H
            refine xc_call (t := 64) (ls' := [some (vR 35), some (vR (wJ W 2 + 42)), some (vI x2), some (vI r3)]) (st' := [vR 35]) (bh_c7_100_22 hW (by decide) call x2 4 _ z3 f3) hc ?_
            show XC call (mP 100) 64 [some (vR 35), some (vR (wJ W 2 + 42)), some (vI x2), some (vI r3)] [vI r4, vR 35] (LW W z4 f4) res
            refine xc_b (i' := 69) (ls' := [some (vR 35), some (vR (wJ W 2 + 42)), some (vI x2), some (vI r3)]) (st' := [vI 3, vI x2, vR (wJ W 2 + 42), vI (r4 * 12), vR 35]) (L' := LW W z4 f4) 5 (bh_c7_100_23 call x2 r3 r4 _) ?_
            obtain ⟨r5, z5, f5, hc, H⟩ := H
            refine xc_call (t := 70) (ls' := [some (vR 35), some (vR (wJ W 2 + 42)), some (vI x2), some (vI r3)]) (st' := [vI (r4 * 12), vR 35]) (bh_c7_100_24 hW (by decide) call x2 3 (r4 * 12) _ z4 f4) hc ?_
            show XC call (mP 100) 70 [some (vR 35), some (vR (wJ W 2 + 42)), some (vI x2), some (vI r3)] [vI r5, vI (r4 * 12), vR 35] (LW W z5 f5) res
            refine xc_b (i' := 72) (ls' := [some (vR 35), some (vR (wJ W 2 + 42)), some (vI x2), some (vI r3)]) (st' := [vI 3, vI ((r4 * 12) + r5), vR 35]) (L' := LW W z5 f5) 2 (bh_c7_100_25 call x2 r3 r5 (r4 * 12) _) ?_
            obtain ⟨z6, f6, hc, H⟩ := H
            refine xc_call (t := 73) (ls' := [some (vR 35), some (vR (wJ W 2 + 42)), some (vI x2), some (vI r3)]) (st' := []) (bh_c7_100_26 call ((r4 * 12) + r5) 3 _ z5 f5) hc ?_
            show XC call (mP 100) 73 [some (vR 35), some (vR (wJ W 2 + 42)), some (vI x2), some (vI r3)] [] (LW W z6 f6) res
            refine xc_b (i' := 74) (ls' := [some (vR 35), some (vR (wJ W 2 + 42)), some (vI (x2 + 1)), some (vI r3)]) (st' := []) (L' := LW W z6 f6) 1 (bh_c7_100_27 call x2 r3 _) ?_
            refine xc_b (i' := 7) (ls' := [some (vR 35), some (vR (wJ W 2 + 42)), some (vI (x2 + 1)), some (vI r3)]) (st' := []) (L' := LW W z6 f6) 1 (bh_c7_100_28 call (x2 + 1) r3 _) ?_
            exact H
          · have H := H.2 (cI1f q5)
            refine xc_b (i' := 56) (ls' := [some (vR 35), some (vR (wJ W 2 + 42)), some (vI x2), some (vI r3)]) (st' := [vI 3, vI x2, vR (wJ W 2 + 42), vR 32]) (L' := LW W z3 f3) 5 (bh_c7_100_29 call x2 r3 z3 f3) ?_
            obtain ⟨r7, z7, f7, hc, H⟩ := H
            refine xc_call (t := 57) (ls' := [some (vR 35), some (vR (wJ W 2 + 42)), some (vI x2), some (vI r3)]) (st' := [vR 32]) (bh_c7_100_30 hW (by decide) call x2 3 _ z3 f3) hc ?_
            show XC call (mP 100) 57 [some (vR 35), some (vR (wJ W 2 + 42)), some (vI x2), some (vI r3)] [vI r7, vR 32] (LW W z7 f7) res
            refine xc_b (i' := 58) (ls' := [some (vR 35), some (vR (wJ W 2 + 42)), some (vI x2), some (vI r3)]) (st' := []) (L' := LW W (uZ z7 323 r7) f7) 1 (bh_c7_100_31 call r7 _ z7 f7) ?_
            refine xc_b (i' := 73) (ls' := [some (vR 35), some (vR (wJ W 2 + 42)), some (vI x2), some (vI r3)]) (st' := []) (L' := LW W (uZ z7 323 r7) f7) 1 (bh_c7_100_32 call x2 r3 _) ?_
            refine xc_b (i' := 74) (ls' := [some (vR 35), some (vR (wJ W 2 + 42)), some (vI (x2 + 1)), some (vI r3)]) (st' := []) (L' := LW W (uZ z7 323 r7) f7) 1 (bh_c7_100_27 call x2 r3 _) ?_
            refine xc_b (i' := 7) (ls' := [some (vR 35), some (vR (wJ W 2 + 42)), some (vI (x2 + 1)), some (vI r3)]) (st' := []) (L' := LW W (uZ z7 323 r7) f7) 1 (bh_c7_100_28 call (x2 + 1) r3 _) ?_
            exact H
        · have H := H.2 (cI1f q4)
          refine xc_b (i' := 40) (ls' := [some (vR 35), some (vR (wJ W 2 + 42)), some (vI x2), some (vI r3)]) (st' := [vI 3, vI x2, vR (wJ W 2 + 42), vR 32]) (L' := LW W z3 f3) 5 (bh_c7_100_33 call x2 r3 z3 f3) ?_
          obtain ⟨r8, z8, f8, hc, H⟩ := H
          refine xc_call (t := 41) (ls' := [some (vR 35), some (vR (wJ W 2 + 42)), some (vI x2), some (vI r3)]) (st' := [vR 32]) (bh_c7_100_34 hW (by decide) call x2 3 _ z3 f3) hc ?_
          show XC call (mP 100) 41 [some (vR 35), some (vR (wJ W 2 + 42)), some (vI x2), some (vI r3)] [vI r8, vR 32] (LW W z8 f8) res
          refine xc_b (i' := 45) (ls' := [some (vR 35), some (vR (wJ W 2 + 42)), some (vI x2), some (vI r3)]) (st' := [vI 4, vI x2, vR (wJ W 2 + 42), vI 1, vI r8, vR 32]) (L' := LW W z8 f8) 4 (bh_c7_100_35 call x2 r3 r8 _) ?_
          obtain ⟨r9, z9, f9, hc, H⟩ := H
          refine xc_call (t := 46) (ls' := [some (vR 35), some (vR (wJ W 2 + 42)), some (vI x2), some (vI r3)]) (st' := [vI 1, vI r8, vR 32]) (bh_c7_100_36 hW (by decide) call x2 4 1 r8 _ z8 f8) hc ?_
          show XC call (mP 100) 46 [some (vR 35), some (vR (wJ W 2 + 42)), some (vI x2), some (vI r3)] [vI r9, vI 1, vI r8, vR 32] (LW W z9 f9) res
          obtain ⟨z10, f10, hc, H⟩ := H
          refine xc_call (t := 47) (ls' := [some (vR 35), some (vR (wJ W 2 + 42)), some (vI x2), some (vI r3)]) (st' := []) (bh_c7_100_37 call r8 1 r9 _ z9 f9) hc ?_
          show XC call (mP 100) 47 [some (vR 35), some (vR (wJ W 2 + 42)), some (vI x2), some (vI r3)] [] (LW W z10 f10) res
          refine xc_b (i' := 73) (ls' := [some (vR 35), some (vR (wJ W 2 + 42)), some (vI x2), some (vI r3)]) (st' := []) (L' := LW W z10 f10) 1 (bh_c7_100_38 call x2 r3 _) ?_
          refine xc_b (i' := 74) (ls' := [some (vR 35), some (vR (wJ W 2 + 42)), some (vI (x2 + 1)), some (vI r3)]) (st' := []) (L' := LW W z10 f10) 1 (bh_c7_100_27 call x2 r3 _) ?_
          refine xc_b (i' := 7) (ls' := [some (vR 35), some (vR (wJ W 2 + 42)), some (vI (x2 + 1)), some (vI r3)]) (st' := []) (L' := LW W z10 f10) 1 (bh_c7_100_28 call (x2 + 1) r3 _) ?_
          exact H
/-- putty: a mark is lifted, where there is one -/
theorem simLifth (d d' : Nat) {nv i : Nat} (hi : i < 144) {z zr : Nat → Int32} {f r : Nat → FA} (h : RLh nv z f zr r) : ∃ z' f' r', xcall (d + 3) 101 [vR 35, vI (nI i), vI 3] (LW W z f) = some (none, LW W z' f') ∧ mcall (d' + 2) 223 [vR 0, vI (nI i)] (LR zr r) = some (none, LR zr r') ∧ RLh nv z' f' zr r' ∧ FRh z f r z' f' r' := by
  have hmm := h.1.2.2.2.1
  have hn := h.1.1
  have c2 := mIs d' hi (z := zr) (f := r)
  have e67 : (67 : Int32) + nI i = nI (67 + i) := nI_add 67 i
  by_cases cm : f 34 i = 0
  · have cm' : ¬ 0 < I (r 1 (67 + i)) := fun q => ((hmm i hi).iff hn).mpr q cm
    rw [mk1_f cm'] at c2
    exact ⟨z, f, r, wTake0h d 3 hi cm, mcall_i (mq223 (cu := [])).2.2 rfl (vc223_0 d' (nI i) zr r _ ⟨_, _, _, c2, fun q => absurd rfl q, fun _ => rfl⟩), h, FRh.rfl⟩
  · have cm' : 0 < I (r 1 (67 + i)) := ((hmm i hi).iff hn).mp cm
    rw [mk1_t cm'] at c2
    obtain ⟨z', f', r', t1, t2, t3, t4, -⟩ := simTakeh (W := W) d d' 3 hi h cm
    obtain ⟨r1, t5, t6⟩ := t2 r (fun _ _ => rfl) (fun _ _ => rfl)
    refine ⟨z', f', r', t1, mcall_i (mq223 (cu := [])).2.2 rfl (vc223_0 d' (nI i) zr r _ ⟨_, _, _, c2, fun _ => ⟨by rw [e67]; exact pin_nI (by omega) (by omega), _, _, ?_, _, _, t6, rfl⟩, fun q => absurd q (by decide)⟩), t3, t4⟩
    rw [e67, ix_nI (j := 67 + i) (by omega)]
    exact t5
/-- the sky of an hour -/
theorem simSkyh (hW : WTX W) (d d' : Nat) {nv ns : Nat} {zr : Nat → Int32} : ∀ {z : Nat → Int32} {f r : Nat → FA}, RLh nv z f zr r → SKR W nv ns zr (r 19) → ∃ z' f' r', xcall (d + 5) 100 [vR 35] (LW W z f) = some (none, LW W z' f') ∧ (∀ res, RC (mcall (d' + 6)) (mP 214) 40 [some (vR 0), some (vI 0), some (vI 0)] [] (LR zr r') res → ∀ o2, RC (mcall (d' + 6)) (mP 214) 2 [some (vR 0), some (vI (nI 0)), o2] [] (LR zr r) res) ∧ RLh nv z' f' zr r' ∧ FRh z f r z' f' r' := by
  have lp : ∀ t i, i + t = ns → ∀ (z : Nat → Int32) (f r : Nat → FA), RLh nv z f zr r → SKR W nv ns zr (r 19) → ∃ z' f' r', (∀ o3, XC (xcall (d + 4)) (mP 100) 7 [some (vR 35), some (vR (wJ W 2 + 42)), some (vI (nI i)), o3] [] (LW W z f) (none, LW W z' f')) ∧ (∀ res, RC (mcall (d' + 6)) (mP 214) 40 [some (vR 0), some (vI 0), some (vI 0)] [] (LR zr r') res → ∀ o2, RC (mcall (d' + 6)) (mP 214) 2 [some (vR 0), some (vI (nI (5 * i))), o2] [] (LR zr r) res) ∧ RLh nv z' f' zr r' ∧ FRh z f r z' f' r' := by
    intro t
    induction t with
    | zero =>
      intro i hi z f r h hS
      obtain rfl : i = ns := by omega
      obtain ⟨s1, s2, s3, s4, -⟩ := hS
      refine ⟨z, f, r, fun o3 => vch_c7_100_7 hW _ _ _ _ _ _ ⟨fun _ => rfl, fun q => ?_⟩, fun res q o2 => vcc2_214_2 d' _ _ _ _ _ ⟨fun _ => q, fun q2 => ?_⟩, h, FRh.rfl⟩
      · rw [s2] at q
        exact absurd q (Int.lt_irrefl _)
      · rw [s4, show (5 : Int32) = nI 5 from rfl, mul_nI] at q2
        exact absurd q2 (Int.lt_irrefl _)
    | succ t ih =>
      intro i hi z f r h hS
      have hS0 := hS
      obtain ⟨s1, s2, s3, s4, s5⟩ := hS
      obtain ⟨l1, l2, l3⟩ := s5 i (by omega)
      have h0 := h
      obtain ⟨⟨hn, ⟨a1, a2, a3, a4, -⟩, -⟩, -⟩ := h0
      have z25 : z 325 = r 1 0 := a4
      have z24 : z 324 = r 1 1 := a3
      have num : ∀ (w : Nat) (z : Nat → Int32) (f : Nat → FA), w < 5 → xcall (d + 4) 18 [vR (wJ W 2 + 42), vI (nI i), vI (nI w)] (LW W z f) = some (some (vI (wg W 2 (5 * i + w))), LW W z f) := fun w z f hw => wNum hW (by decide) (d + 3) s2 s1 s3 (by omega) hw
      have ii : I (nI i) = i := I_nI (by omega)
      have iw : I (wn W 2) = ns := by rw [s2]; exact I_nI (by omega)
      have i5 : I (nI (5 * i)) = ((5 * i : Nat) : Int) := I_nI (by omega)
      have iz : I (5 * zr 36) = ((5 * ns : Nat) : Int) := by rw [s4, show (5 : Int32) = nI 5 from rfl, mul_nI]; exact I_nI (by omega)
      have e1 : nI i + 1 = nI (i + 1) := nI_add i 1
      have e5 : nI (5 * i) + 5 = nI (5 * (i + 1)) := by rw [show nI (5 * i) + 5 = nI (5 * i + 5) from nI_add _ 5, show 5 * (i + 1) = 5 * i + 5 by omega]
      have f1 : nI (5 * i) + 1 = nI (5 * i + 1) := nI_add _ 1
      have f2 : nI (5 * i) + 2 = nI (5 * i + 2) := nI_add _ 2
      have f3 : nI (5 * i) + 3 = nI (5 * i + 3) := nI_add _ 3
      have f4 : nI (5 * i) + 4 = nI (5 * i + 4) := nI_add _ 4
      have p : ∀ w, w < 5 → pin (nI (5 * i + w)) 160 = true := fun w hw => pin_nI (by omega) (by omega)
      have x : ∀ w, w < 5 → ix (nI (5 * i + w)) = 5 * i + w := fun w hw => ix_nI (by omega)
      have x0 : ix 0 = 0 := by decide
      have x1 : ix 1 = 1 := by decide
      have p0 : pin (nI (5 * i)) 160 = true := p 0 (by omega)
      have xx0 : ix (nI (5 * i)) = 5 * i := x 0 (by omega)
      have n0 := num 0 z f (by omega)
      have n2 := num 2 z f (by omega)
      have n1 := num 1 z f (by omega)
      rw [show 5 * i + 0 = 5 * i from rfl, l1] at n0
      rw [l2] at n2
      by_cases cd : r 19 (5 * i) = r 1 0 ∧ r 19 (5 * i + 1) = r 1 1
      · obtain ⟨cd1, cd2⟩ := cd
        -- the reference: once does is told
        have ref : ∀ r1 : Nat → FA, mcall (d' + 6) 202 [vR 0, vI (nI (5 * i))] (LR zr r) = some (none, LR zr r1) → ∀ res o2, RC (mcall (d' + 6)) (mP 214) 2 [some (vR 0), some (vI (nI (5 * (i + 1)))), o2] [] (LR zr r1) res → RC (mcall (d' + 6)) (mP 214) 2 [some (vR 0), some (vI (nI (5 * i))), o2] [] (LR zr r) res := fun r1 hd res o2 hq => vcc2_214_2 d' _ _ _ _ _ ⟨fun q => by omega, fun _ => ⟨p0, by decide, fun q => absurd (by rw [xx0, x0]; exact cd1) q, fun _ => ⟨by rw [f1]; exact p 1 (by omega), by decide, fun q => absurd (by rw [f1, x 1 (by omega), x1]; exact cd2) q, fun _ => ⟨_, _, hd, by rw [e5]; exact hq⟩⟩⟩⟩
        rcases l3 with ⟨k1, k2, k3⟩ | ⟨k1, k2, a, b, ha, hb, k3, k4, k5, k6⟩ | ⟨k1, k2, v, x', hv, hx, k3, k4, k5, k6⟩
        · -- heat
          rw [k1] at n1
          have n3 := num 3 z f (by omega)
          rw [k3] at n3
          have hR : RLh nv (uZ z 323 (r 19 (5 * i + 3))) f zr (uA r 1 (upd (r 1) 4 (r 19 (5 * i + 3)))) := ⟨cr_heath _ h.1, h.2⟩
          have hF : FRh z f r (uZ z 323 (r 19 (5 * i + 3))) f (uA r 1 (upd (r 1) 4 (r 19 (5 * i + 3)))) := ⟨fun j hj => uZ_n (by omega), fun _ _ => rfl, fun k hk => uA_ne (fun q => hk (by rw [q]; decide))⟩
          obtain ⟨z', f', r', q1, q2, q3, q4⟩ := ih (i + 1) (by omega) _ _ _ hR (by rw [uA_ne (show (19 : Nat) ≠ 1 by decide)]; exact hS0)
          have hd : mcall (d' + 6) 202 [vR 0, vI (nI (5 * i))] (LR zr r) = some (none, LR zr (uA r 1 (upd (r 1) 4 (r 19 (5 * i + 3))))) := by
            refine mcall_i (mq202 (cu := [])).2.2 rfl (vc202_0 (d' + 3) (nI (5 * i)) zr r _ ?_)
            rw [f2, f3, f4, x 2 (by omega), x 3 (by omega), x 4 (by omega), show ix 4 = 4 from by decide, k2]
            exact ⟨p 2 (by omega), fun q => absurd rfl q, fun _ => ⟨p 3 (by omega), by decide, p 2 (by omega), fun _ => ⟨p 2 (by omega), fun _ => rfl, fun q => absurd q (by decide)⟩, fun q => absurd q (by decide)⟩⟩
          refine ⟨z', f', r', fun o3 => vch_c7_100_7 hW _ _ _ _ _ _ ⟨fun q => by omega, fun _ => ⟨_, _, _, n0, fun q => absurd (by rw [cd1, z25]) q, fun _ => ⟨_, _, _, n2, fun q => absurd (by rw [cd2, z24]) q, fun _ => ⟨_, _, _, n1, fun _ => ⟨fun q => absurd rfl q, fun _ => ⟨_, _, _, n3, by rw [e1]; exact q1 _⟩⟩, fun q => absurd q (by decide)⟩⟩⟩⟩, fun res hq o2 => ref _ hd res o2 (q2 res hq o2), q3, FRh.trans hF q4⟩
        · -- putty
          rw [k1] at n1
          have n3 := num 3 z f (by omega)
          rw [k3] at n3
          have n4 := num 4 z f (by omega)
          rw [k5] at n4
          have ec : nI b * 12 + nI a = nI (12 * b + a) := by rw [show (12 : Int32) = nI 12 from rfl, mul_nI, nI_add, Nat.mul_comm]
          have er : 12 * nI b + nI a = nI (12 * b + a) := by rw [show (12 : Int32) = nI 12 from rfl, mul_nI, nI_add]
          obtain ⟨z1, f1', r1, t1, t2, t3, t4⟩ := simLifth (W := W) (d + 1) (d' + 3) (show 12 * b + a < 144 by omega) h
          have r19 : r1 19 = r 19 := t4.2.2 19 (by decide)
          obtain ⟨z', f', r', q1, q2, q3, q4⟩ := ih (i + 1) (by omega) _ _ _ t3 (by rw [r19]; exact hS0)
          have hd : mcall (d' + 6) 202 [vR 0, vI (nI (5 * i))] (LR zr r) = some (none, LR zr r1) := by
            refine mcall_i (mq202 (cu := [])).2.2 rfl (vc202_0 (d' + 3) (nI (5 * i)) zr r _ ?_)
            rw [f2, f3, f4, x 2 (by omega), x 3 (by omega), x 4 (by omega), k2, k4, k6, er]
            refine ⟨p 2 (by omega), fun _ => ⟨p 2 (by omega), fun q => absurd rfl q, fun _ => ⟨p 4 (by omega), p 3 (by omega), _, _, t2, p 2 (by omega), fun _ => rfl, fun q => ?_⟩⟩, fun q => absurd q (by decide)⟩
            rw [r19, k2] at q
            exact absurd q (by decide)
          refine ⟨z', f', r', fun o3 => vch_c7_100_7 hW _ _ _ _ _ _ ⟨fun q => by omega, fun _ => ⟨_, _, _, n0, fun q => absurd (by rw [cd1, z25]) q, fun _ => ⟨_, _, _, n2, fun q => absurd (by rw [cd2, z24]) q, fun _ => ⟨_, _, _, n1, fun _ => ⟨fun _ => ⟨_, _, _, n4, _, _, _, n3, _, _, by rw [ec]; exact t1, by rw [e1]; exact q1 _⟩, fun q => absurd q (by decide)⟩, fun q => absurd q (by decide)⟩⟩⟩⟩, fun res hq o2 => ref _ hd res o2 (q2 res hq o2), q3, FRh.trans t4 q4⟩
        · -- a mind
          rw [k1] at n1
          have n3 := num 3 z f (by omega)
          rw [k3] at n3
          have n4 := num 4 z f (by omega)
          rw [k5] at n4
          have zv : z 322 = nI nv := a1
          have st := wSetTh (W := W) (d + 2) x' (f := f) (w := 1) zv hn hv (by omega)
          rw [show 20 * 1 + v = 20 + v from rfl] at st
          have hR : RLh nv z (uA f 33 (upd (f 33) (20 + v) x')) zr (uA r 1 (upd (r 1) (7 + v) x')) := ⟨cr_mindh hv x' hx h.1, h.2⟩
          have hF : FRh z f r z (uA f 33 (upd (f 33) (20 + v) x')) (uA r 1 (upd (r 1) (7 + v) x')) := ⟨fun _ _ => rfl, fun k hk => uA_ne (fun q => hk (by rw [q]; decide)), fun k hk => uA_ne (fun q => hk (by rw [q]; decide))⟩
          obtain ⟨z', f', r', q1, q2, q3, q4⟩ := ih (i + 1) (by omega) _ _ _ hR (by rw [uA_ne (show (19 : Nat) ≠ 1 by decide)]; exact hS0)
          have e7 : (7 : Int32) + nI v = nI (7 + v) := nI_add 7 v
          have hd : mcall (d' + 6) 202 [vR 0, vI (nI (5 * i))] (LR zr r) = some (none, LR zr (uA r 1 (upd (r 1) (7 + v) x'))) := by
            refine mcall_i (mq202 (cu := [])).2.2 rfl (vc202_0 (d' + 3) (nI (5 * i)) zr r _ ?_)
            rw [f2, f3, f4, x 2 (by omega), x 3 (by omega), x 4 (by omega), k2, k4, k6, e7, ix_nI (j := 7 + v) (by omega)]
            exact ⟨p 2 (by omega), fun _ => ⟨p 2 (by omega), fun _ => ⟨p 2 (by omega), fun q => absurd rfl q, fun _ => ⟨p 3 (by omega), p 4 (by omega), pin_nI (by omega) (by omega), rfl⟩⟩, fun q => absurd q (by decide)⟩, fun q => absurd q (by decide)⟩
          refine ⟨z', f', r', fun o3 => vch_c7_100_7 hW _ _ _ _ _ _ ⟨fun q => by omega, fun _ => ⟨_, _, _, n0, fun q => absurd (by rw [cd1, z25]) q, fun _ => ⟨_, _, _, n2, fun q => absurd (by rw [cd2, z24]) q, fun _ => ⟨_, _, _, n1, fun q => absurd rfl q, fun _ => ⟨_, _, _, n3, _, _, _, n4, _, _, st, by rw [e1]; exact q1 _⟩⟩⟩⟩⟩, fun res hq o2 => ref _ hd res o2 (q2 res hq o2), q3, FRh.trans hF q4⟩
      · -- another hour
        obtain ⟨z', f', r', q1, q2, q3, q4⟩ := ih (i + 1) (by omega) z f r h hS0
        refine ⟨z', f', r', fun o3 => vch_c7_100_7 hW _ _ _ _ _ _ ⟨fun q => by omega, fun _ => ⟨_, _, _, n0, fun _ => by rw [e1]; exact q1 _, fun g1 => ⟨_, _, _, n2, fun _ => by rw [e1]; exact q1 _, fun g2 => absurd ⟨g1.trans z25, g2.trans z24⟩ cd⟩⟩⟩, fun res hq o2 => vcc2_214_2 d' _ _ _ _ _ ⟨fun q => by omega, fun _ => ⟨p0, by decide, fun _ => by rw [e5]; exact q2 res hq o2, fun g1 => ⟨by rw [f1]; exact p 1 (by omega), by decide, fun _ => by rw [e5]; exact q2 res hq o2, fun g2 => ?_⟩⟩⟩, q3, q4⟩
        rw [xx0, x0] at g1
        rw [f1, x 1 (by omega), x1] at g2
        exact absurd ⟨g1, g2⟩ cd
  intro z f r h hS
  obtain ⟨z', f', r', q1, q2, q3⟩ := lp ns 0 (by omega) z f r h hS
  exact ⟨z', f', r', xcall_i (mq100 (cu := [])).2.2 rfl (vch_100_0 hW (xcall (d + 4)) none none none z f _ (q1 none)), q2, q3⟩
end TWs
