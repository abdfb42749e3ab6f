/-! by how few it is turned: both sides -/
section TWs
variable {W : TXW}
set_option maxRecDepth 100000 in
theorem bt_2_1 (call : QC FA) (x1 : Int32) (o2 : Option PV) (o3 : Option PV) (z : Nat → Int32) (f : Nat → FA) (F : Nat) : xnG call 2 (F + 5) 0 [some (vR 11), some (vI x1), o2, o3] [] (LW W z f) = xnG call 2 F 5 [some (vR 11), some (vI x1), some (vI 0), some (vI (nI 100))] [] (LW W z f) := rfl
theorem vct_2_0 (call : QC FA) (x1 : Int32) (o2 : Option PV) (o3 : Option PV) (z : Nat → Int32) (f : Nat → FA) (res : Option PV × QH FA) (H : XC call (mP 2) 5 [some (vR 11), some (vI x1), some (vI 0), some (vI (nI 100))] [] (LW W z f) res) : XC call (mP 2) 0 [some (vR 11), some (vI x1), o2, o3] [] (LW W z f) res := by
  refine xc_b (i' := 5) (ls' := [some (vR 11), some (vI x1), some (vI 0), some (vI (nI 100))]) (st' := []) (L' := LW W z f) 5 (bt_2_1 call x1 o2 o3 z f) ?_
  exact H
set_option maxRecDepth 100000 in
theorem bt_c5_2_1 (call : QC FA) (x1 : Int32) (x2 : Int32) (x3 : Int32) (L : QH FA) (F : Nat) : xnG call 2 (F + 2) 5 [some (vR 11), some (vI x1), some (vI x2), some (vI x3)] [] L = xnG call 2 F 7 [some (vR 11), some (vI x1), some (vI x2), some (vI x3)] [vI x3, vI x2] L := rfl
set_option maxRecDepth 100000 in
theorem bt_c5_2_2 (call : QC FA) (x y : Int32) (ls : List (Option PV)) (L : QH FA) (F : Nat) : xnG call 2 (F + 1) 7 ls [vI y, vI x] L = bif pcmp 3 x y then xnG call 2 F 14 ls [] L else xnG call 2 F 8 ls [] L := rfl
set_option maxRecDepth 100000 in
theorem bt_c5_2_3 (call : QC FA) (ls : List (Option PV)) (L : QH FA) (F : Nat) : xnG call 2 (F + 1) 14 ls [] L = some (none, L) := rfl
set_option maxRecDepth 100000 in
theorem bt_c5_2_4 (call : QC FA) (x1 : Int32) (x2 : Int32) (x3 : Int32) (L : QH FA) (F : Nat) : xnG call 2 (F + 3) 8 [some (vR 11), some (vI x1), some (vI x2), some (vI x3)] [] L = xnG call 2 F 11 [some (vR 11), some (vI x1), some (vI x2), some (vI x3)] [vI x1, vI x2, vR 11] L := rfl
set_option maxRecDepth 100000 in
theorem bt_c5_2_5 (call : QC FA) (x y : Int32) (ls : List (Option PV)) (z : Nat → Int32) (f : Nat → FA) (F : Nat) : xnG call 2 (F + 1) 11 ls [vI y, vI x, vR 11] (LW W z f) = bif (Nat.beq 0 0 && pin x 100) then xnG call 2 F 12 ls [] (LW W z (uA f 11 (upd (f 11) (ix x) y))) else none := rfl
set_option maxRecDepth 100000 in
theorem bt_c5_2_6 (call : QC FA) (x1 : Int32) (x2 : Int32) (x3 : Int32) (L : QH FA) (F : Nat) : xnG call 2 (F + 1) 12 [some (vR 11), some (vI x1), some (vI x2), some (vI x3)] [] L = xnG call 2 F 13 [some (vR 11), some (vI x1), some (vI (x2 + 1)), some (vI x3)] [] L := rfl
set_option maxRecDepth 100000 in
theorem bt_c5_2_7 (call : QC FA) (x1 : Int32) (x2 : Int32) (x3 : Int32) (L : QH FA) (F : Nat) : xnG call 2 (F + 1) 13 [some (vR 11), some (vI x1), some (vI x2), some (vI x3)] [] L = xnG call 2 F 5 [some (vR 11), some (vI x1), some (vI x2), some (vI x3)] [] L := rfl
theorem vct_c5_2_5 (call : QC FA) (x1 : Int32) (x2 : Int32) (x3 : Int32) (z : Nat → Int32) (f : Nat → FA) (res : Option PV × QH FA) (H : ((I x3 ≤ I x2 → res = (none, LW W z f)) ∧ (I x2 < I x3 → (pin x2 100 = true ∧ XC call (mP 2) 5 [some (vR 11), some (vI x1), some (vI (x2 + 1)), some (vI x3)] [] (LW W z (uA f 11 (upd (f 11) (ix x2) x1))) res)))) : XC call (mP 2) 5 [some (vR 11), some (vI x1), some (vI x2), some (vI x3)] [] (LW W z f) res := by
  refine xc_b (i' := 7) (ls' := [some (vR 11), some (vI x1), some (vI x2), some (vI x3)]) (st' := [vI x3, vI x2]) (L' := LW W z f) 2 (bt_c5_2_1 call x1 x2 x3 _) ?_
  refine xc_if (it := 14) (ie := 8) (ls' := [some (vR 11), some (vI x1), some (vI x2), some (vI x3)]) (st' := []) (bt_c5_2_2 call x2 x3 _ _) (fun q1 => ?_) (fun q1 => ?_)
  · have H := H.1 (cI3t q1 rfl rfl)
    subst H
    exact xc_ret (bt_c5_2_3 call _ _)
  · have H := H.2 (cI3f q1 rfl rfl)
    refine xc_b (i' := 11) (ls' := [some (vR 11), some (vI x1), some (vI x2), some (vI x3)]) (st' := [vI x1, vI x2, vR 11]) (L' := LW W z f) 3 (bt_c5_2_4 call x1 x2 x3 _) ?_
    obtain ⟨g1, H⟩ := H
    refine xc_g (i' := 12) (ls' := [some (vR 11), some (vI x1), some (vI x2), some (vI x3)]) (st' := []) (L' := LW W z (uA f 11 (upd (f 11) (ix x2) x1))) (bt_c5_2_5 call x2 x1 _ z f) (pinG g1) ?_
    refine xc_b (i' := 13) (ls' := [some (vR 11), some (vI x1), some (vI (x2 + 1)), some (vI x3)]) (st' := []) (L' := LW W z (uA f 11 (upd (f 11) (ix x2) x1))) 1 (bt_c5_2_6 call x1 x2 x3 _) ?_
    refine xc_b (i' := 5) (ls' := [some (vR 11), some (vI x1), some (vI (x2 + 1)), some (vI x3)]) (st' := []) (L' := LW W z (uA f 11 (upd (f 11) (ix x2) x1))) 1 (bt_c5_2_7 call x1 (x2 + 1) x3 _) ?_
    exact H
set_option maxRecDepth 100000 in
theorem bt_23_1 (call : QC FA) (o1 : Option PV) (o2 : Option PV) (o3 : Option PV) (o4 : Option PV) (z : Nat → Int32) (f : Nat → FA) (F : Nat) : xnG call 23 (F + 3) 0 [some (vR 8), o1, o2, o3, o4] [] (LW W z f) = xnG call 23 F 3 [some (vR 8), o1, o2, o3, o4] [vI 0, vR 11] (LW W z f) := rfl
set_option maxRecDepth 100000 in
theorem bt_23_2 (call : QC FA) (a1 : Int32) (ls : List (Option PV)) (z : Nat → Int32) (f : Nat → FA) (F : Nat) : xnG call 23 (F + 1) 3 ls [vI a1, vR 11] (LW W z f) = cbd (call 2 [vR 11, vI a1] (LW W z f)) (fun r L' => xnG call 23 F 4 ls (r.toList ++ []) L') := pcZ (ih := xnG call 23 F) (call := call) (a := 2) (b := 2) (t := 4) (ls := ls) (As := [vR 11, vI a1]) (st' := []) (L := LW W z f) rfl rfl
set_option maxRecDepth 100000 in
theorem bt_23_3 (call : QC FA) (o1 : Option PV) (o2 : Option PV) (o3 : Option PV) (o4 : Option PV) (L : QH FA) (F : Nat) : xnG call 23 (F + 4) 4 [some (vR 8), o1, o2, o3, o4] [] L = xnG call 23 F 8 [some (vR 8), some (vI 0), some (vI 0), o3, o4] [] L := rfl
theorem vct_23_0 (call : QC FA) (o1 : Option PV) (o2 : Option PV) (o3 : Option PV) (o4 : Option PV) (z : Nat → Int32) (f : Nat → FA) (res : Option PV × QH FA) (H : (∃ (z1 : Nat → Int32) (f1 : Nat → FA), call 2 [vR 11, vI 0] (LW W z f) = some (none, LW W z1 f1) ∧ XC call (mP 23) 8 [some (vR 8), some (vI 0), some (vI 0), o3, o4] [] (LW W z1 f1) res)) : XC call (mP 23) 0 [some (vR 8), o1, o2, o3, o4] [] (LW W z f) res := by
  refine xc_b (i' := 3) (ls' := [some (vR 8), o1, o2, o3, o4]) (st' := [vI 0, vR 11]) (L' := LW W z f) 3 (bt_23_1 call o1 o2 o3 o4 z f) ?_
  obtain ⟨z1, f1, hc, H⟩ := H
  refine xc_call (t := 4) (ls' := [some (vR 8), o1, o2, o3, o4]) (st' := []) (bt_23_2 call 0 _ z f) hc ?_
  show XC call (mP 23) 4 [some (vR 8), o1, o2, o3, o4] [] (LW W z1 f1) res
  refine xc_b (i' := 8) (ls' := [some (vR 8), some (vI 0), some (vI 0), o3, o4]) (st' := []) (L' := LW W z1 f1) 4 (bt_23_3 call o1 o2 o3 o4 _) ?_
  exact H
set_option maxRecDepth 100000 in
theorem bt_c8_23_1 (call : QC FA) (x1 : Int32) (x2 : Int32) (o3 : Option PV) (o4 : Option PV) (L : QH FA) (F : Nat) : xnG call 23 (F + 2) 8 [some (vR 8), some (vI x1), some (vI x2), o3, o4] [] L = xnG call 23 F 10 [some (vR 8), some (vI x1), some (vI x2), o3, o4] [vI 144, vI x2] L := rfl
set_option maxRecDepth 100000 in
theorem bt_c8_23_2 (call : QC FA) (x y : Int32) (ls : List (Option PV)) (L : QH FA) (F : Nat) : xnG call 23 (F + 1) 10 ls [vI y, vI x] L = bif pcmp 3 x y then xnG call 23 F 51 ls [] L else xnG call 23 F 11 ls [] L := rfl
set_option maxRecDepth 100000 in
theorem bt_c8_23_3 (call : QC FA) (x1 : Int32) (x2 : Int32) (o3 : Option PV) (o4 : Option PV) (L : QH FA) (F : Nat) : xnG call 23 (F + 4) 51 [some (vR 8), some (vI x1), some (vI x2), o3, o4] [] L = xnG call 23 F 55 [some (vR 8), some (vI x1), some (vI 0), some (vI 99), o4] [] L := rfl
set_option maxRecDepth 100000 in
theorem bt_c8_23_4 (call : QC FA) (x1 : Int32) (x2 : Int32) (o3 : Option PV) (o4 : Option PV) (z : Nat → Int32) (f : Nat → FA) (F : Nat) : xnG call 23 (F + 3) 11 [some (vR 8), some (vI x1), some (vI x2), o3, o4] [] (LW W z f) = xnG call 23 F 14 [some (vR 8), some (vI x1), some (vI x2), o3, o4] [vI x2, vR 2] (LW W z f) := rfl
set_option maxRecDepth 100000 in
theorem bt_c8_23_5 (call : QC FA) (a0 : Int32) (ls : List (Option PV)) (z : Nat → Int32) (f : Nat → FA) (F : Nat) : xnG call 23 (F + 1) 14 ls [vI a0, vR 2] (LW W z f) = cbd (call 6 [vR 2, vI a0] (LW W z f)) (fun r L' => xnG call 23 F 15 ls (r.toList ++ []) L') := pcY (ih := xnG call 23 F) (call := call) (a := 6) (b := 1) (v := 0) (t := 15) (x := 2) (ls := ls) (As := [vI a0]) (st' := []) (L := LW W z f) rfl rfl rfl
set_option maxRecDepth 100000 in
theorem bt_c8_23_6 (call : QC FA) (x : Int32) (ls : List (Option PV)) (L : QH FA) (F : Nat) : xnG call 23 (F + 1) 15 ls [vI x] L = bif pcmp 0 x 0 then xnG call 23 F 49 ls [] L else xnG call 23 F 16 ls [] L := rfl
set_option maxRecDepth 100000 in
theorem bt_c8_23_7 (call : QC FA) (x1 : Int32) (x2 : Int32) (o3 : Option PV) (o4 : Option PV) (L : QH FA) (F : Nat) : xnG call 23 (F + 1) 49 [some (vR 8), some (vI x1), some (vI x2), o3, o4] [] L = xnG call 23 F 50 [some (vR 8), some (vI x1), some (vI (x2 + 1)), o3, o4] [] L := rfl
set_option maxRecDepth 100000 in
theorem bt_c8_23_8 (call : QC FA) (x1 : Int32) (x2 : Int32) (o3 : Option PV) (o4 : Option PV) (L : QH FA) (F : Nat) : xnG call 23 (F + 1) 50 [some (vR 8), some (vI x1), some (vI x2), o3, o4] [] L = xnG call 23 F 8 [some (vR 8), some (vI x1), some (vI x2), o3, o4] [] L := rfl
set_option maxRecDepth 100000 in
theorem bt_c8_23_9 (call : QC FA) (x1 : Int32) (x2 : Int32) (o3 : Option PV) (o4 : Option PV) (L : QH FA) (F : Nat) : xnG call 23 (F + 2) 16 [some (vR 8), some (vI x1), some (vI x2), o3, o4] [] L = xnG call 23 F 18 [some (vR 8), some (vI x1), some (vI x2), o3, o4] [vI x2, vR 8] L := rfl
set_option maxRecDepth 100000 in
theorem bt_c8_23_10 (call : QC FA) (a0 : Int32) (ls : List (Option PV)) (z : Nat → Int32) (f : Nat → FA) (F : Nat) : xnG call 23 (F + 1) 18 ls [vI a0, vR 8] (LW W z f) = cbd (call 10 [vR 8, vI a0] (LW W z f)) (fun r L' => xnG call 23 F 19 ls (r.toList ++ []) L') := pcY (ih := xnG call 23 F) (call := call) (a := 10) (b := 1) (v := 1) (t := 19) (x := 8) (ls := ls) (As := [vI a0]) (st' := []) (L := LW W z f) rfl rfl rfl
set_option maxRecDepth 100000 in
theorem bt_c8_23_11 (call : QC FA) (x1 : Int32) (x2 : Int32) (o3 : Option PV) (o4 : Option PV) (s0 : Int32) (z : Nat → Int32) (f : Nat → FA) (F : Nat) : xnG call 23 (F + 5) 19 [some (vR 8), some (vI x1), some (vI x2), o3, o4] [vI s0] (LW W z f) = xnG call 23 F 24 [some (vR 8), some (vI x1), some (vI x2), some (vI s0), o4] [vI x2, vR 2, vI x1] (LW W z f) := rfl
set_option maxRecDepth 100000 in
theorem bt_c8_23_12 (call : QC FA) (a0 : Int32) (s0 : Int32) (ls : List (Option PV)) (z : Nat → Int32) (f : Nat → FA) (F : Nat) : xnG call 23 (F + 1) 24 ls [vI a0, vR 2, vI s0] (LW W z f) = cbd (call 7 [vR 2, vI a0] (LW W z f)) (fun r L' => xnG call 23 F 25 ls (r.toList ++ [vI s0]) L') := pcY (ih := xnG call 23 F) (call := call) (a := 7) (b := 1) (v := 0) (t := 25) (x := 2) (ls := ls) (As := [vI a0]) (st' := [vI s0]) (L := LW W z f) rfl rfl rfl
set_option maxRecDepth 100000 in
theorem bt_c8_23_13 (call : QC FA) (x1 : Int32) (x2 : Int32) (x3 : Int32) (o4 : Option PV) (s0 : Int32) (s1 : Int32) (z : Nat → Int32) (f : Nat → FA) (F : Nat) : xnG call 23 (F + 7) 25 [some (vR 8), some (vI x1), some (vI x2), some (vI x3), o4] [vI s0, vI s1] (LW W z f) = xnG call 23 F 32 [some (vR 8), some (vI (s1 + (s0 * x3))), some (vI x2), some (vI x3), o4] [vI x2, vR 2] (LW W z f) := rfl
set_option maxRecDepth 100000 in
theorem bt_c8_23_14 (call : QC FA) (a0 : Int32) (ls : List (Option PV)) (z : Nat → Int32) (f : Nat → FA) (F : Nat) : xnG call 23 (F + 1) 32 ls [vI a0, vR 2] (LW W z f) = cbd (call 7 [vR 2, vI a0] (LW W z f)) (fun r L' => xnG call 23 F 33 ls (r.toList ++ []) L') := pcY (ih := xnG call 23 F) (call := call) (a := 7) (b := 1) (v := 0) (t := 33) (x := 2) (ls := ls) (As := [vI a0]) (st' := []) (L := LW W z f) rfl rfl rfl
set_option maxRecDepth 100000 in
theorem bt_c8_23_15 (call : QC FA) (x : Int32) (ls : List (Option PV)) (L : QH FA) (F : Nat) : xnG call 23 (F + 1) 33 ls [vI x] L = bif pcmp 3 x 0 then xnG call 23 F 49 ls [] L else xnG call 23 F 34 ls [] L := rfl
set_option maxRecDepth 100000 in
theorem bt_c8_23_16 (call : QC FA) (x1 : Int32) (x2 : Int32) (x3 : Int32) (o4 : Option PV) (L : QH FA) (F : Nat) : xnG call 23 (F + 1) 49 [some (vR 8), some (vI x1), some (vI x2), some (vI x3), o4] [] L = xnG call 23 F 50 [some (vR 8), some (vI x1), some (vI (x2 + 1)), some (vI x3), o4] [] L := rfl
set_option maxRecDepth 100000 in
theorem bt_c8_23_17 (call : QC FA) (x1 : Int32) (x2 : Int32) (x3 : Int32) (o4 : Option PV) (L : QH FA) (F : Nat) : xnG call 23 (F + 1) 50 [some (vR 8), some (vI x1), some (vI x2), some (vI x3), o4] [] L = xnG call 23 F 8 [some (vR 8), some (vI x1), some (vI x2), some (vI x3), o4] [] L := rfl
set_option maxRecDepth 100000 in
theorem bt_c8_23_18 (call : QC FA) (x1 : Int32) (x2 : Int32) (x3 : Int32) (o4 : Option PV) (L : QH FA) (F : Nat) : xnG call 23 (F + 1) 34 [some (vR 8), some (vI x1), some (vI x2), some (vI x3), o4] [] L = xnG call 23 F 35 [some (vR 8), some (vI x1), some (vI x2), some (vI x3), o4] [vI x3] L := rfl
set_option maxRecDepth 100000 in
theorem bt_c8_23_19 (call : QC FA) (x : Int32) (ls : List (Option PV)) (L : QH FA) (F : Nat) : xnG call 23 (F + 1) 35 ls [vI x] L = bif pcmp 2 x 0 then xnG call 23 F 49 ls [] L else xnG call 23 F 36 ls [] L := rfl
set_option maxRecDepth 100000 in
theorem bt_c8_23_20 (call : QC FA) (x1 : Int32) (x2 : Int32) (x3 : Int32) (o4 : Option PV) (z : Nat → Int32) (f : Nat → FA) (F : Nat) : xnG call 23 (F + 4) 36 [some (vR 8), some (vI x1), some (vI x2), some (vI x3), o4] [] (LW W z f) = xnG call 23 F 40 [some (vR 8), some (vI x1), some (vI x2), some (vI x3), o4] [vI (nI 100), vI x3] (LW W z f) := rfl
set_option maxRecDepth 100000 in
theorem bt_c8_23_21 (call : QC FA) (x y : Int32) (ls : List (Option PV)) (L : QH FA) (F : Nat) : xnG call 23 (F + 1) 40 ls [vI y, vI x] L = bif pcmp 3 x y then xnG call 23 F 49 ls [] L else xnG call 23 F 41 ls [] L := rfl
set_option maxRecDepth 100000 in
theorem bt_c8_23_22 (call : QC FA) (x1 : Int32) (x2 : Int32) (x3 : Int32) (o4 : Option PV) (z : Nat → Int32) (f : Nat → FA) (F : Nat) : xnG call 23 (F + 4) 41 [some (vR 8), some (vI x1), some (vI x2), some (vI x3), o4] [] (LW W z f) = xnG call 23 F 45 [some (vR 8), some (vI x1), some (vI x2), some (vI x3), o4] [vI x3, vR 11, vI x3, vR 11] (LW W z f) := rfl
set_option maxRecDepth 100000 in
theorem bt_c8_23_23 (call : QC FA) (x : Int32) (s0 : Int32) (ls : List (Option PV)) (z : Nat → Int32) (f : Nat → FA) (F : Nat) : xnG call 23 (F + 1) 45 ls [vI x, vR 11, vI s0, vR 11] (LW W z f) = bif (Nat.beq 0 0 && pin x 100) then xnG call 23 F 46 ls [vI (f 11 (ix x)), vI s0, vR 11] (LW W z f) else none := rfl
set_option maxRecDepth 100000 in
theorem bt_c8_23_24 (call : QC FA) (x1 : Int32) (x2 : Int32) (x3 : Int32) (o4 : Option PV) (s0 : Int32) (s1 : Int32) (L : QH FA) (F : Nat) : xnG call 23 (F + 2) 46 [some (vR 8), some (vI x1), some (vI x2), some (vI x3), o4] [vI s0, vI s1, vR 11] L = xnG call 23 F 48 [some (vR 8), some (vI x1), some (vI x2), some (vI x3), o4] [vI (s0 + 1), vI s1, vR 11] L := rfl
set_option maxRecDepth 100000 in
theorem bt_c8_23_25 (call : QC FA) (x y : Int32) (ls : List (Option PV)) (z : Nat → Int32) (f : Nat → FA) (F : Nat) : xnG call 23 (F + 1) 48 ls [vI y, vI x, vR 11] (LW W z f) = bif (Nat.beq 0 0 && pin x 100) then xnG call 23 F 49 ls [] (LW W z (uA f 11 (upd (f 11) (ix x) y))) else none := rfl
theorem vct_c8_23_8 (call : QC FA) (x1 : Int32) (x2 : Int32) (o3 : Option PV) (o4 : Option PV) (z : Nat → Int32) (f : Nat → FA) (res : Option PV × QH FA) (H : ((144 ≤ I x2 → XC call (mP 23) 55 [some (vR 8), some (vI x1), some (vI 0), some (vI 99), o4] [] (LW W z f) res) ∧ (I x2 < 144 → (∃ (r1 : Int32) (z1 : Nat → Int32) (f1 : Nat → FA), call 6 [vR 2, vI x2] (LW W z f) = some (some (vI r1), LW W z1 f1) ∧ ((r1 = 0 → XC call (mP 23) 8 [some (vR 8), some (vI x1), some (vI (x2 + 1)), o3, o4] [] (LW W z1 f1) res) ∧ (¬ r1 = 0 → (∃ (r2 : Int32) (z2 : Nat → Int32) (f2 : Nat → FA), call 10 [vR 8, vI x2] (LW W z1 f1) = some (some (vI r2), LW W z2 f2) ∧ (∃ (r3 : Int32) (z3 : Nat → Int32) (f3 : Nat → FA), call 7 [vR 2, vI x2] (LW W z2 f2) = some (some (vI r3), LW W z3 f3) ∧ (∃ (r4 : Int32) (z4 : Nat → Int32) (f4 : Nat → FA), call 7 [vR 2, vI x2] (LW W z3 f3) = some (some (vI r4), LW W z4 f4) ∧ ((0 ≤ I r4 → XC call (mP 23) 8 [some (vR 8), some (vI (x1 + (r3 * r2))), some (vI (x2 + 1)), some (vI r2), o4] [] (LW W z4 f4) res) ∧ (I r4 < 0 → ((I r2 < 0 → XC call (mP 23) 8 [some (vR 8), some (vI (x1 + (r3 * r2))), some (vI (x2 + 1)), some (vI r2), o4] [] (LW W z4 f4) res) ∧ (0 ≤ I r2 → ((I (nI 100) ≤ I r2 → XC call (mP 23) 8 [some (vR 8), some (vI (x1 + (r3 * r2))), some (vI (x2 + 1)), some (vI r2), o4] [] (LW W z4 f4) res) ∧ (I r2 < I (nI 100) → (pin r2 100 = true ∧ (pin r2 100 = true ∧ XC call (mP 23) 8 [some (vR 8), some (vI (x1 + (r3 * r2))), some (vI (x2 + 1)), some (vI r2), o4] [] (LW W z4 (uA f4 11 (upd (f4 11) (ix r2) ((f4 11 (ix r2)) + 1)))) res))))))))))))))))) : XC call (mP 23) 8 [some (vR 8), some (vI x1), some (vI x2), o3, o4] [] (LW W z f) res := by
  refine xc_b (i' := 10) (ls' := [some (vR 8), some (vI x1), some (vI x2), o3, o4]) (st' := [vI 144, vI x2]) (L' := LW W z f) 2 (bt_c8_23_1 call x1 x2 o3 o4 _) ?_
  refine xc_if (it := 51) (ie := 11) (ls' := [some (vR 8), some (vI x1), some (vI x2), o3, o4]) (st' := []) (bt_c8_23_2 call x2 144 _ _) (fun q1 => ?_) (fun q1 => ?_)
  · have H := H.1 (cI3t q1 rfl rfl)
    refine xc_b (i' := 55) (ls' := [some (vR 8), some (vI x1), some (vI 0), some (vI 99), o4]) (st' := []) (L' := LW W z f) 4 (bt_c8_23_3 call x1 x2 o3 o4 _) ?_
    exact H
  · have H := H.2 (cI3f q1 rfl rfl)
    refine xc_b (i' := 14) (ls' := [some (vR 8), some (vI x1), some (vI x2), o3, o4]) (st' := [vI x2, vR 2]) (L' := LW W z f) 3 (bt_c8_23_4 call x1 x2 o3 o4 z f) ?_
    obtain ⟨r1, z1, f1, hc, H⟩ := H
    refine xc_call (t := 15) (ls' := [some (vR 8), some (vI x1), some (vI x2), o3, o4]) (st' := []) (bt_c8_23_5 call x2 _ z f) hc ?_
    show XC call (mP 23) 15 [some (vR 8), some (vI x1), some (vI x2), o3, o4] [vI r1] (LW W z1 f1) res
    refine xc_if (it := 49) (ie := 16) (ls' := [some (vR 8), some (vI x1), some (vI x2), o3, o4]) (st' := []) (bt_c8_23_6 call r1 _ _) (fun q2 => ?_) (fun q2 => ?_)
    · have H := H.1 (cI0t q2)
      refine xc_b (i' := 50) (ls' := [some (vR 8), some (vI x1), some (vI (x2 + 1)), o3, o4]) (st' := []) (L' := LW W z1 f1) 1 (bt_c8_23_7 call x1 x2 o3 o4 _) ?_
      refine xc_b (i' := 8) (ls' := [some (vR 8), some (vI x1), some (vI (x2 + 1)), o3, o4]) (st' := []) (L' := LW W z1 f1) 1 (bt_c8_23_8 call x1 (x2 + 1) o3 o4 _) ?_
      exact H
    · have H := H.2 (cI0f q2)
      refine xc_b (i' := 18) (ls' := [some (vR 8), some (vI x1), some (vI x2), o3, o4]) (st' := [vI x2, vR 8]) (L' := LW W z1 f1) 2 (bt_c8_23_9 call x1 x2 o3 o4 _) ?_
      obtain ⟨r2, z2, f2, hc, H⟩ := H
      refine xc_call (t := 19) (ls' := [some (vR 8), some (vI x1), some (vI x2), o3, o4]) (st' := []) (bt_c8_23_10 call x2 _ z1 f1) hc ?_
      show XC call (mP 23) 19 [some (vR 8), some (vI x1), some (vI x2), o3, o4] [vI r2] (LW W z2 f2) res
      refine xc_b (i' := 24) (ls' := [some (vR 8), some (vI x1), some (vI x2), some (vI r2), o4]) (st' := [vI x2, vR 2, vI x1]) (L' := LW W z2 f2) 5 (bt_c8_23_11 call x1 x2 o3 o4 r2 z2 f2) ?_
      obtain ⟨r3, z3, f3, hc, H⟩ := H
      refine xc_call (t := 25) (ls' := [some (vR 8), some (vI x1), some (vI x2), some (vI r2), o4]) (st' := [vI x1]) (bt_c8_23_12 call x2 x1 _ z2 f2) hc ?_
      show XC call (mP 23) 25 [some (vR 8), some (vI x1), some (vI x2), some (vI r2), o4] [vI r3, vI x1] (LW W z3 f3) res
      refine xc_b (i' := 32) (ls' := [some (vR 8), some (vI (x1 + (r3 * r2))), some (vI x2), some (vI r2), o4]) (st' := [vI x2, vR 2]) (L' := LW W z3 f3) 7 (bt_c8_23_13 call x1 x2 r2 o4 r3 x1 z3 f3) ?_
      obtain ⟨r4, z4, f4, hc, H⟩ := H
      refine xc_call (t := 33) (ls' := [some (vR 8), some (vI (x1 + (r3 * r2))), some (vI x2), some (vI r2), o4]) (st' := []) (bt_c8_23_14 call x2 _ z3 f3) hc ?_
      show XC call (mP 23) 33 [some (vR 8), some (vI (x1 + (r3 * r2))), some (vI x2), some (vI r2), o4] [vI r4] (LW W z4 f4) res
      refine xc_if (it := 49) (ie := 34) (ls' := [some (vR 8), some (vI (x1 + (r3 * r2))), some (vI x2), some (vI r2), o4]) (st' := []) (bt_c8_23_15 call r4 _ _) (fun q3 => ?_) (fun q3 => ?_)
      · have H := H.1 (cI3t q3 rfl rfl)
        refine xc_b (i' := 50) (ls' := [some (vR 8), some (vI (x1 + (r3 * r2))), some (vI (x2 + 1)), some (vI r2), o4]) (st' := []) (L' := LW W z4 f4) 1 (bt_c8_23_16 call (x1 + (r3 * r2)) x2 r2 o4 _) ?_
        refine xc_b (i' := 8) (ls' := [some (vR 8), some (vI (x1 + (r3 * r2))), some (vI (x2 + 1)), some (vI r2), o4]) (st' := []) (L' := LW W z4 f4) 1 (bt_c8_23_17 call (x1 + (r3 * r2)) (x2 + 1) r2 o4 _) ?_
        exact H
      · have H := H.2 (cI3f q3 rfl rfl)
        refine xc_b (i' := 35) (ls' := [some (vR 8), some (vI (x1 + (r3 * r2))), some (vI x2), some (vI r2), o4]) (st' := [vI r2]) (L' := LW W z4 f4) 1 (bt_c8_23_18 call (x1 + (r3 * r2)) x2 r2 o4 _) ?_
        refine xc_if (it := 49) (ie := 36) (ls' := [some (vR 8), some (vI (x1 + (r3 * r2))), some (vI x2), some (vI r2), o4]) (st' := []) (bt_c8_23_19 call r2 _ _) (fun q4 => ?_) (fun q4 => ?_)
        · have H := H.1 (cI2t q4 rfl rfl)
          refine xc_b (i' := 50) (ls' := [some (vR 8), some (vI (x1 + (r3 * r2))), some (vI (x2 + 1)), some (vI r2), o4]) (st' := []) (L' := LW W z4 f4) 1 (bt_c8_23_16 call (x1 + (r3 * r2)) x2 r2 o4 _) ?_
          refine xc_b (i' := 8) (ls' := [some (vR 8), some (vI (x1 + (r3 * r2))), some (vI (x2 + 1)), some (vI r2), o4]) (st' := []) (L' := LW W z4 f4) 1 (bt_c8_23_17 call (x1 + (r3 * r2)) (x2 + 1) r2 o4 _) ?_
          exact H
        · have H := H.2 (cI2f q4 rfl rfl)
          refine xc_b (i' := 40) (ls' := [some (vR 8), some (vI (x1 + (r3 * r2))), some (vI x2), some (vI r2), o4]) (st' := [vI (nI 100), vI r2]) (L' := LW W z4 f4) 4 (bt_c8_23_20 call (x1 + (r3 * r2)) x2 r2 o4 z4 f4) ?_
          refine xc_if (it := 49) (ie := 41) (ls' := [some (vR 8), some (vI (x1 + (r3 * r2))), some (vI x2), some (vI r2), o4]) (st' := []) (bt_c8_23_21 call r2 (nI 100) _ _) (fun q5 => ?_) (fun q5 => ?_)
          · have H := H.1 (cI3t q5 rfl rfl)
            refine xc_b (i' := 50) (ls' := [some (vR 8), some (vI (x1 + (r3 * r2))), some (vI (x2 + 1)), some (vI r2), o4]) (st' := []) (L' := LW W z4 f4) 1 (bt_c8_23_16 call (x1 + (r3 * r2)) x2 r2 o4 _) ?_
            refine xc_b (i' := 8) (ls' := [some (vR 8), some (vI (x1 + (r3 * r2))), some (vI (x2 + 1)), some (vI r2), o4]) (st' := []) (L' := LW W z4 f4) 1 (bt_c8_23_17 call (x1 + (r3 * r2)) (x2 + 1) r2 o4 _) ?_
            exact H
          · have H := H.2 (cI3f q5 rfl rfl)
            refine xc_b (i' := 45) (ls' := [some (vR 8), some (vI (x1 + (r3 * r2))), some (vI x2), some (vI r2), o4]) (st' := [vI r2, vR 11, vI r2, vR 11]) (L' := LW W z4 f4) 4 (bt_c8_23_22 call (x1 + (r3 * r2)) x2 r2 o4 z4 f4) ?_
            obtain ⟨g1, H⟩ := H
            refine xc_g (i' := 46) (ls' := [some (vR 8), some (vI (x1 + (r3 * r2))), some (vI x2), some (vI r2), o4]) (st' := [vI (f4 11 (ix r2)), vI r2, vR 11]) (L' := LW W z4 f4) (bt_c8_23_23 call r2 r2 _ z4 f4) (pinG g1) ?_
            refine xc_b (i' := 48) (ls' := [some (vR 8), some (vI (x1 + (r3 * r2))), some (vI x2), some (vI r2), o4]) (st' := [vI ((f4 11 (ix r2)) + 1), vI r2, vR 11]) (L' := LW W z4 f4) 2 (bt_c8_23_24 call (x1 + (r3 * r2)) x2 r2 o4 (f4 11 (ix r2)) r2 _) ?_
            obtain ⟨g1, H⟩ := H
            refine xc_g (i' := 49) (ls' := [some (vR 8), some (vI (x1 + (r3 * r2))), some (vI x2), some (vI r2), o4]) (st' := []) (L' := LW W z4 (uA f4 11 (upd (f4 11) (ix r2) ((f4 11 (ix r2)) + 1)))) (bt_c8_23_25 call r2 ((f4 11 (ix r2)) + 1) _ z4 f4) (pinG g1) ?_
            refine xc_b (i' := 50) (ls' := [some (vR 8), some (vI (x1 + (r3 * r2))), some (vI (x2 + 1)), some (vI r2), o4]) (st' := []) (L' := LW W z4 (uA f4 11 (upd (f4 11) (ix r2) ((f4 11 (ix r2)) + 1)))) 1 (bt_c8_23_16 call (x1 + (r3 * r2)) x2 r2 o4 _) ?_
            refine xc_b (i' := 8) (ls' := [some (vR 8), some (vI (x1 + (r3 * r2))), some (vI (x2 + 1)), some (vI r2), o4]) (st' := []) (L' := LW W z4 (uA f4 11 (upd (f4 11) (ix r2) ((f4 11 (ix r2)) + 1)))) 1 (bt_c8_23_17 call (x1 + (r3 * r2)) (x2 + 1) r2 o4 _) ?_
            exact H
set_option maxRecDepth 100000 in
theorem bt_c55_23_1 (call : QC FA) (x1 : Int32) (x2 : Int32) (x3 : Int32) (o4 : Option PV) (L : QH FA) (F : Nat) : xnG call 23 (F + 1) 55 [some (vR 8), some (vI x1), some (vI x2), some (vI x3), o4] [] L = xnG call 23 F 56 [some (vR 8), some (vI x1), some (vI x2), some (vI x3), o4] [vI x3] L := rfl
set_option maxRecDepth 100000 in
theorem bt_c55_23_2 (call : QC FA) (x : Int32) (ls : List (Option PV)) (L : QH FA) (F : Nat) : xnG call 23 (F + 1) 56 ls [vI x] L = bif pcmp 5 x 0 then xnG call 23 F 76 ls [] L else xnG call 23 F 57 ls [] L := rfl
set_option maxRecDepth 100000 in
theorem bt_c55_23_3 (call : QC FA) (x1 : Int32) (x2 : Int32) (x3 : Int32) (o4 : Option PV) (L : QH FA) (F : Nat) : xnG call 23 (F + 1) 76 [some (vR 8), some (vI x1), some (vI x2), some (vI x3), o4] [] L = xnG call 23 F 77 [some (vR 8), some (vI x1), some (vI x2), some (vI x3), o4] [vI x1] L := rfl
set_option maxRecDepth 100000 in
theorem bt_c55_23_4 (call : QC FA) (x : Int32) (ls : List (Option PV)) (L : QH FA) (F : Nat) : xnG call 23 (F + 1) 77 ls [vI x] L = bif pcmp 5 x 0 then xnG call 23 F 80 ls [] L else xnG call 23 F 78 ls [] L := rfl
set_option maxRecDepth 100000 in
theorem bt_c55_23_5 (call : QC FA) (x1 : Int32) (x2 : Int32) (x3 : Int32) (o4 : Option PV) (L : QH FA) (F : Nat) : xnG call 23 (F + 1) 80 [some (vR 8), some (vI x1), some (vI x2), some (vI x3), o4] [] L = xnG call 23 F 81 [some (vR 8), some (vI x1), some (vI x2), some (vI x3), o4] [vI ((-1))] L := rfl
set_option maxRecDepth 100000 in
theorem bt_c55_23_6 (call : QC FA) (x : Int32) (ls : List (Option PV)) (L : QH FA) (F : Nat) : xnG call 23 (F + 1) 81 ls [vI x] L = some (some (vI x), L) := rfl
set_option maxRecDepth 100000 in
theorem bt_c55_23_7 (call : QC FA) (x1 : Int32) (x2 : Int32) (x3 : Int32) (o4 : Option PV) (L : QH FA) (F : Nat) : xnG call 23 (F + 2) 78 [some (vR 8), some (vI x1), some (vI x2), some (vI x3), o4] [] L = xnG call 23 F 81 [some (vR 8), some (vI x1), some (vI x2), some (vI x3), o4] [vI x2] L := rfl
set_option maxRecDepth 100000 in
theorem bt_c55_23_8 (call : QC FA) (x1 : Int32) (x2 : Int32) (x3 : Int32) (o4 : Option PV) (L : QH FA) (F : Nat) : xnG call 23 (F + 2) 57 [some (vR 8), some (vI x1), some (vI x2), some (vI x3), o4] [] L = xnG call 23 F 59 [some (vR 8), some (vI x1), some (vI x2), some (vI x3), some (vI 0)] [] L := rfl
theorem vct_c55_23_55 (call : QC FA) (x1 : Int32) (x2 : Int32) (x3 : Int32) (o4 : Option PV) (z : Nat → Int32) (f : Nat → FA) (res : Option PV × QH FA) (H : ((I x3 ≤ 0 → ((I x1 ≤ 0 → res = (some (vI ((-1))), LW W z f)) ∧ (0 < I x1 → res = (some (vI x2), LW W z f)))) ∧ (0 < I x3 → XC call (mP 23) 59 [some (vR 8), some (vI x1), some (vI x2), some (vI x3), some (vI 0)] [] (LW W z f) res))) : XC call (mP 23) 55 [some (vR 8), some (vI x1), some (vI x2), some (vI x3), o4] [] (LW W z f) res := by
  refine xc_b (i' := 56) (ls' := [some (vR 8), some (vI x1), some (vI x2), some (vI x3), o4]) (st' := [vI x3]) (L' := LW W z f) 1 (bt_c55_23_1 call x1 x2 x3 o4 _) ?_
  refine xc_if (it := 76) (ie := 57) (ls' := [some (vR 8), some (vI x1), some (vI x2), some (vI x3), o4]) (st' := []) (bt_c55_23_2 call x3 _ _) (fun q1 => ?_) (fun q1 => ?_)
  · have H := H.1 (cI5t q1 rfl rfl)
    refine xc_b (i' := 77) (ls' := [some (vR 8), some (vI x1), some (vI x2), some (vI x3), o4]) (st' := [vI x1]) (L' := LW W z f) 1 (bt_c55_23_3 call x1 x2 x3 o4 _) ?_
    refine xc_if (it := 80) (ie := 78) (ls' := [some (vR 8), some (vI x1), some (vI x2), some (vI x3), o4]) (st' := []) (bt_c55_23_4 call x1 _ _) (fun q2 => ?_) (fun q2 => ?_)
    · have H := H.1 (cI5t q2 rfl rfl)
      refine xc_b (i' := 81) (ls' := [some (vR 8), some (vI x1), some (vI x2), some (vI x3), o4]) (st' := [vI ((-1))]) (L' := LW W z f) 1 (bt_c55_23_5 call x1 x2 x3 o4 _) ?_
      subst H
      exact xc_ret (bt_c55_23_6 call _ _ _)
    · have H := H.2 (cI5f q2 rfl rfl)
      refine xc_b (i' := 81) (ls' := [some (vR 8), some (vI x1), some (vI x2), some (vI x3), o4]) (st' := [vI x2]) (L' := LW W z f) 2 (bt_c55_23_7 call x1 x2 x3 o4 _) ?_
      subst H
      exact xc_ret (bt_c55_23_6 call _ _ _)
  · have H := H.2 (cI5f q1 rfl rfl)
    refine xc_b (i' := 59) (ls' := [some (vR 8), some (vI x1), some (vI x2), some (vI x3), some (vI 0)]) (st' := []) (L' := LW W z f) 2 (bt_c55_23_8 call x1 x2 x3 o4 _) ?_
    exact H
set_option maxRecDepth 100000 in
theorem bt_c59_23_1 (call : QC FA) (x1 : Int32) (x2 : Int32) (x3 : Int32) (x4 : Int32) (z : Nat → Int32) (f : Nat → FA) (F : Nat) : xnG call 23 (F + 4) 59 [some (vR 8), some (vI x1), some (vI x2), some (vI x3), some (vI x4)] [] (LW W z f) = xnG call 23 F 63 [some (vR 8), some (vI x1), some (vI x2), some (vI x3), some (vI x4)] [vI x3, vR 11, vI x4] (LW W z f) := rfl
set_option maxRecDepth 100000 in
theorem bt_c59_23_2 (call : QC FA) (x : Int32) (s0 : Int32) (ls : List (Option PV)) (z : Nat → Int32) (f : Nat → FA) (F : Nat) : xnG call 23 (F + 1) 63 ls [vI x, vR 11, vI s0] (LW W z f) = bif (Nat.beq 0 0 && pin x 100) then xnG call 23 F 64 ls [vI (f 11 (ix x)), vI s0] (LW W z f) else none := rfl
set_option maxRecDepth 100000 in
theorem bt_c59_23_3 (call : QC FA) (x y : Int32) (ls : List (Option PV)) (L : QH FA) (F : Nat) : xnG call 23 (F + 1) 64 ls [vI y, vI x] L = bif pcmp 3 x y then xnG call 23 F 74 ls [] L else xnG call 23 F 65 ls [] L := rfl
theorem bt_c59_23_4i (ih : QK FA) (t : Nat) (v x : Int32) (l0 l1 l2 l4 : Option PV) (st : List PV) (L : QH FA) : p_iinc ih fzF 3 v t [l0, l1, l2, some (vI x), l4] st L = ih t [l0, l1, l2, some (vI (x + v)), l4] st L := rfl
set_option maxRecDepth 100000 in
theorem bt_c59_23_4 (call : QC FA) (x1 : Int32) (x2 : Int32) (x3 : Int32) (x4 : Int32) (L : QH FA) (F : Nat) : xnG call 23 (F + 1) 74 [some (vR 8), some (vI x1), some (vI x2), some (vI x3), some (vI x4)] [] L = xnG call 23 F 75 [some (vR 8), some (vI x1), some (vI x2), some (vI (x3 + (-1))), some (vI x4)] [] L := bt_c59_23_4i (xnG call 23 F) 75 (-1) x3 _ _ _ _ _ _
set_option maxRecDepth 100000 in
theorem bt_c59_23_5 (call : QC FA) (x1 : Int32) (x2 : Int32) (x3 : Int32) (x4 : Int32) (L : QH FA) (F : Nat) : xnG call 23 (F + 1) 75 [some (vR 8), some (vI x1), some (vI x2), some (vI x3), some (vI x4)] [] L = xnG call 23 F 55 [some (vR 8), some (vI x1), some (vI x2), some (vI x3), some (vI x4)] [] L := rfl
set_option maxRecDepth 100000 in
theorem bt_c59_23_6 (call : QC FA) (x1 : Int32) (x2 : Int32) (x3 : Int32) (x4 : Int32) (L : QH FA) (F : Nat) : xnG call 23 (F + 1) 65 [some (vR 8), some (vI x1), some (vI x2), some (vI x3), some (vI x4)] [] L = xnG call 23 F 66 [some (vR 8), some (vI x1), some (vI x2), some (vI x3), some (vI x4)] [vI x1] L := rfl
set_option maxRecDepth 100000 in
theorem bt_c59_23_7 (call : QC FA) (x : Int32) (ls : List (Option PV)) (L : QH FA) (F : Nat) : xnG call 23 (F + 1) 66 ls [vI x] L = bif pcmp 4 x 0 then xnG call 23 F 74 ls [] L else xnG call 23 F 67 ls [] L := rfl
set_option maxRecDepth 100000 in
theorem bt_c59_23_8 (call : QC FA) (x1 : Int32) (x2 : Int32) (x3 : Int32) (x4 : Int32) (L : QH FA) (F : Nat) : xnG call 23 (F + 4) 67 [some (vR 8), some (vI x1), some (vI x2), some (vI x3), some (vI x4)] [] L = xnG call 23 F 71 [some (vR 8), some (vI (x1 + x3)), some (vI x2), some (vI x3), some (vI x4)] [] L := rfl
set_option maxRecDepth 100000 in
theorem bt_c59_23_9 (call : QC FA) (x1 : Int32) (x2 : Int32) (x3 : Int32) (x4 : Int32) (L : QH FA) (F : Nat) : xnG call 23 (F + 1) 71 [some (vR 8), some (vI x1), some (vI x2), some (vI x3), some (vI x4)] [] L = xnG call 23 F 72 [some (vR 8), some (vI x1), some (vI (x2 + 1)), some (vI x3), some (vI x4)] [] L := rfl
set_option maxRecDepth 100000 in
theorem bt_c59_23_10 (call : QC FA) (x1 : Int32) (x2 : Int32) (x3 : Int32) (x4 : Int32) (L : QH FA) (F : Nat) : xnG call 23 (F + 1) 72 [some (vR 8), some (vI x1), some (vI x2), some (vI x3), some (vI x4)] [] L = xnG call 23 F 73 [some (vR 8), some (vI x1), some (vI x2), some (vI x3), some (vI (x4 + 1))] [] L := rfl
set_option maxRecDepth 100000 in
theorem bt_c59_23_11 (call : QC FA) (x1 : Int32) (x2 : Int32) (x3 : Int32) (x4 : Int32) (L : QH FA) (F : Nat) : xnG call 23 (F + 1) 73 [some (vR 8), some (vI x1), some (vI x2), some (vI x3), some (vI x4)] [] L = xnG call 23 F 59 [some (vR 8), some (vI x1), some (vI x2), some (vI x3), some (vI x4)] [] L := rfl
theorem vct_c59_23_59 (call : QC FA) (x1 : Int32) (x2 : Int32) (x3 : Int32) (x4 : Int32) (z : Nat → Int32) (f : Nat → FA) (res : Option PV × QH FA) (H : (pin x3 100 = true ∧ ((I (f 11 (ix x3)) ≤ I x4 → XC call (mP 23) 55 [some (vR 8), some (vI x1), some (vI x2), some (vI (x3 + (-1))), some (vI x4)] [] (LW W z f) res) ∧ (I x4 < I (f 11 (ix x3)) → ((0 < I x1 → XC call (mP 23) 55 [some (vR 8), some (vI x1), some (vI x2), some (vI (x3 + (-1))), some (vI x4)] [] (LW W z f) res) ∧ (I x1 ≤ 0 → XC call (mP 23) 59 [some (vR 8), some (vI (x1 + x3)), some (vI (x2 + 1)), some (vI x3), some (vI (x4 + 1))] [] (LW W z f) res)))))) : XC call (mP 23) 59 [some (vR 8), some (vI x1), some (vI x2), some (vI x3), some (vI x4)] [] (LW W z f) res := by
  refine xc_b (i' := 63) (ls' := [some (vR 8), some (vI x1), some (vI x2), some (vI x3), some (vI x4)]) (st' := [vI x3, vR 11, vI x4]) (L' := LW W z f) 4 (bt_c59_23_1 call x1 x2 x3 x4 z f) ?_
  obtain ⟨g1, H⟩ := H
  refine xc_g (i' := 64) (ls' := [some (vR 8), some (vI x1), some (vI x2), some (vI x3), some (vI x4)]) (st' := [vI (f 11 (ix x3)), vI x4]) (L' := LW W z f) (bt_c59_23_2 call x3 x4 _ z f) (pinG g1) ?_
  refine xc_if (it := 74) (ie := 65) (ls' := [some (vR 8), some (vI x1), some (vI x2), some (vI x3), some (vI x4)]) (st' := []) (bt_c59_23_3 call x4 (f 11 (ix x3)) _ _) (fun q1 => ?_) (fun q1 => ?_)
  · have H := H.1 (cI3t q1 rfl rfl)
    refine xc_b (i' := 75) (ls' := [some (vR 8), some (vI x1), some (vI x2), some (vI (x3 + (-1))), some (vI x4)]) (st' := []) (L' := LW W z f) 1 (bt_c59_23_4 call x1 x2 x3 x4 _) ?_
    refine xc_b (i' := 55) (ls' := [some (vR 8), some (vI x1), some (vI x2), some (vI (x3 + (-1))), some (vI x4)]) (st' := []) (L' := LW W z f) 1 (bt_c59_23_5 call x1 x2 (x3 + (-1)) x4 _) ?_
    exact H
  · have H := H.2 (cI3f q1 rfl rfl)
    refine xc_b (i' := 66) (ls' := [some (vR 8), some (vI x1), some (vI x2), some (vI x3), some (vI x4)]) (st' := [vI x1]) (L' := LW W z f) 1 (bt_c59_23_6 call x1 x2 x3 x4 _) ?_
    refine xc_if (it := 74) (ie := 67) (ls' := [some (vR 8), some (vI x1), some (vI x2), some (vI x3), some (vI x4)]) (st' := []) (bt_c59_23_7 call x1 _ _) (fun q2 => ?_) (fun q2 => ?_)
    · have H := H.1 (cI4t q2 rfl rfl)
      refine xc_b (i' := 75) (ls' := [some (vR 8), some (vI x1), some (vI x2), some (vI (x3 + (-1))), some (vI x4)]) (st' := []) (L' := LW W z f) 1 (bt_c59_23_4 call x1 x2 x3 x4 _) ?_
      refine xc_b (i' := 55) (ls' := [some (vR 8), some (vI x1), some (vI x2), some (vI (x3 + (-1))), some (vI x4)]) (st' := []) (L' := LW W z f) 1 (bt_c59_23_5 call x1 x2 (x3 + (-1)) x4 _) ?_
      exact H
    · have H := H.2 (cI4f q2 rfl rfl)
      refine xc_b (i' := 71) (ls' := [some (vR 8), some (vI (x1 + x3)), some (vI x2), some (vI x3), some (vI x4)]) (st' := []) (L' := LW W z f) 4 (bt_c59_23_8 call x1 x2 x3 x4 _) ?_
      refine xc_b (i' := 72) (ls' := [some (vR 8), some (vI (x1 + x3)), some (vI (x2 + 1)), some (vI x3), some (vI x4)]) (st' := []) (L' := LW W z f) 1 (bt_c59_23_9 call (x1 + x3) x2 x3 x4 _) ?_
      refine xc_b (i' := 73) (ls' := [some (vR 8), some (vI (x1 + x3)), some (vI (x2 + 1)), some (vI x3), some (vI (x4 + 1))]) (st' := []) (L' := LW W z f) 1 (bt_c59_23_10 call (x1 + x3) (x2 + 1) x3 x4 _) ?_
      refine xc_b (i' := 59) (ls' := [some (vR 8), some (vI (x1 + x3)), some (vI (x2 + 1)), some (vI x3), some (vI (x4 + 1))]) (st' := []) (L' := LW W z f) 1 (bt_c59_23_11 call (x1 + x3) (x2 + 1) x3 (x4 + 1) _) ?_
      exact H
theorem wFill (d : Nat) {z : Nat → Int32} {f : Nat → FA} : ∃ h : FA, (∀ j, j < 100 → h j = 0) ∧ xcall (d + 1) 2 [vR 11, vI 0] (LW W z f) = some (none, LW W z (uA f 11 h)) := by
  have lp : ∀ t k, k + t = 100 → ∀ h : FA, (∀ j, j < k → h j = 0) → ∃ h' : FA, (∀ j, j < 100 → h' j = 0) ∧ XC (xcall d) (mP 2) 5 [some (vR 11), some (vI 0), some (vI (nI k)), some (vI (nI 100))] [] (LW W z (uA f 11 h)) (none, LW W z (uA f 11 h')) := by
    intro t
    induction t with
    | zero =>
      intro k hk h hh
      obtain rfl : k = 100 := by omega
      exact ⟨h, hh, vct_c5_2_5 _ _ _ _ _ _ _ ⟨fun _ => rfl, fun q => absurd q (by decide)⟩⟩
    | succ t ih =>
      intro k hk h hh
      obtain ⟨h', a1, a2⟩ := ih (k + 1) (by omega) (upd h k 0) (fun j hj => by
        by_cases e : j = k
        · rw [e, pk_us]
        · rw [pk_un e]
          exact hh j (by omega))
      refine ⟨h', a1, vct_c5_2_5 _ _ _ _ _ _ _ ⟨fun q => by rw [I_nI (by omega), I_nI (by omega)] at q; omega, fun _ => ⟨pin_nI (by omega) (by omega), ?_⟩⟩⟩
      rw [uA_self, uA_uA, ix_nI (by omega), nI_s k]
      exact a2
  obtain ⟨h', a1, a2⟩ := lp 100 0 rfl (f 11) (fun j hj => absurd hj (Nat.not_lt_zero j))
  rw [uA_id rfl] at a2
  exact ⟨h', a1, xcall_i (mq2 (cu := [])).2.2 rfl (vct_2_0 (xcall d) 0 none none z f _ a2)⟩
section TURN
variable {L : LAW} {n : Nat}
theorem wWgt (hW : WTX W) (hC : LWC W 0 L n) (hL : LOK L n) (d : Nat) {nv i : Nat} (hi : i < 144) {z zr : Nat → Int32} {f r f' : Nat → FA} (h : RLn nv z f zr r) (hmk : ¬ f 4 i = 0) (e3 : f' 3 = f 3) (e4 : f' 4 = f 4) : ∃ f2, xcall (d + 4) 10 [vR 8, vI (nI i)] (LW W z f') = some (some (vI (wtV L n (f 4) (r 1) (r 5) (r 6) i)), LW W z f2) ∧ ∀ k, k ≠ 9 → k ≠ 10 → f2 k = f' k := by
  obtain ⟨⟨hn, hs, ht, hm, hr⟩, -⟩ := h
  obtain ⟨a1, a2, a3, a4, a5, a6, a7, a8⟩ := hs
  obtain ⟨q1, q2, q3⟩ := (hm i hi).val hn
  rcases q3 with ⟨q, -, -⟩ | ⟨-, v, hv, ho, hwu, -⟩
  · exact absurd q hmk
  obtain ⟨b1, b2, b3, b4, b5, b6, -⟩ := ht v hv
  have ho' : mkO (f' 4 i) = nI v := by rw [e4]; exact ho
  obtain ⟨g, k, h1⟩ := wWeighsn hW hC hL d (z := z) (f := f') a1 hn hv hi ho'
  have c2 : f' 3 (60 + v) = r 6 v := by rw [e3]; exact b4
  have c3 : f' 3 (40 + v) = r 5 v := by rw [e3]; exact b3
  have c4 : f' 3 (100 + v) = r 1 (47 + v) := by rw [e3]; exact b6
  have c5 : z 23 = r 1 4 := a2
  have c6 : z 24 = r 1 1 := a3
  have c7 : z 25 = r 1 0 := a4
  have c8 : mkW (f' 4 i) = r 1 (211 + i) := by rw [e4]; exact q1
  have c9 : mkD (f' 4 i) = r 1 (355 + i) := by rw [e4]; exact q2
  rw [c2, c3, c4, c5, c6, c7, c8, c9, e4] at h1
  have ev : (I (r 1 (67 + i)) - 1).toNat = v := by
    rw [hwu, I_nI (by omega)]
    omega
  refine ⟨uA (uA f' 9 g) 10 k, ?_, fun k h3 h4 => (uA_ne h4).trans (uA_ne h3)⟩
  unfold wtV
  rw [ev]
  exact h1
/-- the heaviest first: the class's loops -/
theorem wHeavy (d : Nat) {z : Nat → Int32} {f : Nat → FA} {c : Nat → Nat} (hc : ∀ w, 1 ≤ w → w ≤ 99 → c w ≤ 144 ∧ f 11 w = nI (c w)) : ∀ w, w ≤ 99 → ∀ y l, ∀ o4, l + 144 * w ≤ 1000000 → XC (xcall d) (mP 23) 55 [some (vR 8), some (vI y), some (vI (nI l)), some (vI (nI w)), o4] [] (LW W z f) (some (vI (ansW (gouW c w y l))), LW W z f) := by
  intro w
  induction w with
  | zero =>
    intro _ y l o4 _
    refine vct_c55_23_55 _ _ _ _ _ _ _ _ ⟨fun _ => ⟨fun q => ?_, fun q => ?_⟩, fun q => absurd q (by decide)⟩
    · have e : ansW (gouW c 0 y l) = -1 := if_neg (by show ¬ 0 < I y; omega)
      rw [e]
    · have e : ansW (gouW c 0 y l) = nI l := if_pos q
      rw [e]
  | succ w ih =>
    intro hw y l o4 hl
    obtain ⟨k1, k2⟩ := hc (w + 1) (by omega) hw
    have inner : ∀ t i, i + t = c (w + 1) → ∀ y l, l + 144 * w + t ≤ 1000000 → (XC (xcall d) (mP 23) 59 [some (vR 8), some (vI y), some (vI (nI l)), some (vI (nI (w + 1))), some (vI (nI i))] [] (LW W z f) (some (vI (ansW (gouW c w (ginW (w + 1) t y l).1 (ginW (w + 1) t y l).2))), LW W z f)) := by
      intro t
      induction t with
      | zero =>
        intro i hi y l hl
        refine vct_c59_23_59 _ _ _ _ _ _ _ _ ⟨pin_nI (by omega) (by omega), ?_⟩
        rw [ix_nI (by omega), k2, I_nI (by omega), I_nI (by omega)]
        refine ⟨fun _ => ?_, fun q => by omega⟩
        rw [nI_mm (by omega), show w + 1 - 1 = w from rfl]
        exact ih (by omega) y l _ (by omega)
      | succ t iht =>
        intro i hi y l hl
        refine vct_c59_23_59 _ _ _ _ _ _ _ _ ⟨pin_nI (by omega) (by omega), ?_⟩
        rw [ix_nI (by omega), k2, I_nI (by omega), I_nI (by omega)]
        refine ⟨fun q => by omega, fun _ => ⟨fun q => ?_, fun q => ?_⟩⟩
        · rw [nI_mm (by omega), show w + 1 - 1 = w from rfl]
          have e : ginW (w + 1) (t + 1) y l = (y, l) := ginW_pos q (t + 1)
          rw [e]
          exact ih (by omega) y l _ (by omega)
        · rw [nI_s l, nI_s i]
          have e : ginW (w + 1) (t + 1) y l = ginW (w + 1) t (y + nI (w + 1)) (l + 1) := if_neg (by omega)
          rw [e]
          exact iht (i + 1) (by omega) _ _ (by omega)
    refine vct_c55_23_55 _ _ _ _ _ _ _ _ ⟨fun q => by rw [I_nI (by omega)] at q; omega, fun _ => ?_⟩
    exact inner (c (w + 1)) 0 (by omega) y l (by omega)
theorem wTurned (hW : WTX W) (hC : LWC W 0 L n) (hL : LOK L n) (d : Nat) {nv : Nat} {z zr : Nat → Int32} {f r : Nat → FA} (h : RLn nv z f zr r) : ∃ f2, (∀ k, k ≠ 9 → k ≠ 10 → k ≠ 11 → f2 k = f k) ∧ xcall (d + 5) 23 [vR 8] (LW W z f) = some (some (vI (ansW (gouW (fun w => ctN (dnN (fun i => r 1 (211 + i)) (wtV L n (f 4) (r 1) (r 5) (r 6))) w 144) 99 (sgS (fun i => r 1 (211 + i)) (wtV L n (f 4) (r 1) (r 5) (r 6)) 144) 0))), LW W z f2) := by
  have hn := h.1.1
  have hm := h.1.2.2.2.1
  have lp : ∀ t k, k + t = 144 → ∀ f', (∀ k, k ≠ 9 → k ≠ 10 → k ≠ 11 → f' k = f k) → (∀ j, j < 100 → f' 11 j = hwF (fun i => r 1 (211 + i)) (wtV L n (f 4) (r 1) (r 5) (r 6)) k j) → ∀ o3 o4, ∃ f2, (∀ k, k ≠ 9 → k ≠ 10 → k ≠ 11 → f2 k = f k) ∧ XC (xcall (d + 4)) (mP 23) 8 [some (vR 8), some (vI (sgS (fun i => r 1 (211 + i)) (wtV L n (f 4) (r 1) (r 5) (r 6)) k)), some (vI (nI k)), o3, o4] [] (LW W z f') (some (vI (ansW (gouW (fun w => ctN (dnN (fun i => r 1 (211 + i)) (wtV L n (f 4) (r 1) (r 5) (r 6))) w 144) 99 (sgS (fun i => r 1 (211 + i)) (wtV L n (f 4) (r 1) (r 5) (r 6)) 144) 0))), LW W z f2) := by
    intro t
    induction t with
    | zero =>
      intro k hk f' h1 h2 o3 o4
      obtain rfl : k = 144 := by omega
      refine ⟨f', h1, vct_c8_23_8 _ _ _ _ _ _ _ _ ⟨fun _ => ?_, fun q => absurd q (by decide)⟩⟩
      exact wHeavy (W := W) (d + 4) (z := z) (f := f') (c := fun w => ctN (dnN (fun i => r 1 (211 + i)) (wtV L n (f 4) (r 1) (r 5) (r 6))) w 144) (fun w w1 w2 => ⟨ctN_le _ _ _, by rw [h2 w (by omega), hwF_e, ctD_e w1]⟩) 99 (Nat.le_refl _) _ 0 o4 (by omega)
    | succ t ih =>
      intro k hk f' h1 h2 o3 o4
      have k144 : k < 144 := by omega
      have ik : I (nI k) = k := I_nI (by omega)
      have f4 : f' 4 = f 4 := h1 4 (by decide) (by decide) (by decide)
      have c1 := wMkdn (W := W) (d + 3) (z := z) (f := f') k144
      rw [f4] at c1
      obtain ⟨v1, v2, v3⟩ := (hm k k144).val hn
      by_cases cm : f 4 k = 0
      · rw [mk1_f (fun q => q cm)] at c1
        have w0 : r 1 (211 + k) = 0 := by
          rw [← v1, cm]
          rfl
        obtain ⟨f2, a1, a2⟩ := ih (k + 1) (by omega) f' h1 (fun j hj => by
          rw [h2 j hj]
          have e : hwF (fun i => r 1 (211 + i)) (wtV L n (f 4) (r 1) (r 5) (r 6)) (k + 1) = hwF (fun i => r 1 (211 + i)) (wtV L n (f 4) (r 1) (r 5) (r 6)) k := if_neg (by show ¬ r 1 (211 + k) = -1; rw [w0]; decide)
          rw [e]) o3 o4
        refine ⟨f2, a1, vct_c8_23_8 _ _ _ _ _ _ _ _ ⟨fun q => by omega, fun _ => ⟨_, _, _, c1, fun _ => ?_, fun q => absurd rfl q⟩⟩⟩
        rw [nI_s k]
        have e : sgS (fun i => r 1 (211 + i)) (wtV L n (f 4) (r 1) (r 5) (r 6)) (k + 1) = sgS (fun i => r 1 (211 + i)) (wtV L n (f 4) (r 1) (r 5) (r 6)) k := if_pos w0
        rw [e] at a2
        exact a2
      · rw [mk1_t cm] at c1
        rcases v3 with ⟨q, -, -⟩ | ⟨-, v, hv, ho, hwu, hwy, -⟩
        · exact absurd q cm
        obtain ⟨f3, b1, b2⟩ := wWgt hW hC hL d k144 h cm (h1 3 (by decide) (by decide) (by decide)) f4
        obtain ⟨g1, g2⟩ := wtV_b L n (f 4) (r 1) (r 5) (r 6) k
        obtain ⟨n1, n2⟩ := nI_of99 g1 g2
        have f34 : f3 4 = f 4 := (b2 4 (by decide) (by decide)).trans f4
        have c2 := wWayn (W := W) (d + 2) (z := z) (f := f3) k144
        rw [f34, v1] at c2
        have e : sgS (fun i => r 1 (211 + i)) (wtV L n (f 4) (r 1) (r 5) (r 6)) (k + 1) = sgS (fun i => r 1 (211 + i)) (wtV L n (f 4) (r 1) (r 5) (r 6)) k + r 1 (211 + k) * wtV L n (f 4) (r 1) (r 5) (r 6) k := if_neg (by show ¬ r 1 (211 + k) = 0; rcases hwy with q | q <;> rw [q] <;> decide)
        have h13 : ∀ k, k ≠ 9 → k ≠ 10 → k ≠ 11 → f3 k = f k := fun k q1 q2 q3 => (b2 k q1 q2).trans (h1 k q1 q2 q3)
        have h11 : f3 11 = f' 11 := b2 11 (by decide) (by decide)
        rcases hwy with q | q
        · obtain ⟨f2, a1, a2⟩ := ih (k + 1) (by omega) f3 h13 (fun j hj => by
            rw [h11, h2 j hj]
            have e : hwF (fun i => r 1 (211 + i)) (wtV L n (f 4) (r 1) (r 5) (r 6)) (k + 1) = hwF (fun i => r 1 (211 + i)) (wtV L n (f 4) (r 1) (r 5) (r 6)) k := if_neg (by show ¬ r 1 (211 + k) = -1; rw [q]; decide)
            rw [e]) (some (vI (wtV L n (f 4) (r 1) (r 5) (r 6) k))) o4
          rw [e] at a2
          refine ⟨f2, a1, vct_c8_23_8 _ _ _ _ _ _ _ _ ⟨fun q => by omega, fun _ => ⟨_, _, _, c1, fun q => absurd q (by decide), fun _ => ⟨_, _, _, b1, _, _, _, c2, _, _, _, c2, fun _ => ?_, fun w => ?_⟩⟩⟩⟩
          · rw [nI_s k]
            exact a2
          · rw [q] at w
            exact absurd w (by decide)
        · obtain ⟨f2, a1, a2⟩ := ih (k + 1) (by omega) (uA f3 11 (upd (f3 11) (I (wtV L n (f 4) (r 1) (r 5) (r 6) k)).toNat (f3 11 (I (wtV L n (f 4) (r 1) (r 5) (r 6) k)).toNat + 1))) (fun k q1 q2 q3 => (uA_ne q3).trans (h13 k q1 q2 q3)) (fun j hj => by
            rw [uA_self, h11]
            have e : hwF (fun i => r 1 (211 + i)) (wtV L n (f 4) (r 1) (r 5) (r 6)) (k + 1) = upd (hwF (fun i => r 1 (211 + i)) (wtV L n (f 4) (r 1) (r 5) (r 6)) k) (I (wtV L n (f 4) (r 1) (r 5) (r 6) k)).toNat (hwF (fun i => r 1 (211 + i)) (wtV L n (f 4) (r 1) (r 5) (r 6)) k (I (wtV L n (f 4) (r 1) (r 5) (r 6) k)).toNat + 1) := if_pos q
            rw [e]
            by_cases ej : j = (I (wtV L n (f 4) (r 1) (r 5) (r 6) k)).toNat
            · rw [ej, pk_us, pk_us, h2 _ (by omega)]
            · rw [pk_un ej, pk_un ej, h2 j hj]) (some (vI (wtV L n (f 4) (r 1) (r 5) (r 6) k))) o4
          rw [e] at a2
          have px : pin (wtV L n (f 4) (r 1) (r 5) (r 6) k) 100 = true := by
            rw [n1]
            exact pin_nI (by omega) (by omega)
          have xx : ix (wtV L n (f 4) (r 1) (r 5) (r 6) k) = (I (wtV L n (f 4) (r 1) (r 5) (r 6) k)).toNat := (congrArg ix n1).trans (ix_nI (by omega))
          refine ⟨f2, a1, vct_c8_23_8 _ _ _ _ _ _ _ _ ⟨fun q => by omega, fun _ => ⟨_, _, _, c1, fun q => absurd q (by decide), fun _ => ⟨_, _, _, b1, _, _, _, c2, _, _, _, c2, fun w => ?_, fun _ => ⟨fun w => by omega, fun _ => ⟨fun w => ?_, fun _ => ⟨px, px, ?_⟩⟩⟩⟩⟩⟩⟩
          · rw [q] at w
            exact absurd w (by decide)
          · rw [I_nI (by decide)] at w
            omega
          · rw [nI_s k, xx]
            exact a2
  obtain ⟨h0, z1, z2⟩ := wFill (W := W) (d + 3) (z := z) (f := f)
  obtain ⟨f2, a1, a2⟩ := lp 144 0 rfl (uA f 11 h0) (fun k q1 q2 q3 => uA_ne q3) (fun j hj => by rw [uA_self]; exact z1 j hj) none none
  exact ⟨f2, a1, xcall_i (mq23 (cu := [])).2.2 rfl (vct_23_0 (xcall (d + 4)) none none none none z f _ ⟨_, _, z2, a2⟩)⟩
end TURN
end TWs
section TURR
variable {L : LAW} {n : Nat}
theorem rWgt (hL : LOK L n) (d : Nat) {nv i : Nat} (hi : i < 144) {z zr zr' : Nat → Int32} {f r r' : Nat → FA} (h : RLn nv z f zr r) (hM : LRM r' L n) (hmk : ¬ f 4 i = 0) (e1 : r' 1 = r 1) (e5 : r' 5 = r 5) (e6 : r' 6 = r 6) : ∃ r2, mcall (d + 5) 50 [vR 0, vI (nI i)] (LR zr' r') = some (some (vI (wtV L n (f 4) (r 1) (r 5) (r 6) i)), LR zr' r2) ∧ ∀ k, k ≠ 21 → k ≠ 22 → r2 k = r' k := by
  obtain ⟨⟨hn, hs, ht, hm, hr⟩, -⟩ := h
  obtain ⟨q1, q2, q3⟩ := (hm i hi).val hn
  rcases q3 with ⟨q, -, -⟩ | ⟨-, v, hv, ho, hwu, -⟩
  · exact absurd q hmk
  have hm' : MRS nv (f 4) (r' 1) := by rw [e1]; exact hm
  have hwu' : r' 1 (67 + i) = nI (v + 1) := by rw [e1]; exact hwu
  obtain ⟨g', k', h2⟩ := mWeighs hM hL d hn hv hi (z := zr') hm' hwu'
  rw [e1, e5, e6] at h2
  have ev : (I (r 1 (67 + i)) - 1).toNat = v := by
    rw [hwu, I_nI (by omega)]
    omega
  refine ⟨uA (uA r' 21 g') 22 k', ?_, fun k h3 h4 => (uA_ne h4).trans (uA_ne h3)⟩
  unfold wtV
  rw [ev]
  exact h2
theorem LRM.off {r r' : Nat → FA} (hM : LRM r L n) (h : ∀ k, 10 ≤ k → k ≤ 16 → r' k = r k) : LRM r' L n := hM.tff (h 10 (by decide) (by decide)) (fun k j q1 q2 _ => by rw [h k (by omega) (by omega)]) (fun j _ => by rw [h 15 (by decide) (by decide), h 16 (by decide) (by decide)]; exact ⟨rfl, rfl⟩)
theorem rSum (hL : LOK L n) (d : Nat) {nv : Nat} {z zr zr' : Nat → Int32} {f r : Nat → FA} (h : RLn nv z f zr r) (hM : LRM r L n) : ∃ r2, (∀ k, k ≠ 21 → k ≠ 22 → r2 k = r k) ∧ mcall (d + 6) 48 [vR 0] (LR zr' r) = some (some (vI (sgS (fun i => r 1 (211 + i)) (wtV L n (f 4) (r 1) (r 5) (r 6)) 144)), LR zr' r2) := by
  have hn := h.1.1
  have hm := h.1.2.2.2.1
  have lp : ∀ t k, k + t = 144 → ∀ r', (∀ k, k ≠ 21 → k ≠ 22 → r' k = r k) → ∃ r2, (∀ k, k ≠ 21 → k ≠ 22 → r2 k = r k) ∧ RC (mcall (d + 5)) (mP 48) 4 [some (vR 0), some (vI (sgS (fun i => r 1 (211 + i)) (wtV L n (f 4) (r 1) (r 5) (r 6)) k)), some (vI (nI k))] [] (LR zr' r') (some (vI (sgS (fun i => r 1 (211 + i)) (wtV L n (f 4) (r 1) (r 5) (r 6)) 144)), LR zr' r2) := by
    intro t
    induction t with
    | zero =>
      intro k hk r' h1
      obtain rfl : k = 144 := by omega
      exact ⟨r', h1, vcc4_48_4 d _ _ _ _ _ ⟨fun _ => rfl, fun q => absurd q (by decide)⟩⟩
    | succ t ih =>
      intro k hk r' h1
      have k144 : k < 144 := by omega
      have ik : I (nI k) = k := I_nI (by omega)
      have e211 : (211 : Int32) + nI k = nI (211 + k) := nI_add 211 k
      have r1 : r' 1 = r 1 := h1 1 (by decide) (by decide)
      have c1 := mIs (d + 4) k144 (z := zr') (f := r')
      rw [r1] at c1
      obtain ⟨v1, v2, v3⟩ := (hm k k144).val hn
      by_cases cm : f 4 k = 0
      · rw [mk1_f (fun q => ((hm k k144).iff hn).mpr q cm)] at c1
        have w0 : r 1 (211 + k) = 0 := by
          rw [← v1, cm]
          rfl
        obtain ⟨r2, a1, a2⟩ := ih (k + 1) (by omega) r' h1
        have e : sgS (fun i => r 1 (211 + i)) (wtV L n (f 4) (r 1) (r 5) (r 6)) (k + 1) = sgS (fun i => r 1 (211 + i)) (wtV L n (f 4) (r 1) (r 5) (r 6)) k := if_pos w0
        rw [e] at a2
        refine ⟨r2, a1, vcc4_48_4 d _ _ _ _ _ ⟨fun q => by omega, fun _ => ⟨_, _, _, c1, fun _ => ?_, fun q => absurd rfl q⟩⟩⟩
        rw [nI_s k]
        exact a2
      · rw [mk1_t (((hm k k144).iff hn).mp cm)] at c1
        rcases v3 with ⟨q, -, -⟩ | ⟨-, v, hv, ho, hwu, hwy, -⟩
        · exact absurd q cm
        obtain ⟨r3, b1, b2⟩ := rWgt (z := z) hL d k144 (zr' := zr') h (hM.off (fun k q1 q2 => h1 k (by omega) (by omega))) cm r1 (h1 5 (by decide) (by decide)) (h1 6 (by decide) (by decide))
        obtain ⟨r2, a1, a2⟩ := ih (k + 1) (by omega) r3 (fun k q1 q2 => (b2 k q1 q2).trans (h1 k q1 q2))
        have e : sgS (fun i => r 1 (211 + i)) (wtV L n (f 4) (r 1) (r 5) (r 6)) (k + 1) = sgS (fun i => r 1 (211 + i)) (wtV L n (f 4) (r 1) (r 5) (r 6)) k + r 1 (211 + k) * wtV L n (f 4) (r 1) (r 5) (r 6) k := if_neg (by show ¬ r 1 (211 + k) = 0; rcases hwy with q | q <;> rw [q] <;> decide)
        rw [e] at a2
        refine ⟨r2, a1, vcc4_48_4 d _ _ _ _ _ ⟨fun q => by omega, fun _ => ⟨_, _, _, c1, fun q => absurd q (by decide), fun _ => ?_⟩⟩⟩
        rw [e211, nI_s k, ix_nI (by omega), r1]
        exact ⟨pin_nI (by omega) (by omega), _, _, _, b1, a2⟩
  obtain ⟨r2, a1, a2⟩ := lp 144 0 rfl r (fun _ _ _ => rfl)
  exact ⟨r2, a1, mcall_i (mq48 (cu := [])).2.2 rfl (vc48_0 d none none zr' r _ a2)⟩
/-- the first greatest of a row -/
theorem rGreat (d : Nat) {z : Nat → Int32} {f : Nat → FA} {p : Nat → Nat} (hp : ∀ j, j < 144 → p j ≤ 99 ∧ f 23 j = nI (p j)) (y : Int32) (l : Nat) (res : Option PV × QH FA) (H : (¬ p (frB p 144) = 0 → ∀ o3 o4, RC (mcall (d + 5)) (mP 59) 29 [some (vR 0), some (vI (y + nI (p (frB p 144)))), some (vI (nI (l + 1))), o3, o4] [] (LR z (uA f 23 (upd (f 23) (frB p 144) 0))) res) ∧ (p (frB p 144) = 0 → res = (some (vI (-1)), LR z f))) : ∀ t c, c + t = 144 → 1 ≤ c → ∀ b, b < c → frB p c = b → RC (mcall (d + 5)) (mP 59) 35 [some (vR 0), some (vI y), some (vI (nI l)), some (vI (nI b)), some (vI (nI c))] [] (LR z f) res := by
  intro t
  induction t with
  | zero =>
    intro c hc c1 b hb hm
    obtain rfl : c = 144 := by omega
    obtain ⟨p1, p2⟩ := hp b hb
    rw [hm] at H
    obtain ⟨h1, h2⟩ := H
    refine vcc35_59_35 d _ _ _ _ _ _ _ ⟨fun _ => ⟨pin_nI hb (by omega), ?_⟩, fun q => absurd q (by decide)⟩
    rw [ix_nI (by omega), p2]
    refine ⟨fun q => ⟨pin_nI hb (by omega), pin_nI hb (by omega), ?_⟩, fun q => h2 ?_⟩
    · rw [nI_s l]
      exact h1 (fun e => q (by rw [e]; rfl)) _ _
    · have e : I (nI (p b)) = 0 := by rw [q]; rfl
      rw [I_nI (by omega)] at e
      omega
  | succ t ih =>
    intro c hc c1 b hb hm
    obtain ⟨p1, p2⟩ := hp b (by omega)
    obtain ⟨p3, p4⟩ := hp c (by omega)
    have es : frB p (c + 1) = if p (frB p c) < p c then c else frB p c := rfl
    rw [hm] at es
    refine vcc35_59_35 d _ _ _ _ _ _ _ ⟨fun q => by rw [I_nI (by omega)] at q; omega, fun _ => ⟨pin_nI (by omega) (by omega), pin_nI (by omega) (by omega), ?_⟩⟩
    rw [ix_nI (by omega), ix_nI (by omega), p2, p4, I_nI (by omega), I_nI (by omega), nI_s c]
    exact ⟨fun q => ih (c + 1) (by omega) (by omega) b (by omega) (by rw [es, if_neg (by omega)]), fun q => ih (c + 1) (by omega) (by omega) c (by omega) (by rw [es, if_pos (by omega)])⟩
/-- the reference lifts the heaviest, one after the other -/
theorem rHeavy (d : Nat) {z : Nat → Int32} : ∀ w, w ≤ 99 → ∀ k, ∀ (p : Nat → Nat) (f : Nat → FA) (y : Int32) (l : Nat), (∀ j, j < 144 → p j ≤ w) → (∀ j, j < 144 → f 23 j = nI (p j)) → ctN p w 144 = k → ∃ f2, (∀ k, k ≠ 23 → f2 k = f k) ∧ ∀ o3 o4 : Option PV, RC (mcall (d + 5)) (mP 59) 29 [some (vR 0), some (vI y), some (vI (nI l)), o3, o4] [] (LR z f) (some (vI (ansW (gouW (fun v => ctN p v 144) w y l))), LR z f2) := by
  intro w
  induction w with
  | zero =>
    intro _ k p f y l hw hf hk
    by_cases c : 0 < I y
    · have e : ansW (gouW (fun v => ctN p v 144) 0 y l) = nI l := if_pos c
      rw [e]
      exact ⟨f, fun _ _ => rfl, fun o3 o4 => vcc29_59_29 d _ _ _ _ _ _ _ ⟨fun _ => rfl, fun q => by omega⟩⟩
    · have e : ansW (gouW (fun v => ctN p v 144) 0 y l) = -1 := if_neg c
      rw [e]
      refine ⟨f, fun _ _ => rfl, fun o3 o4 => vcc29_59_29 d _ _ _ _ _ _ _ ⟨fun q => absurd q c, fun _ => ?_⟩⟩
      exact rGreat d (p := p) (fun j hj => ⟨by have := hw j hj; omega, hf j hj⟩) y l _ ⟨fun q => by have := hw (frB p 144) (frB_lt p 143); omega, fun _ => rfl⟩ 143 1 rfl (by decide) 0 (by decide) (frB_1 p)
  | succ w ih =>
    intro hw9 k
    induction k with
    | zero =>
      intro p f y l hw hf hk
      have hz := ctN_zero 144 hk
      obtain ⟨f2, a1, a2⟩ := ih (by omega) _ p f y l (fun j hj => by have := hw j hj; have := hz j hj; omega) hf rfl
      refine ⟨f2, a1, ?_⟩
      have e : gouW (fun v => ctN p v 144) (w + 1) y l = gouW (fun v => ctN p v 144) w y l := by
        show gouW (fun v => ctN p v 144) w (ginW (w + 1) (ctN p (w + 1) 144) y l).1 (ginW (w + 1) (ctN p (w + 1) 144) y l).2 = _
        rw [hk]
        rfl
      rw [e]
      exact a2
    | succ k ihk =>
      intro p f y l hw hf hk
      by_cases c : 0 < I y
      · have e : ansW (gouW (fun v => ctN p v 144) (w + 1) y l) = nI l := by
          rw [gouW_pos c]
          exact if_pos c
        rw [e]
        exact ⟨f, fun _ _ => rfl, fun o3 o4 => vcc29_59_29 d _ _ _ _ _ _ _ ⟨fun _ => rfl, fun q => by omega⟩⟩
      · obtain ⟨j0, j1, j2⟩ := ctN_pos 144 (by omega : 0 < ctN p (w + 1) 144)
        have key : ∀ b, b < 144 → (∀ j, j < 144 → p j ≤ p b) → p b = w + 1 := fun b hb hm => by
          have := hm j0 j1
          have := hw b hb
          omega
        have go : ∀ b, b < 144 → p b = w + 1 → ∃ f2, (∀ k, k ≠ 23 → f2 k = f k) ∧ ∀ o3 o4, RC (mcall (d + 5)) (mP 59) 29 [some (vR 0), some (vI (y + nI (p b))), some (vI (nI (l + 1))), o3, o4] [] (LR z (uA f 23 (upd (f 23) b 0))) (some (vI (ansW (gouW (fun v => ctN p v 144) (w + 1) y l))), LR z f2) := fun b hb eb => by
          have hu := ctN_upd (p := p) (b := b) (w := w + 1) (by omega) eb 144 hb
          have eg : gouW (fun v => ctN p v 144) (w + 1) y l = gouW (fun v => ctN (updN p b 0) v 144) (w + 1) (y + nI (p b)) (l + 1) := by
            show gouW (fun v => ctN p v 144) w (ginW (w + 1) (ctN p (w + 1) 144) y l).1 (ginW (w + 1) (ctN p (w + 1) 144) y l).2 = gouW (fun v => ctN (updN p b 0) v 144) w (ginW (w + 1) (ctN (updN p b 0) (w + 1) 144) (y + nI (p b)) (l + 1)).1 (ginW (w + 1) (ctN (updN p b 0) (w + 1) 144) (y + nI (p b)) (l + 1)).2
            have e1 : ginW (w + 1) (ctN p (w + 1) 144) y l = ginW (w + 1) (ctN (updN p b 0) (w + 1) 144) (y + nI (p b)) (l + 1) := by
              rw [hu, eb]
              exact if_neg c
            rw [e1]
            refine gouW_cong w (fun v v1 v2 => ?_) _ _
            refine ctN_cong 144 (fun j hj => ?_)
            by_cases e : j = b
            · have e0 : updN p b 0 j = 0 := if_pos e
              rw [e0, e, eb]
              exact ⟨fun q => by omega, fun q => by omega⟩
            · have e0 : updN p b 0 j = p j := if_neg e
              rw [e0]
          obtain ⟨f2, a1, a2⟩ := ihk (updN p b 0) (uA f 23 (upd (f 23) b 0)) (y + nI (p b)) (l + 1) (fun j hj => by
            by_cases e : j = b
            · have e0 : updN p b 0 j = 0 := if_pos e
              rw [e0]
              omega
            · have e0 : updN p b 0 j = p j := if_neg e
              rw [e0]
              exact hw j hj) (fun j hj => by
            rw [uA_self]
            by_cases e : j = b
            · have e0 : updN p b 0 j = 0 := if_pos e
              rw [e0, e, pk_us]
              rfl
            · have e0 : updN p b 0 j = p j := if_neg e
              rw [e0, pk_un e]
              exact hf j hj) (by omega)
          rw [← eg] at a2
          exact ⟨f2, fun k hk => (a1 k hk).trans (uA_ne hk), a2⟩
        -- the first greatest, told beforehand
        obtain ⟨b, b1, b2⟩ : ∃ b, b < 144 ∧ frB p 144 = b := ⟨_, frB_lt p 143, rfl⟩
        have eb := key b b1 (fun j hj => by rw [← b2]; exact frB_ge p 143 j hj)
        obtain ⟨f2, a1, a2⟩ := go b b1 eb
        refine ⟨f2, a1, fun o3 o4 => vcc29_59_29 d _ _ _ _ _ _ _ ⟨fun q => absurd q c, fun _ => ?_⟩⟩
        refine rGreat d (p := p) (fun j hj => ⟨by have := hw j hj; omega, hf j hj⟩) y l _ ?_ 143 1 rfl (by decide) 0 (by decide) (frB_1 p)
        rw [b2]
        exact ⟨fun _ => a2, fun q => by omega⟩
theorem rTurned (hL : LOK L n) (d : Nat) {nv : Nat} {z zr zr' : Nat → Int32} {f r : Nat → FA} (h : RLn nv z f zr r) (hM : LRM r L n) : ∃ r2, (∀ k, k ≠ 21 → k ≠ 22 → k ≠ 23 → r2 k = r k) ∧ mcall (d + 7) 59 [vR 0] (LR zr' r) = some (some (vI (ansW (gouW (fun w => ctN (dnN (fun i => r 1 (211 + i)) (wtV L n (f 4) (r 1) (r 5) (r 6))) w 144) 99 (sgS (fun i => r 1 (211 + i)) (wtV L n (f 4) (r 1) (r 5) (r 6)) 144) 0))), LR zr' r2) := by
  have hn := h.1.1
  have hm := h.1.2.2.2.1
  have lp : ∀ t k, k + t = 144 → ∀ r', (∀ k, k ≠ 21 → k ≠ 22 → k ≠ 23 → r' k = r k) → (∀ j, j < k → r' 23 j = nI (dnN (fun i => r 1 (211 + i)) (wtV L n (f 4) (r 1) (r 5) (r 6)) j)) → ∀ y o4, ∃ r2, (∀ k, k ≠ 21 → k ≠ 22 → k ≠ 23 → r2 k = r k) ∧ RC (mcall (d + 6)) (mP 59) 7 [some (vR 0), some (vI y), some (vI (nI 0)), some (vI (nI k)), o4] [] (LR zr' r') (some (vI (ansW (gouW (fun w => ctN (dnN (fun i => r 1 (211 + i)) (wtV L n (f 4) (r 1) (r 5) (r 6))) w 144) 99 y 0))), LR zr' r2) := by
    intro t
    induction t with
    | zero =>
      intro k hk r' h1 h2 y o4
      obtain rfl : k = 144 := by omega
      obtain ⟨r2, a1, a2⟩ := rHeavy (d + 1) (z := zr') 99 (Nat.le_refl _) _ (dnN (fun i => r 1 (211 + i)) (wtV L n (f 4) (r 1) (r 5) (r 6))) r' y 0 (fun j hj => by
        obtain ⟨g1, g2⟩ := wtV_b L n (f 4) (r 1) (r 5) (r 6) j
        obtain ⟨n1, n2⟩ := nI_of99 g1 g2
        show (if r 1 (211 + j) = -1 then (I (wtV L n (f 4) (r 1) (r 5) (r 6) j)).toNat else 0) ≤ 99
        split <;> omega) h2 rfl
      exact ⟨r2, fun k q1 q2 q3 => (a1 k q3).trans (h1 k q1 q2 q3), vcc7_59_7 (d + 1) _ _ _ _ _ _ _ ⟨fun _ => a2 _ _, fun q => absurd q (by decide)⟩⟩
    | succ t ih =>
      intro k hk r' h1 h2 y o4
      have k144 : k < 144 := by omega
      have ik : I (nI k) = k := I_nI (by omega)
      have e211 : (211 : Int32) + nI k = nI (211 + k) := nI_add 211 k
      have r1 : r' 1 = r 1 := h1 1 (by decide) (by decide) (by decide)
      obtain ⟨v1, v2, v3⟩ := (hm k k144).val hn
      by_cases cw : r 1 (211 + k) = -1
      · have cm : ¬ f 4 k = 0 := fun q => by
          rw [q] at v1
          rw [← v1] at cw
          exact absurd cw (by decide)
        obtain ⟨r3, b1, b2⟩ := rWgt (z := z) hL (d + 1) k144 (zr' := zr') h (hM.off (fun k q1 q2 => h1 k (by omega) (by omega) (by omega))) cm r1 (h1 5 (by decide) (by decide) (by decide)) (h1 6 (by decide) (by decide) (by decide))
        obtain ⟨g1, g2⟩ := wtV_b L n (f 4) (r 1) (r 5) (r 6) k
        obtain ⟨n1, n2⟩ := nI_of99 g1 g2
        obtain ⟨r2, a1, a2⟩ := ih (k + 1) (by omega) (uA r3 23 (upd (r3 23) k (wtV L n (f 4) (r 1) (r 5) (r 6) k))) (fun k q1 q2 q3 => (uA_ne q3).trans ((b2 k q1 q2).trans (h1 k q1 q2 q3))) (fun j hj => by
          rw [uA_self]
          by_cases e : j = k
          · rw [e, pk_us]
            show _ = nI (if r 1 (211 + k) = -1 then (I (wtV L n (f 4) (r 1) (r 5) (r 6) k)).toNat else 0)
            rw [if_pos cw]
            exact n1
          · rw [pk_un e, b2 23 (by decide) (by decide)]
            exact h2 j (by omega)) y o4
        refine ⟨r2, a1, vcc7_59_7 (d + 1) _ _ _ _ _ _ _ ⟨fun q => by omega, fun _ => ?_⟩⟩
        rw [e211, nI_s k, ix_nI (by omega), ix_nI (by omega), r1]
        exact ⟨pin_nI (by omega) (by omega), fun q => absurd cw q, fun _ => ⟨_, _, _, b1, pin_nI (by omega) (by omega), a2⟩⟩
      · obtain ⟨r2, a1, a2⟩ := ih (k + 1) (by omega) (uA r' 23 (upd (r' 23) k 0)) (fun k q1 q2 q3 => (uA_ne q3).trans (h1 k q1 q2 q3)) (fun j hj => by
          rw [uA_self]
          by_cases e : j = k
          · rw [e, pk_us]
            show _ = nI (if r 1 (211 + k) = -1 then (I (wtV L n (f 4) (r 1) (r 5) (r 6) k)).toNat else 0)
            rw [if_neg cw]
            rfl
          · rw [pk_un e]
            exact h2 j (by omega)) y o4
        refine ⟨r2, a1, vcc7_59_7 (d + 1) _ _ _ _ _ _ _ ⟨fun q => by omega, fun _ => ?_⟩⟩
        rw [e211, nI_s k, ix_nI (by omega), ix_nI (by omega), r1]
        exact ⟨pin_nI (by omega) (by omega), fun _ => ⟨pin_nI (by omega) (by omega), a2⟩, fun q => absurd q cw⟩
  obtain ⟨r1, s1, s2⟩ := rSum (z := z) hL d (zr' := zr') h hM
  obtain ⟨r2, a1, a2⟩ := lp 144 0 rfl r1 (fun k q1 q2 _ => s1 k q1 q2) (fun j hj => absurd hj (Nat.not_lt_zero j)) (sgS (fun i => r 1 (211 + i)) (wtV L n (f 4) (r 1) (r 5) (r 6)) 144) none
  exact ⟨r2, a1, mcall_i (mq59 (cu := [])).2.2 rfl (vc59_0 (d + 1) none none none none zr' r _ ⟨_, _, _, s2, a2⟩)⟩
end TURR
