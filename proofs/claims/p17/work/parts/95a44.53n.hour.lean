/-! the thumbs, the evening, an hour: now -/
section TWs
variable {W : TXW}
set_option maxRecDepth 100000 in
theorem bn_2_1 (call : QC FA) (x1 : Int32) (o2 : Option PV) (o3 : Option PV) (z : Nat → Int32) (f : Nat → FA) (F : Nat) : xnG call 2 (F + 5) 0 [some (vR 4), some (vI x1), o2, o3] [] (LW W z f) = xnG call 2 F 5 [some (vR 4), some (vI x1), some (vI 0), some (vI (nI 144))] [] (LW W z f) := rfl
theorem vcn_2_0 (call : QC FA) (x1 : Int32) (o2 : Option PV) (o3 : Option PV) (z : Nat → Int32) (f : Nat → FA) (res : Option PV × QH FA) (H : XC call (mP 2) 5 [some (vR 4), some (vI x1), some (vI 0), some (vI (nI 144))] [] (LW W z f) res) : XC call (mP 2) 0 [some (vR 4), some (vI x1), o2, o3] [] (LW W z f) res := by
  refine xc_b (i' := 5) (ls' := [some (vR 4), some (vI x1), some (vI 0), some (vI (nI 144))]) (st' := []) (L' := LW W z f) 5 (bn_2_1 call x1 o2 o3 z f) ?_
  exact H
set_option maxRecDepth 100000 in
theorem bn_c5_2_1 (call : QC FA) (x1 : Int32) (x2 : Int32) (x3 : Int32) (L : QH FA) (F : Nat) : xnG call 2 (F + 2) 5 [some (vR 4), some (vI x1), some (vI x2), some (vI x3)] [] L = xnG call 2 F 7 [some (vR 4), some (vI x1), some (vI x2), some (vI x3)] [vI x3, vI x2] L := rfl
set_option maxRecDepth 100000 in
theorem bn_c5_2_2 (call : QC FA) (x y : Int32) (ls : List (Option PV)) (L : QH FA) (F : Nat) : xnG call 2 (F + 1) 7 ls [vI y, vI x] L = bif pcmp 3 x y then xnG call 2 F 14 ls [] L else xnG call 2 F 8 ls [] L := rfl
set_option maxRecDepth 100000 in
theorem bn_c5_2_3 (call : QC FA) (ls : List (Option PV)) (L : QH FA) (F : Nat) : xnG call 2 (F + 1) 14 ls [] L = some (none, L) := rfl
set_option maxRecDepth 100000 in
theorem bn_c5_2_4 (call : QC FA) (x1 : Int32) (x2 : Int32) (x3 : Int32) (L : QH FA) (F : Nat) : xnG call 2 (F + 3) 8 [some (vR 4), some (vI x1), some (vI x2), some (vI x3)] [] L = xnG call 2 F 11 [some (vR 4), some (vI x1), some (vI x2), some (vI x3)] [vI x1, vI x2, vR 4] L := rfl
set_option maxRecDepth 100000 in
theorem bn_c5_2_5 (call : QC FA) (x y : Int32) (ls : List (Option PV)) (z : Nat → Int32) (f : Nat → FA) (F : Nat) : xnG call 2 (F + 1) 11 ls [vI y, vI x, vR 4] (LW W z f) = bif (Nat.beq 0 0 && pin x 144) then xnG call 2 F 12 ls [] (LW W z (uA f 4 (upd (f 4) (ix x) y))) else none := rfl
set_option maxRecDepth 100000 in
theorem bn_c5_2_6 (call : QC FA) (x1 : Int32) (x2 : Int32) (x3 : Int32) (L : QH FA) (F : Nat) : xnG call 2 (F + 1) 12 [some (vR 4), some (vI x1), some (vI x2), some (vI x3)] [] L = xnG call 2 F 13 [some (vR 4), some (vI x1), some (vI (x2 + 1)), some (vI x3)] [] L := rfl
set_option maxRecDepth 100000 in
theorem bn_c5_2_7 (call : QC FA) (x1 : Int32) (x2 : Int32) (x3 : Int32) (L : QH FA) (F : Nat) : xnG call 2 (F + 1) 13 [some (vR 4), some (vI x1), some (vI x2), some (vI x3)] [] L = xnG call 2 F 5 [some (vR 4), some (vI x1), some (vI x2), some (vI x3)] [] L := rfl
theorem vcn_c5_2_5 (call : QC FA) (x1 : Int32) (x2 : Int32) (x3 : Int32) (z : Nat → Int32) (f : Nat → FA) (res : Option PV × QH FA) (H : ((I x3 ≤ I x2 → res = (none, LW W z f)) ∧ (I x2 < I x3 → (pin x2 144 = true ∧ XC call (mP 2) 5 [some (vR 4), some (vI x1), some (vI (x2 + 1)), some (vI x3)] [] (LW W z (uA f 4 (upd (f 4) (ix x2) x1))) res)))) : XC call (mP 2) 5 [some (vR 4), some (vI x1), some (vI x2), some (vI x3)] [] (LW W z f) res := by
  refine xc_b (i' := 7) (ls' := [some (vR 4), some (vI x1), some (vI x2), some (vI x3)]) (st' := [vI x3, vI x2]) (L' := LW W z f) 2 (bn_c5_2_1 call x1 x2 x3 _) ?_
  refine xc_if (it := 14) (ie := 8) (ls' := [some (vR 4), some (vI x1), some (vI x2), some (vI x3)]) (st' := []) (bn_c5_2_2 call x2 x3 _ _) (fun q1 => ?_) (fun q1 => ?_)
  · have H := H.1 (cI3t q1 rfl rfl)
    subst H
    exact xc_ret (bn_c5_2_3 call _ _)
  · have H := H.2 (cI3f q1 rfl rfl)
    refine xc_b (i' := 11) (ls' := [some (vR 4), some (vI x1), some (vI x2), some (vI x3)]) (st' := [vI x1, vI x2, vR 4]) (L' := LW W z f) 3 (bn_c5_2_4 call x1 x2 x3 _) ?_
    obtain ⟨g1, H⟩ := H
    refine xc_g (i' := 12) (ls' := [some (vR 4), some (vI x1), some (vI x2), some (vI x3)]) (st' := []) (L' := LW W z (uA f 4 (upd (f 4) (ix x2) x1))) (bn_c5_2_5 call x2 x1 _ z f) (pinG g1) ?_
    refine xc_b (i' := 13) (ls' := [some (vR 4), some (vI x1), some (vI (x2 + 1)), some (vI x3)]) (st' := []) (L' := LW W z (uA f 4 (upd (f 4) (ix x2) x1))) 1 (bn_c5_2_6 call x1 x2 x3 _) ?_
    refine xc_b (i' := 5) (ls' := [some (vR 4), some (vI x1), some (vI (x2 + 1)), some (vI x3)]) (st' := []) (L' := LW W z (uA f 4 (upd (f 4) (ix x2) x1))) 1 (bn_c5_2_7 call x1 (x2 + 1) x3 _) ?_
    exact H
set_option maxRecDepth 100000 in
theorem bn_88_1 (call : QC FA) (z : Nat → Int32) (f : Nat → FA) (F : Nat) : xnG call 88 (F + 3) 0 [some (vR 2)] [] (LW W z f) = xnG call 88 F 3 [some (vR 2)] [vI 0, vR 4] (LW W z f) := rfl
set_option maxRecDepth 100000 in
theorem bn_88_2 (call : QC FA) (a1 : Int32) (ls : List (Option PV)) (z : Nat → Int32) (f : Nat → FA) (F : Nat) : xnG call 88 (F + 1) 3 ls [vI a1, vR 4] (LW W z f) = cbd (call 2 [vR 4, vI a1] (LW W z f)) (fun r L' => xnG call 88 F 4 ls (r.toList ++ []) L') := pcZ (ih := xnG call 88 F) (call := call) (a := 2) (b := 2) (t := 4) (ls := ls) (As := [vR 4, vI a1]) (st' := []) (L := LW W z f) rfl rfl
set_option maxRecDepth 100000 in
theorem bn_88_3 (call : QC FA) (ls : List (Option PV)) (L : QH FA) (F : Nat) : xnG call 88 (F + 1) 4 ls [] L = some (none, L) := rfl
theorem vcn_88_0 (call : QC FA) (z : Nat → Int32) (f : Nat → FA) (res : Option PV × QH FA) (H : (∃ (z1 : Nat → Int32) (f1 : Nat → FA), call 2 [vR 4, vI 0] (LW W z f) = some (none, LW W z1 f1) ∧ res = (none, LW W z1 f1))) : XC call (mP 88) 0 [some (vR 2)] [] (LW W z f) res := by
  refine xc_b (i' := 3) (ls' := [some (vR 2)]) (st' := [vI 0, vR 4]) (L' := LW W z f) 3 (bn_88_1 call z f) ?_
  obtain ⟨z1, f1, hc, H⟩ := H
  refine xc_call (t := 4) (ls' := [some (vR 2)]) (st' := []) (bn_88_2 call 0 _ z f) hc ?_
  show XC call (mP 88) 4 [some (vR 2)] [] (LW W z1 f1) res
  subst H
  exact xc_ret (bn_88_3 call _ _)
set_option maxRecDepth 100000 in
theorem bn_102_1 (call : QC FA) (o1 : Option PV) (o2 : Option PV) (o3 : Option PV) (o4 : Option PV) (z : Nat → Int32) (f : Nat → FA) (F : Nat) : xnG call 102 (F + 3) 0 [some (vR 8), o1, o2, o3, o4] [] (LW W z f) = xnG call 102 F 3 [some (vR 8), o1, o2, o3, o4] [vI 1, vR 7] (LW W z f) := rfl
set_option maxRecDepth 100000 in
theorem bn_102_2 (hW : WTX W) (call : QC FA) (hk : 1 < 4) (hp : pin 1 4 = true) (hc : ix 1 = 1) (ls : List (Option PV)) (z : Nat → Int32) (f : Nat → FA) (F : Nat) : xnG call 102 (F + 1) 3 ls [vI 1, vR 7] (LW W z f) = xnG call 102 F 4 ls [vR (wJ W 1 + 42)] (LW W z f) := gx_t (ih := xnG call 102 F) (t := 4) (st := []) hW hk hc hp
set_option maxRecDepth 100000 in
theorem bn_102_3 (call : QC FA) (o1 : Option PV) (o2 : Option PV) (o3 : Option PV) (o4 : Option PV) (L : QH FA) (F : Nat) : xnG call 102 (F + 5) 4 [some (vR 8), o1, o2, o3, o4] [vR (wJ W 1 + 42)] L = xnG call 102 F 9 [some (vR 8), some (vR (wJ W 1 + 42)), some (vI 0), some (vI 0), o4] [] L := rfl
theorem vcn_102_0 (hW : WTX W) (call : QC FA) (o1 : Option PV) (o2 : Option PV) (o3 : Option PV) (o4 : Option PV) (z : Nat → Int32) (f : Nat → FA) (res : Option PV × QH FA) (H : XC call (mP 102) 9 [some (vR 8), some (vR (wJ W 1 + 42)), some (vI 0), some (vI 0), o4] [] (LW W z f) res) : XC call (mP 102) 0 [some (vR 8), o1, o2, o3, o4] [] (LW W z f) res := by
  refine xc_b (i' := 3) (ls' := [some (vR 8), o1, o2, o3, o4]) (st' := [vI 1, vR 7]) (L' := LW W z f) 3 (bn_102_1 call o1 o2 o3 o4 z f) ?_
  refine xc_b (i' := 4) (ls' := [some (vR 8), o1, o2, o3, o4]) (st' := [vR (wJ W 1 + 42)]) (L' := LW W z f) 1 (bn_102_2 hW call (by decide) (by decide) (by decide) _ z f) ?_
  refine xc_b (i' := 9) (ls' := [some (vR 8), some (vR (wJ W 1 + 42)), some (vI 0), some (vI 0), o4]) (st' := []) (L' := LW W z f) 5 (bn_102_3 call o1 o2 o3 o4 _) ?_
  exact H
set_option maxRecDepth 100000 in
theorem bn_c9_102_1 (call : QC FA) (x2 : Int32) (x3 : Int32) (o4 : Option PV) (L : QH FA) (F : Nat) : xnG call 102 (F + 2) 9 [some (vR 8), some (vR (wJ W 1 + 42)), some (vI x2), some (vI x3), o4] [] L = xnG call 102 F 11 [some (vR 8), some (vR (wJ W 1 + 42)), some (vI x2), some (vI x3), o4] [vR (wJ W 1 + 42), vI x3] L := rfl
set_option maxRecDepth 100000 in
theorem bn_c9_102_2 (hW : WTX W) (hk : 1 < 4) (call : QC FA) (s0 : Int32) (ls : List (Option PV)) (z : Nat → Int32) (f : Nat → FA) (F : Nat) : xnG call 102 (F + 1) 11 ls [vR (wJ W 1 + 42), vI s0] (LW W z f) = xnG call 102 F 12 ls [vI (wn W 1), vI s0] (LW W z f) := gt_1 (ih := xnG call 102 F) (t := 12) (st := [vI s0]) hW hk
set_option maxRecDepth 100000 in
theorem bn_c9_102_3 (call : QC FA) (x y : Int32) (ls : List (Option PV)) (L : QH FA) (F : Nat) : xnG call 102 (F + 1) 12 ls [vI y, vI x] L = bif pcmp 3 x y then xnG call 102 F 48 ls [] L else xnG call 102 F 13 ls [] L := rfl
set_option maxRecDepth 100000 in
theorem bn_c9_102_4 (call : QC FA) (x2 : Int32) (x3 : Int32) (o4 : Option PV) (L : QH FA) (F : Nat) : xnG call 102 (F + 1) 48 [some (vR 8), some (vR (wJ W 1 + 42)), some (vI x2), some (vI x3), o4] [] L = xnG call 102 F 49 [some (vR 8), some (vR (wJ W 1 + 42)), some (vI x2), some (vI x3), o4] [vI x2] L := rfl
set_option maxRecDepth 100000 in
theorem bn_c9_102_5 (call : QC FA) (x : Int32) (ls : List (Option PV)) (L : QH FA) (F : Nat) : xnG call 102 (F + 1) 49 ls [vI x] L = some (some (vI x), L) := rfl
set_option maxRecDepth 100000 in
theorem bn_c9_102_6 (call : QC FA) (x2 : Int32) (x3 : Int32) (o4 : Option PV) (L : QH FA) (F : Nat) : xnG call 102 (F + 3) 13 [some (vR 8), some (vR (wJ W 1 + 42)), some (vI x2), some (vI x3), o4] [] L = xnG call 102 F 16 [some (vR 8), some (vR (wJ W 1 + 42)), some (vI x2), some (vI x3), o4] [vI 0, vI x3, vR (wJ W 1 + 42)] L := rfl
set_option maxRecDepth 100000 in
theorem bn_c9_102_7 (hW : WTX W) (hk : 1 < 4) (call : QC FA) (a0 : Int32) (a1 : Int32) (ls : List (Option PV)) (z : Nat → Int32) (f : Nat → FA) (F : Nat) : xnG call 102 (F + 1) 16 ls [vI a1, vI a0, vR (wJ W 1 + 42)] (LW W z f) = cbd (call 18 [vR (wJ W 1 + 42), vI a0, vI a1] (LW W z f)) (fun r L' => xnG call 102 F 17 ls (r.toList ++ []) L') := pcY (ih := xnG call 102 F) (call := call) (a := 18) (b := 2) (v := 8) (t := 17) (x := wJ W 1 + 42) (ls := ls) (As := [vI a0, vI a1]) (st' := []) (L := LW W z f) rfl (gj_t hW hk) rfl
set_option maxRecDepth 100000 in
theorem bn_c9_102_8 (call : QC FA) (x2 : Int32) (x3 : Int32) (o4 : Option PV) (s0 : Int32) (L : QH FA) (F : Nat) : xnG call 102 (F + 4) 17 [some (vR 8), some (vR (wJ W 1 + 42)), some (vI x2), some (vI x3), o4] [vI s0] L = xnG call 102 F 21 [some (vR 8), some (vR (wJ W 1 + 42)), some (vI x2), some (vI x3), some (vI s0)] [vI 1, vI x3, vR (wJ W 1 + 42)] L := rfl
set_option maxRecDepth 100000 in
theorem bn_c9_102_9 (hW : WTX W) (hk : 1 < 4) (call : QC FA) (a0 : Int32) (a1 : Int32) (ls : List (Option PV)) (z : Nat → Int32) (f : Nat → FA) (F : Nat) : xnG call 102 (F + 1) 21 ls [vI a1, vI a0, vR (wJ W 1 + 42)] (LW W z f) = cbd (call 18 [vR (wJ W 1 + 42), vI a0, vI a1] (LW W z f)) (fun r L' => xnG call 102 F 22 ls (r.toList ++ []) L') := pcY (ih := xnG call 102 F) (call := call) (a := 18) (b := 2) (v := 8) (t := 22) (x := wJ W 1 + 42) (ls := ls) (As := [vI a0, vI a1]) (st' := []) (L := LW W z f) rfl (gj_t hW hk) rfl
set_option maxRecDepth 100000 in
theorem bn_c9_102_10 (call : QC FA) (x2 : Int32) (x3 : Int32) (x4 : Int32) (s0 : Int32) (z : Nat → Int32) (f : Nat → FA) (F : Nat) : xnG call 102 (F + 3) 22 [some (vR 8), some (vR (wJ W 1 + 42)), some (vI x2), some (vI x3), some (vI x4)] [vI s0] (LW W z f) = xnG call 102 F 25 [some (vR 8), some (vR (wJ W 1 + 42)), some (vI x2), some (vI x3), some (vI x4)] [vI (z 24), vI s0] (LW W z f) := rfl
set_option maxRecDepth 100000 in
theorem bn_c9_102_11 (call : QC FA) (x y : Int32) (ls : List (Option PV)) (L : QH FA) (F : Nat) : xnG call 102 (F + 1) 25 ls [vI y, vI x] L = bif pcmp 1 x y then xnG call 102 F 46 ls [] L else xnG call 102 F 26 ls [] L := rfl
set_option maxRecDepth 100000 in
theorem bn_c9_102_12 (call : QC FA) (x2 : Int32) (x3 : Int32) (x4 : Int32) (L : QH FA) (F : Nat) : xnG call 102 (F + 1) 46 [some (vR 8), some (vR (wJ W 1 + 42)), some (vI x2), some (vI x3), some (vI x4)] [] L = xnG call 102 F 47 [some (vR 8), some (vR (wJ W 1 + 42)), some (vI x2), some (vI (x3 + 1)), some (vI x4)] [] L := rfl
set_option maxRecDepth 100000 in
theorem bn_c9_102_13 (call : QC FA) (x2 : Int32) (x3 : Int32) (x4 : Int32) (L : QH FA) (F : Nat) : xnG call 102 (F + 1) 47 [some (vR 8), some (vR (wJ W 1 + 42)), some (vI x2), some (vI x3), some (vI x4)] [] L = xnG call 102 F 9 [some (vR 8), some (vR (wJ W 1 + 42)), some (vI x2), some (vI x3), some (vI x4)] [] L := rfl
set_option maxRecDepth 100000 in
theorem bn_c9_102_14 (call : QC FA) (x2 : Int32) (x3 : Int32) (x4 : Int32) (z : Nat → Int32) (f : Nat → FA) (F : Nat) : xnG call 102 (F + 3) 26 [some (vR 8), some (vR (wJ W 1 + 42)), some (vI x2), some (vI x3), some (vI x4)] [] (LW W z f) = xnG call 102 F 29 [some (vR 8), some (vR (wJ W 1 + 42)), some (vI x2), some (vI x3), some (vI x4)] [vI x4, vR 2] (LW W z f) := rfl
set_option maxRecDepth 100000 in
theorem bn_c9_102_15 (call : QC FA) (a0 : Int32) (ls : List (Option PV)) (z : Nat → Int32) (f : Nat → FA) (F : Nat) : xnG call 102 (F + 1) 29 ls [vI a0, vR 2] (LW W z f) = cbd (call 84 [vR 2, vI a0] (LW W z f)) (fun r L' => xnG call 102 F 30 ls (r.toList ++ []) L') := pcY (ih := xnG call 102 F) (call := call) (a := 84) (b := 1) (v := 0) (t := 30) (x := 2) (ls := ls) (As := [vI a0]) (st' := []) (L := LW W z f) rfl rfl rfl
set_option maxRecDepth 100000 in
theorem bn_c9_102_16 (call : QC FA) (x : Int32) (ls : List (Option PV)) (L : QH FA) (F : Nat) : xnG call 102 (F + 1) 30 ls [vI x] L = bif pcmp 0 x 0 then xnG call 102 F 46 ls [] L else xnG call 102 F 31 ls [] L := rfl
set_option maxRecDepth 100000 in
theorem bn_c9_102_17 (call : QC FA) (x2 : Int32) (x3 : Int32) (x4 : Int32) (L : QH FA) (F : Nat) : xnG call 102 (F + 3) 31 [some (vR 8), some (vR (wJ W 1 + 42)), some (vI x2), some (vI x3), some (vI x4)] [] L = xnG call 102 F 34 [some (vR 8), some (vR (wJ W 1 + 42)), some (vI x2), some (vI x3), some (vI x4)] [vI x4, vR 8, vR 8] L := rfl
set_option maxRecDepth 100000 in
theorem bn_c9_102_18 (call : QC FA) (a0 : Int32) (ls : List (Option PV)) (z : Nat → Int32) (f : Nat → FA) (F : Nat) : xnG call 102 (F + 1) 34 ls [vI a0, vR 8, vR 8] (LW W z f) = cbd (call 92 [vR 8, vI a0] (LW W z f)) (fun r L' => xnG call 102 F 35 ls (r.toList ++ [vR 8]) L') := pcY (ih := xnG call 102 F) (call := call) (a := 92) (b := 1) (v := 1) (t := 35) (x := 8) (ls := ls) (As := [vI a0]) (st' := [vR 8]) (L := LW W z f) rfl rfl rfl
set_option maxRecDepth 100000 in
theorem bn_c9_102_19 (call : QC FA) (a0 : Int32) (ls : List (Option PV)) (z : Nat → Int32) (f : Nat → FA) (F : Nat) : xnG call 102 (F + 1) 35 ls [vI a0, vR 8] (LW W z f) = cbd (call 93 [vR 8, vI a0] (LW W z f)) (fun r L' => xnG call 102 F 36 ls (r.toList ++ []) L') := pcY (ih := xnG call 102 F) (call := call) (a := 93) (b := 1) (v := 1) (t := 36) (x := 8) (ls := ls) (As := [vI a0]) (st' := []) (L := LW W z f) rfl rfl rfl
set_option maxRecDepth 100000 in
theorem bn_c9_102_20 (call : QC FA) (x : Int32) (ls : List (Option PV)) (L : QH FA) (F : Nat) : xnG call 102 (F + 1) 36 ls [vI x] L = bif pcmp 0 x 0 then xnG call 102 F 46 ls [] L else xnG call 102 F 37 ls [] L := rfl
set_option maxRecDepth 100000 in
theorem bn_c9_102_21 (call : QC FA) (x2 : Int32) (x3 : Int32) (x4 : Int32) (L : QH FA) (F : Nat) : xnG call 102 (F + 5) 37 [some (vR 8), some (vR (wJ W 1 + 42)), some (vI x2), some (vI x3), some (vI x4)] [] L = xnG call 102 F 42 [some (vR 8), some (vR (wJ W 1 + 42)), some (vI x2), some (vI x3), some (vI x4)] [vI 2, vI x3, vR (wJ W 1 + 42), vI x4, vR 8] L := rfl
set_option maxRecDepth 100000 in
theorem bn_c9_102_22 (hW : WTX W) (hk : 1 < 4) (call : QC FA) (a0 : Int32) (a1 : Int32) (s0 : Int32) (ls : List (Option PV)) (z : Nat → Int32) (f : Nat → FA) (F : Nat) : xnG call 102 (F + 1) 42 ls [vI a1, vI a0, vR (wJ W 1 + 42), vI s0, vR 8] (LW W z f) = cbd (call 18 [vR (wJ W 1 + 42), vI a0, vI a1] (LW W z f)) (fun r L' => xnG call 102 F 43 ls (r.toList ++ [vI s0, vR 8]) L') := pcY (ih := xnG call 102 F) (call := call) (a := 18) (b := 2) (v := 8) (t := 43) (x := wJ W 1 + 42) (ls := ls) (As := [vI a0, vI a1]) (st' := [vI s0, vR 8]) (L := LW W z f) rfl (gj_t hW hk) rfl
set_option maxRecDepth 100000 in
theorem bn_c9_102_23 (call : QC FA) (a0 : Int32) (a1 : Int32) (ls : List (Option PV)) (z : Nat → Int32) (f : Nat → FA) (F : Nat) : xnG call 102 (F + 1) 43 ls [vI a1, vI a0, vR 8] (LW W z f) = cbd (call 94 [vR 8, vI a0, vI a1] (LW W z f)) (fun r L' => xnG call 102 F 44 ls (r.toList ++ []) L') := pcY (ih := xnG call 102 F) (call := call) (a := 94) (b := 2) (v := 1) (t := 44) (x := 8) (ls := ls) (As := [vI a0, vI a1]) (st' := []) (L := LW W z f) rfl rfl rfl
set_option maxRecDepth 100000 in
theorem bn_c9_102_24 (call : QC FA) (x2 : Int32) (x3 : Int32) (x4 : Int32) (s0 : Int32) (L : QH FA) (F : Nat) : xnG call 102 (F + 1) 44 [some (vR 8), some (vR (wJ W 1 + 42)), some (vI x2), some (vI x3), some (vI x4)] [vI s0] L = xnG call 102 F 45 [some (vR 8), some (vR (wJ W 1 + 42)), some (vI x2), some (vI x3), some (vI x4)] [] L := rfl
set_option maxRecDepth 100000 in
theorem bn_c9_102_25 (call : QC FA) (x2 : Int32) (x3 : Int32) (x4 : Int32) (L : QH FA) (F : Nat) : xnG call 102 (F + 1) 45 [some (vR 8), some (vR (wJ W 1 + 42)), some (vI x2), some (vI x3), some (vI x4)] [] L = xnG call 102 F 46 [some (vR 8), some (vR (wJ W 1 + 42)), some (vI (x2 + 1)), some (vI x3), some (vI x4)] [] L := rfl
theorem vcn_c9_102_9 (hW : WTX W) (call : QC FA) (x2 : Int32) (x3 : Int32) (o4 : Option PV) (z : Nat → Int32) (f : Nat → FA) (res : Option PV × QH FA) (H : ((I (wn W 1) ≤ I x3 → res = (some (vI x2), LW W z f)) ∧ (I x3 < I (wn W 1) → (∃ (r1 : Int32) (z1 : Nat → Int32) (f1 : Nat → FA), call 18 [vR (wJ W 1 + 42), vI x3, vI 0] (LW W z f) = some (some (vI r1), LW W z1 f1) ∧ (∃ (r2 : Int32) (z2 : Nat → Int32) (f2 : Nat → FA), call 18 [vR (wJ W 1 + 42), vI x3, vI 1] (LW W z1 f1) = some (some (vI r2), LW W z2 f2) ∧ ((¬ r2 = z2 24 → XC call (mP 102) 9 [some (vR 8), some (vR (wJ W 1 + 42)), some (vI x2), some (vI (x3 + 1)), some (vI r1)] [] (LW W z2 f2) res) ∧ (r2 = z2 24 → (∃ (r3 : Int32) (z3 : Nat → Int32) (f3 : Nat → FA), call 84 [vR 2, vI r1] (LW W z2 f2) = some (some (vI r3), LW W z3 f3) ∧ ((r3 = 0 → XC call (mP 102) 9 [some (vR 8), some (vR (wJ W 1 + 42)), some (vI x2), some (vI (x3 + 1)), some (vI r1)] [] (LW W z3 f3) res) ∧ (¬ r3 = 0 → (∃ (r4 : Int32) (z4 : Nat → Int32) (f4 : Nat → FA), call 92 [vR 8, vI r1] (LW W z3 f3) = some (some (vI r4), LW W z4 f4) ∧ (∃ (r5 : Int32) (z5 : Nat → Int32) (f5 : Nat → FA), call 93 [vR 8, vI r4] (LW W z4 f4) = some (some (vI r5), LW W z5 f5) ∧ ((r5 = 0 → XC call (mP 102) 9 [some (vR 8), some (vR (wJ W 1 + 42)), some (vI x2), some (vI (x3 + 1)), some (vI r1)] [] (LW W z5 f5) res) ∧ (¬ r5 = 0 → (∃ (r6 : Int32) (z6 : Nat → Int32) (f6 : Nat → FA), call 18 [vR (wJ W 1 + 42), vI x3, vI 2] (LW W z5 f5) = some (some (vI r6), LW W z6 f6) ∧ (∃ (r7 : Int32) (z7 : Nat → Int32) (f7 : Nat → FA), call 94 [vR 8, vI r1, vI r6] (LW W z6 f6) = some (some (vI r7), LW W z7 f7) ∧ XC call (mP 102) 9 [some (vR 8), some (vR (wJ W 1 + 42)), some (vI (x2 + 1)), some (vI (x3 + 1)), some (vI r1)] [] (LW W z7 f7) res)))))))))))))))) : XC call (mP 102) 9 [some (vR 8), some (vR (wJ W 1 + 42)), some (vI x2), some (vI x3), o4] [] (LW W z f) res := by
  refine xc_b (i' := 11) (ls' := [some (vR 8), some (vR (wJ W 1 + 42)), some (vI x2), some (vI x3), o4]) (st' := [vR (wJ W 1 + 42), vI x3]) (L' := LW W z f) 2 (bn_c9_102_1 call x2 x3 o4 _) ?_
  refine xc_b (i' := 12) (ls' := [some (vR 8), some (vR (wJ W 1 + 42)), some (vI x2), some (vI x3), o4]) (st' := [vI (wn W 1), vI x3]) (L' := LW W z f) 1 (bn_c9_102_2 hW (by decide) call x3 _ z f) ?_
  refine xc_if (it := 48) (ie := 13) (ls' := [some (vR 8), some (vR (wJ W 1 + 42)), some (vI x2), some (vI x3), o4]) (st' := []) (bn_c9_102_3 call x3 (wn W 1) _ _) (fun q1 => ?_) (fun q1 => ?_)
  · have H := H.1 (cI3t q1 rfl rfl)
    refine xc_b (i' := 49) (ls' := [some (vR 8), some (vR (wJ W 1 + 42)), some (vI x2), some (vI x3), o4]) (st' := [vI x2]) (L' := LW W z f) 1 (bn_c9_102_4 call x2 x3 o4 _) ?_
    subst H
    exact xc_ret (bn_c9_102_5 call _ _ _)
  · have H := H.2 (cI3f q1 rfl rfl)
    refine xc_b (i' := 16) (ls' := [some (vR 8), some (vR (wJ W 1 + 42)), some (vI x2), some (vI x3), o4]) (st' := [vI 0, vI x3, vR (wJ W 1 + 42)]) (L' := LW W z f) 3 (bn_c9_102_6 call x2 x3 o4 _) ?_
    obtain ⟨r1, z1, f1, hc, H⟩ := H
    refine xc_call (t := 17) (ls' := [some (vR 8), some (vR (wJ W 1 + 42)), some (vI x2), some (vI x3), o4]) (st' := []) (bn_c9_102_7 hW (by decide) call x3 0 _ z f) hc ?_
    show XC call (mP 102) 17 [some (vR 8), some (vR (wJ W 1 + 42)), some (vI x2), some (vI x3), o4] [vI r1] (LW W z1 f1) res
    refine xc_b (i' := 21) (ls' := [some (vR 8), some (vR (wJ W 1 + 42)), some (vI x2), some (vI x3), some (vI r1)]) (st' := [vI 1, vI x3, vR (wJ W 1 + 42)]) (L' := LW W z1 f1) 4 (bn_c9_102_8 call x2 x3 o4 r1 _) ?_
    obtain ⟨r2, z2, f2, hc, H⟩ := H
    refine xc_call (t := 22) (ls' := [some (vR 8), some (vR (wJ W 1 + 42)), some (vI x2), some (vI x3), some (vI r1)]) (st' := []) (bn_c9_102_9 hW (by decide) call x3 1 _ z1 f1) hc ?_
    show XC call (mP 102) 22 [some (vR 8), some (vR (wJ W 1 + 42)), some (vI x2), some (vI x3), some (vI r1)] [vI r2] (LW W z2 f2) res
    refine xc_b (i' := 25) (ls' := [some (vR 8), some (vR (wJ W 1 + 42)), some (vI x2), some (vI x3), some (vI r1)]) (st' := [vI (z2 24), vI r2]) (L' := LW W z2 f2) 3 (bn_c9_102_10 call x2 x3 r1 r2 z2 f2) ?_
    refine xc_if (it := 46) (ie := 26) (ls' := [some (vR 8), some (vR (wJ W 1 + 42)), some (vI x2), some (vI x3), some (vI r1)]) (st' := []) (bn_c9_102_11 call r2 (z2 24) _ _) (fun q2 => ?_) (fun q2 => ?_)
    · have H := H.1 (cI1t q2)
      refine xc_b (i' := 47) (ls' := [some (vR 8), some (vR (wJ W 1 + 42)), some (vI x2), some (vI (x3 + 1)), some (vI r1)]) (st' := []) (L' := LW W z2 f2) 1 (bn_c9_102_12 call x2 x3 r1 _) ?_
      refine xc_b (i' := 9) (ls' := [some (vR 8), some (vR (wJ W 1 + 42)), some (vI x2), some (vI (x3 + 1)), some (vI r1)]) (st' := []) (L' := LW W z2 f2) 1 (bn_c9_102_13 call x2 (x3 + 1) r1 _) ?_
      exact H
    · have H := H.2 (cI1f q2)
      refine xc_b (i' := 29) (ls' := [some (vR 8), some (vR (wJ W 1 + 42)), some (vI x2), some (vI x3), some (vI r1)]) (st' := [vI r1, vR 2]) (L' := LW W z2 f2) 3 (bn_c9_102_14 call x2 x3 r1 z2 f2) ?_
      obtain ⟨r3, z3, f3, hc, H⟩ := H
      refine xc_call (t := 30) (ls' := [some (vR 8), some (vR (wJ W 1 + 42)), some (vI x2), some (vI x3), some (vI r1)]) (st' := []) (bn_c9_102_15 call r1 _ z2 f2) hc ?_
      show XC call (mP 102) 30 [some (vR 8), some (vR (wJ W 1 + 42)), some (vI x2), some (vI x3), some (vI r1)] [vI r3] (LW W z3 f3) res
      refine xc_if (it := 46) (ie := 31) (ls' := [some (vR 8), some (vR (wJ W 1 + 42)), some (vI x2), some (vI x3), some (vI r1)]) (st' := []) (bn_c9_102_16 call r3 _ _) (fun q3 => ?_) (fun q3 => ?_)
      · have H := H.1 (cI0t q3)
        refine xc_b (i' := 47) (ls' := [some (vR 8), some (vR (wJ W 1 + 42)), some (vI x2), some (vI (x3 + 1)), some (vI r1)]) (st' := []) (L' := LW W z3 f3) 1 (bn_c9_102_12 call x2 x3 r1 _) ?_
        refine xc_b (i' := 9) (ls' := [some (vR 8), some (vR (wJ W 1 + 42)), some (vI x2), some (vI (x3 + 1)), some (vI r1)]) (st' := []) (L' := LW W z3 f3) 1 (bn_c9_102_13 call x2 (x3 + 1) r1 _) ?_
        exact H
      · have H := H.2 (cI0f q3)
        refine xc_b (i' := 34) (ls' := [some (vR 8), some (vR (wJ W 1 + 42)), some (vI x2), some (vI x3), some (vI r1)]) (st' := [vI r1, vR 8, vR 8]) (L' := LW W z3 f3) 3 (bn_c9_102_17 call x2 x3 r1 _) ?_
        obtain ⟨r4, z4, f4, hc, H⟩ := H
        refine xc_call (t := 35) (ls' := [some (vR 8), some (vR (wJ W 1 + 42)), some (vI x2), some (vI x3), some (vI r1)]) (st' := [vR 8]) (bn_c9_102_18 call r1 _ z3 f3) hc ?_
        show XC call (mP 102) 35 [some (vR 8), some (vR (wJ W 1 + 42)), some (vI x2), some (vI x3), some (vI r1)] [vI r4, vR 8] (LW W z4 f4) res
        obtain ⟨r5, z5, f5, hc, H⟩ := H
        refine xc_call (t := 36) (ls' := [some (vR 8), some (vR (wJ W 1 + 42)), some (vI x2), some (vI x3), some (vI r1)]) (st' := []) (bn_c9_102_19 call r4 _ z4 f4) hc ?_
        show XC call (mP 102) 36 [some (vR 8), some (vR (wJ W 1 + 42)), some (vI x2), some (vI x3), some (vI r1)] [vI r5] (LW W z5 f5) res
        refine xc_if (it := 46) (ie := 37) (ls' := [some (vR 8), some (vR (wJ W 1 + 42)), some (vI x2), some (vI x3), some (vI r1)]) (st' := []) (bn_c9_102_20 call r5 _ _) (fun q4 => ?_) (fun q4 => ?_)
        · have H := H.1 (cI0t q4)
          refine xc_b (i' := 47) (ls' := [some (vR 8), some (vR (wJ W 1 + 42)), some (vI x2), some (vI (x3 + 1)), some (vI r1)]) (st' := []) (L' := LW W z5 f5) 1 (bn_c9_102_12 call x2 x3 r1 _) ?_
          refine xc_b (i' := 9) (ls' := [some (vR 8), some (vR (wJ W 1 + 42)), some (vI x2), some (vI (x3 + 1)), some (vI r1)]) (st' := []) (L' := LW W z5 f5) 1 (bn_c9_102_13 call x2 (x3 + 1) r1 _) ?_
          exact H
        · have H := H.2 (cI0f q4)
          refine xc_b (i' := 42) (ls' := [some (vR 8), some (vR (wJ W 1 + 42)), some (vI x2), some (vI x3), some (vI r1)]) (st' := [vI 2, vI x3, vR (wJ W 1 + 42), vI r1, vR 8]) (L' := LW W z5 f5) 5 (bn_c9_102_21 call x2 x3 r1 _) ?_
          obtain ⟨r6, z6, f6, hc, H⟩ := H
          refine xc_call (t := 43) (ls' := [some (vR 8), some (vR (wJ W 1 + 42)), some (vI x2), some (vI x3), some (vI r1)]) (st' := [vI r1, vR 8]) (bn_c9_102_22 hW (by decide) call x3 2 r1 _ z5 f5) hc ?_
          show XC call (mP 102) 43 [some (vR 8), some (vR (wJ W 1 + 42)), some (vI x2), some (vI x3), some (vI r1)] [vI r6, vI r1, vR 8] (LW W z6 f6) res
          obtain ⟨r7, z7, f7, hc, H⟩ := H
          refine xc_call (t := 44) (ls' := [some (vR 8), some (vR (wJ W 1 + 42)), some (vI x2), some (vI x3), some (vI r1)]) (st' := []) (bn_c9_102_23 call r1 r6 _ z6 f6) hc ?_
          show XC call (mP 102) 44 [some (vR 8), some (vR (wJ W 1 + 42)), some (vI x2), some (vI x3), some (vI r1)] [vI r7] (LW W z7 f7) res
          refine xc_b (i' := 45) (ls' := [some (vR 8), some (vR (wJ W 1 + 42)), some (vI x2), some (vI x3), some (vI r1)]) (st' := []) (L' := LW W z7 f7) 1 (bn_c9_102_24 call x2 x3 r1 r7 _) ?_
          refine xc_b (i' := 46) (ls' := [some (vR 8), some (vR (wJ W 1 + 42)), some (vI (x2 + 1)), some (vI x3), some (vI r1)]) (st' := []) (L' := LW W z7 f7) 1 (bn_c9_102_25 call x2 x3 r1 _) ?_
          refine xc_b (i' := 47) (ls' := [some (vR 8), some (vR (wJ W 1 + 42)), some (vI (x2 + 1)), some (vI (x3 + 1)), some (vI r1)]) (st' := []) (L' := LW W z7 f7) 1 (bn_c9_102_12 call (x2 + 1) x3 r1 _) ?_
          refine xc_b (i' := 9) (ls' := [some (vR 8), some (vR (wJ W 1 + 42)), some (vI (x2 + 1)), some (vI (x3 + 1)), some (vI r1)]) (st' := []) (L' := LW W z7 f7) 1 (bn_c9_102_13 call (x2 + 1) (x3 + 1) r1 _) ?_
          exact H
set_option maxRecDepth 100000 in
theorem bn_99_1 (call : QC FA) (o1 : Option PV) (L : QH FA) (F : Nat) : xnG call 99 (F + 1) 0 [some (vR 8), o1] [] L = xnG call 99 F 1 [some (vR 8), o1] [vR 8] L := rfl
set_option maxRecDepth 100000 in
theorem bn_99_2 (call : QC FA) (ls : List (Option PV)) (z : Nat → Int32) (f : Nat → FA) (F : Nat) : xnG call 99 (F + 1) 1 ls [vR 8] (LW W z f) = cbd (call 5 [vR 8] (LW W z f)) (fun r L' => xnG call 99 F 2 ls (r.toList ++ []) L') := pcY (ih := xnG call 99 F) (call := call) (a := 5) (b := 0) (v := 1) (t := 2) (x := 8) (ls := ls) (As := []) (st' := []) (L := LW W z f) rfl rfl rfl
set_option maxRecDepth 100000 in
theorem bn_99_3 (call : QC FA) (o1 : Option PV) (s0 : Int32) (L : QH FA) (F : Nat) : xnG call 99 (F + 2) 2 [some (vR 8), o1] [vI s0] L = xnG call 99 F 4 [some (vR 8), some (vI s0)] [vI s0] L := rfl
set_option maxRecDepth 100000 in
theorem bn_99_4 (call : QC FA) (x : Int32) (ls : List (Option PV)) (L : QH FA) (F : Nat) : xnG call 99 (F + 1) 4 ls [vI x] L = bif pcmp 5 x 0 then xnG call 99 F 13 ls [] L else xnG call 99 F 5 ls [] L := rfl
set_option maxRecDepth 100000 in
theorem bn_99_5 (call : QC FA) (x1 : Int32) (z : Nat → Int32) (f : Nat → FA) (F : Nat) : xnG call 99 (F + 6) 13 [some (vR 8), some (vI x1)] [] (LW W z f) = xnG call 99 F 19 [some (vR 8), some (vI x1)] [vI ((z 27) + 1), vR 2] (LW W z f) := rfl
set_option maxRecDepth 100000 in
theorem bn_99_6 (call : QC FA) (y : Int32) (ls : List (Option PV)) (z : Nat → Int32) (f : Nat → FA) (F : Nat) : xnG call 99 (F + 1) 19 ls [vI y, vR 2] (LW W z f) = xnG call 99 F 20 ls [] (LW W (uZ z 27 y) f) := rfl
set_option maxRecDepth 100000 in
theorem bn_99_7 (call : QC FA) (x1 : Int32) (L : QH FA) (F : Nat) : xnG call 99 (F + 4) 20 [some (vR 8), some (vI x1)] [] L = xnG call 99 F 24 [some (vR 8), some (vI x1)] [vI x1, vI ((-1)), vI 4, vR 8] L := rfl
set_option maxRecDepth 100000 in
theorem bn_99_8 (call : QC FA) (a0 : Int32) (a1 : Int32) (a2 : Int32) (ls : List (Option PV)) (z : Nat → Int32) (f : Nat → FA) (F : Nat) : xnG call 99 (F + 1) 24 ls [vI a2, vI a1, vI a0, vR 8] (LW W z f) = cbd (call 97 [vR 8, vI a0, vI a1, vI a2] (LW W z f)) (fun r L' => xnG call 99 F 25 ls (r.toList ++ []) L') := pcY (ih := xnG call 99 F) (call := call) (a := 97) (b := 3) (v := 1) (t := 25) (x := 8) (ls := ls) (As := [vI a0, vI a1, vI a2]) (st' := []) (L := LW W z f) rfl rfl rfl
set_option maxRecDepth 100000 in
theorem bn_99_9 (call : QC FA) (x1 : Int32) (z : Nat → Int32) (f : Nat → FA) (F : Nat) : xnG call 99 (F + 2) 25 [some (vR 8), some (vI x1)] [] (LW W z f) = xnG call 99 F 27 [some (vR 8), some (vI x1)] [vR 2] (LW W z f) := rfl
set_option maxRecDepth 100000 in
theorem bn_99_10 (call : QC FA) (ls : List (Option PV)) (z : Nat → Int32) (f : Nat → FA) (F : Nat) : xnG call 99 (F + 1) 27 ls [vR 2] (LW W z f) = cbd (call 88 [vR 2] (LW W z f)) (fun r L' => xnG call 99 F 28 ls (r.toList ++ []) L') := pcY (ih := xnG call 99 F) (call := call) (a := 88) (b := 0) (v := 0) (t := 28) (x := 2) (ls := ls) (As := []) (st' := []) (L := LW W z f) rfl rfl rfl
set_option maxRecDepth 100000 in
theorem bn_99_11 (call : QC FA) (x1 : Int32) (z : Nat → Int32) (f : Nat → FA) (F : Nat) : xnG call 99 (F + 3) 28 [some (vR 8), some (vI x1)] [] (LW W z f) = xnG call 99 F 31 [some (vR 8), some (vI x1)] [vI 0, vR 2] (LW W z f) := rfl
set_option maxRecDepth 100000 in
theorem bn_99_12 (call : QC FA) (y : Int32) (ls : List (Option PV)) (z : Nat → Int32) (f : Nat → FA) (F : Nat) : xnG call 99 (F + 1) 31 ls [vI y, vR 2] (LW W z f) = xnG call 99 F 32 ls [] (LW W (uZ z 24 y) f) := rfl
set_option maxRecDepth 100000 in
theorem bn_99_13 (call : QC FA) (x1 : Int32) (z : Nat → Int32) (f : Nat → FA) (F : Nat) : xnG call 99 (F + 6) 32 [some (vR 8), some (vI x1)] [] (LW W z f) = xnG call 99 F 38 [some (vR 8), some (vI x1)] [vI ((z 25) + 1), vR 2] (LW W z f) := rfl
set_option maxRecDepth 100000 in
theorem bn_99_14 (call : QC FA) (y : Int32) (ls : List (Option PV)) (z : Nat → Int32) (f : Nat → FA) (F : Nat) : xnG call 99 (F + 1) 38 ls [vI y, vR 2] (LW W z f) = xnG call 99 F 39 ls [] (LW W (uZ z 25 y) f) := rfl
set_option maxRecDepth 100000 in
theorem bn_99_15 (call : QC FA) (ls : List (Option PV)) (L : QH FA) (F : Nat) : xnG call 99 (F + 1) 39 ls [] L = some (none, L) := rfl
set_option maxRecDepth 100000 in
theorem bn_99_16 (call : QC FA) (x1 : Int32) (z : Nat → Int32) (f : Nat → FA) (F : Nat) : xnG call 99 (F + 6) 5 [some (vR 8), some (vI x1)] [] (LW W z f) = xnG call 99 F 11 [some (vR 8), some (vI x1)] [vI ((z 26) + 1), vR 2] (LW W z f) := rfl
set_option maxRecDepth 100000 in
theorem bn_99_17 (call : QC FA) (y : Int32) (ls : List (Option PV)) (z : Nat → Int32) (f : Nat → FA) (F : Nat) : xnG call 99 (F + 1) 11 ls [vI y, vR 2] (LW W z f) = xnG call 99 F 12 ls [] (LW W (uZ z 26 y) f) := rfl
set_option maxRecDepth 100000 in
theorem bn_99_18 (call : QC FA) (x1 : Int32) (L : QH FA) (F : Nat) : xnG call 99 (F + 5) 12 [some (vR 8), some (vI x1)] [] L = xnG call 99 F 24 [some (vR 8), some (vI x1)] [vI x1, vI ((-1)), vI 4, vR 8] L := rfl
theorem vcn_99_0 (call : QC FA) (o1 : Option PV) (z : Nat → Int32) (f : Nat → FA) (res : Option PV × QH FA) (H : (∃ (r1 : Int32) (z1 : Nat → Int32) (f1 : Nat → FA), call 5 [vR 8] (LW W z f) = some (some (vI r1), LW W z1 f1) ∧ ((I r1 ≤ 0 → (∃ (z2 : Nat → Int32) (f2 : Nat → FA), call 97 [vR 8, vI 4, vI ((-1)), vI r1] (LW W (uZ z1 27 ((z1 27) + 1)) f1) = some (none, LW W z2 f2) ∧ (∃ (z3 : Nat → Int32) (f3 : Nat → FA), call 88 [vR 2] (LW W z2 f2) = some (none, LW W z3 f3) ∧ res = (none, LW W (uZ (uZ z3 24 0) 25 ((z3 25) + 1)) f3)))) ∧ (0 < I r1 → (∃ (z4 : Nat → Int32) (f4 : Nat → FA), call 97 [vR 8, vI 4, vI ((-1)), vI r1] (LW W (uZ z1 26 ((z1 26) + 1)) f1) = some (none, LW W z4 f4) ∧ (∃ (z5 : Nat → Int32) (f5 : Nat → FA), call 88 [vR 2] (LW W z4 f4) = some (none, LW W z5 f5) ∧ res = (none, LW W (uZ (uZ z5 24 0) 25 ((z5 25) + 1)) f5))))))) : XC call (mP 99) 0 [some (vR 8), o1] [] (LW W z f) res := by
  refine xc_b (i' := 1) (ls' := [some (vR 8), o1]) (st' := [vR 8]) (L' := LW W z f) 1 (bn_99_1 call o1 _) ?_
  obtain ⟨r1, z1, f1, hc, H⟩ := H
  refine xc_call (t := 2) (ls' := [some (vR 8), o1]) (st' := []) (bn_99_2 call _ z f) hc ?_
  show XC call (mP 99) 2 [some (vR 8), o1] [vI r1] (LW W z1 f1) res
  refine xc_b (i' := 4) (ls' := [some (vR 8), some (vI r1)]) (st' := [vI r1]) (L' := LW W z1 f1) 2 (bn_99_3 call o1 r1 _) ?_
  refine xc_if (it := 13) (ie := 5) (ls' := [some (vR 8), some (vI r1)]) (st' := []) (bn_99_4 call r1 _ _) (fun q1 => ?_) (fun q1 => ?_)
  · have H := H.1 (cI5t q1 rfl rfl)
    refine xc_b (i' := 19) (ls' := [some (vR 8), some (vI r1)]) (st' := [vI ((z1 27) + 1), vR 2]) (L' := LW W z1 f1) 6 (bn_99_5 call r1 z1 f1) ?_
    refine xc_b (i' := 20) (ls' := [some (vR 8), some (vI r1)]) (st' := []) (L' := LW W (uZ z1 27 ((z1 27) + 1)) f1) 1 (bn_99_6 call ((z1 27) + 1) _ z1 f1) ?_
    refine xc_b (i' := 24) (ls' := [some (vR 8), some (vI r1)]) (st' := [vI r1, vI ((-1)), vI 4, vR 8]) (L' := LW W (uZ z1 27 ((z1 27) + 1)) f1) 4 (bn_99_7 call r1 _) ?_
    obtain ⟨z2, f2, hc, H⟩ := H
    refine xc_call (t := 25) (ls' := [some (vR 8), some (vI r1)]) (st' := []) (bn_99_8 call 4 ((-1)) r1 _ (uZ z1 27 ((z1 27) + 1)) f1) hc ?_
    show XC call (mP 99) 25 [some (vR 8), some (vI r1)] [] (LW W z2 f2) res
    refine xc_b (i' := 27) (ls' := [some (vR 8), some (vI r1)]) (st' := [vR 2]) (L' := LW W z2 f2) 2 (bn_99_9 call r1 z2 f2) ?_
    obtain ⟨z3, f3, hc, H⟩ := H
    refine xc_call (t := 28) (ls' := [some (vR 8), some (vI r1)]) (st' := []) (bn_99_10 call _ z2 f2) hc ?_
    show XC call (mP 99) 28 [some (vR 8), some (vI r1)] [] (LW W z3 f3) res
    refine xc_b (i' := 31) (ls' := [some (vR 8), some (vI r1)]) (st' := [vI 0, vR 2]) (L' := LW W z3 f3) 3 (bn_99_11 call r1 z3 f3) ?_
    refine xc_b (i' := 32) (ls' := [some (vR 8), some (vI r1)]) (st' := []) (L' := LW W (uZ z3 24 0) f3) 1 (bn_99_12 call 0 _ z3 f3) ?_
    refine xc_b (i' := 38) (ls' := [some (vR 8), some (vI r1)]) (st' := [vI ((z3 25) + 1), vR 2]) (L' := LW W (uZ z3 24 0) f3) 6 (bn_99_13 call r1 (uZ z3 24 0) f3) ?_
    refine xc_b (i' := 39) (ls' := [some (vR 8), some (vI r1)]) (st' := []) (L' := LW W (uZ (uZ z3 24 0) 25 ((z3 25) + 1)) f3) 1 (bn_99_14 call ((z3 25) + 1) _ (uZ z3 24 0) f3) ?_
    subst H
    exact xc_ret (bn_99_15 call _ _)
  · have H := H.2 (cI5f q1 rfl rfl)
    refine xc_b (i' := 11) (ls' := [some (vR 8), some (vI r1)]) (st' := [vI ((z1 26) + 1), vR 2]) (L' := LW W z1 f1) 6 (bn_99_16 call r1 z1 f1) ?_
    refine xc_b (i' := 12) (ls' := [some (vR 8), some (vI r1)]) (st' := []) (L' := LW W (uZ z1 26 ((z1 26) + 1)) f1) 1 (bn_99_17 call ((z1 26) + 1) _ z1 f1) ?_
    refine xc_b (i' := 24) (ls' := [some (vR 8), some (vI r1)]) (st' := [vI r1, vI ((-1)), vI 4, vR 8]) (L' := LW W (uZ z1 26 ((z1 26) + 1)) f1) 5 (bn_99_18 call r1 _) ?_
    obtain ⟨z4, f4, hc, H⟩ := H
    refine xc_call (t := 25) (ls' := [some (vR 8), some (vI r1)]) (st' := []) (bn_99_8 call 4 ((-1)) r1 _ (uZ z1 26 ((z1 26) + 1)) f1) hc ?_
    show XC call (mP 99) 25 [some (vR 8), some (vI r1)] [] (LW W z4 f4) res
    refine xc_b (i' := 27) (ls' := [some (vR 8), some (vI r1)]) (st' := [vR 2]) (L' := LW W z4 f4) 2 (bn_99_9 call r1 z4 f4) ?_
    obtain ⟨z5, f5, hc, H⟩ := H
    refine xc_call (t := 28) (ls' := [some (vR 8), some (vI r1)]) (st' := []) (bn_99_10 call _ z4 f4) hc ?_
    show XC call (mP 99) 28 [some (vR 8), some (vI r1)] [] (LW W z5 f5) res
    refine xc_b (i' := 31) (ls' := [some (vR 8), some (vI r1)]) (st' := [vI 0, vR 2]) (L' := LW W z5 f5) 3 (bn_99_11 call r1 z5 f5) ?_
    refine xc_b (i' := 32) (ls' := [some (vR 8), some (vI r1)]) (st' := []) (L' := LW W (uZ z5 24 0) f5) 1 (bn_99_12 call 0 _ z5 f5) ?_
    refine xc_b (i' := 38) (ls' := [some (vR 8), some (vI r1)]) (st' := [vI ((z5 25) + 1), vR 2]) (L' := LW W (uZ z5 24 0) f5) 6 (bn_99_13 call r1 (uZ z5 24 0) f5) ?_
    refine xc_b (i' := 39) (ls' := [some (vR 8), some (vI r1)]) (st' := []) (L' := LW W (uZ (uZ z5 24 0) 25 ((z5 25) + 1)) f5) 1 (bn_99_14 call ((z5 25) + 1) _ (uZ z5 24 0) f5) ?_
    subst H
    exact xc_ret (bn_99_15 call _ _)
set_option maxRecDepth 100000 in
theorem bn_98_1 (call : QC FA) (o1 : Option PV) (L : QH FA) (F : Nat) : xnG call 98 (F + 1) 0 [some (vR 8), o1] [] L = xnG call 98 F 1 [some (vR 8), o1] [vR 8] L := rfl
set_option maxRecDepth 100000 in
theorem bn_98_2 (call : QC FA) (ls : List (Option PV)) (z : Nat → Int32) (f : Nat → FA) (F : Nat) : xnG call 98 (F + 1) 1 ls [vR 8] (LW W z f) = cbd (call 100 [vR 8] (LW W z f)) (fun r L' => xnG call 98 F 2 ls (r.toList ++ []) L') := pcY (ih := xnG call 98 F) (call := call) (a := 100) (b := 0) (v := 1) (t := 2) (x := 8) (ls := ls) (As := []) (st' := []) (L := LW W z f) rfl rfl rfl
set_option maxRecDepth 100000 in
theorem bn_98_3 (call : QC FA) (o1 : Option PV) (L : QH FA) (F : Nat) : xnG call 98 (F + 1) 2 [some (vR 8), o1] [] L = xnG call 98 F 3 [some (vR 8), o1] [vR 8] L := rfl
set_option maxRecDepth 100000 in
theorem bn_98_4 (call : QC FA) (ls : List (Option PV)) (z : Nat → Int32) (f : Nat → FA) (F : Nat) : xnG call 98 (F + 1) 3 ls [vR 8] (LW W z f) = cbd (call 102 [vR 8] (LW W z f)) (fun r L' => xnG call 98 F 4 ls (r.toList ++ []) L') := pcY (ih := xnG call 98 F) (call := call) (a := 102) (b := 0) (v := 1) (t := 4) (x := 8) (ls := ls) (As := []) (st' := []) (L := LW W z f) rfl rfl rfl
set_option maxRecDepth 100000 in
theorem bn_98_5 (call : QC FA) (o1 : Option PV) (s0 : Int32) (L : QH FA) (F : Nat) : xnG call 98 (F + 2) 4 [some (vR 8), o1] [vI s0] L = xnG call 98 F 6 [some (vR 8), some (vI s0)] [vR 8] L := rfl
set_option maxRecDepth 100000 in
theorem bn_98_6 (call : QC FA) (ls : List (Option PV)) (z : Nat → Int32) (f : Nat → FA) (F : Nat) : xnG call 98 (F + 1) 6 ls [vR 8] (LW W z f) = cbd (call 95 [vR 8] (LW W z f)) (fun r L' => xnG call 98 F 7 ls (r.toList ++ []) L') := pcY (ih := xnG call 98 F) (call := call) (a := 95) (b := 0) (v := 1) (t := 7) (x := 8) (ls := ls) (As := []) (st' := []) (L := LW W z f) rfl rfl rfl
set_option maxRecDepth 100000 in
theorem bn_98_7 (call : QC FA) (x1 : Int32) (z : Nat → Int32) (f : Nat → FA) (F : Nat) : xnG call 98 (F + 4) 7 [some (vR 8), some (vI x1)] [] (LW W z f) = xnG call 98 F 11 [some (vR 8), some (vI x1)] [vI 11, vI (z 24)] (LW W z f) := rfl
set_option maxRecDepth 100000 in
theorem bn_98_8 (call : QC FA) (x y : Int32) (ls : List (Option PV)) (L : QH FA) (F : Nat) : xnG call 98 (F + 1) 11 ls [vI y, vI x] L = bif pcmp 3 x y then xnG call 98 F 20 ls [] L else xnG call 98 F 12 ls [] L := rfl
set_option maxRecDepth 100000 in
theorem bn_98_9 (call : QC FA) (x1 : Int32) (L : QH FA) (F : Nat) : xnG call 98 (F + 1) 20 [some (vR 8), some (vI x1)] [] L = xnG call 98 F 21 [some (vR 8), some (vI x1)] [vR 8] L := rfl
set_option maxRecDepth 100000 in
theorem bn_98_10 (call : QC FA) (ls : List (Option PV)) (z : Nat → Int32) (f : Nat → FA) (F : Nat) : xnG call 98 (F + 1) 21 ls [vR 8] (LW W z f) = cbd (call 99 [vR 8] (LW W z f)) (fun r L' => xnG call 98 F 22 ls (r.toList ++ []) L') := pcY (ih := xnG call 98 F) (call := call) (a := 99) (b := 0) (v := 1) (t := 22) (x := 8) (ls := ls) (As := []) (st' := []) (L := LW W z f) rfl rfl rfl
set_option maxRecDepth 100000 in
theorem bn_98_11 (call : QC FA) (x1 : Int32) (L : QH FA) (F : Nat) : xnG call 98 (F + 1) 22 [some (vR 8), some (vI x1)] [] L = xnG call 98 F 23 [some (vR 8), some (vI x1)] [vI x1] L := rfl
set_option maxRecDepth 100000 in
theorem bn_98_12 (call : QC FA) (x : Int32) (ls : List (Option PV)) (L : QH FA) (F : Nat) : xnG call 98 (F + 1) 23 ls [vI x] L = some (some (vI x), L) := rfl
set_option maxRecDepth 100000 in
theorem bn_98_13 (call : QC FA) (x1 : Int32) (z : Nat → Int32) (f : Nat → FA) (F : Nat) : xnG call 98 (F + 6) 12 [some (vR 8), some (vI x1)] [] (LW W z f) = xnG call 98 F 18 [some (vR 8), some (vI x1)] [vI ((z 24) + 1), vR 2] (LW W z f) := rfl
set_option maxRecDepth 100000 in
theorem bn_98_14 (call : QC FA) (y : Int32) (ls : List (Option PV)) (z : Nat → Int32) (f : Nat → FA) (F : Nat) : xnG call 98 (F + 1) 18 ls [vI y, vR 2] (LW W z f) = xnG call 98 F 19 ls [] (LW W (uZ z 24 y) f) := rfl
set_option maxRecDepth 100000 in
theorem bn_98_15 (call : QC FA) (x1 : Int32) (L : QH FA) (F : Nat) : xnG call 98 (F + 2) 19 [some (vR 8), some (vI x1)] [] L = xnG call 98 F 23 [some (vR 8), some (vI x1)] [vI x1] L := rfl
theorem vcn_98_0 (call : QC FA) (o1 : Option PV) (z : Nat → Int32) (f : Nat → FA) (res : Option PV × QH FA) (H : (∃ (z1 : Nat → Int32) (f1 : Nat → FA), call 100 [vR 8] (LW W z f) = some (none, LW W z1 f1) ∧ (∃ (r2 : Int32) (z2 : Nat → Int32) (f2 : Nat → FA), call 102 [vR 8] (LW W z1 f1) = some (some (vI r2), LW W z2 f2) ∧ (∃ (z3 : Nat → Int32) (f3 : Nat → FA), call 95 [vR 8] (LW W z2 f2) = some (none, LW W z3 f3) ∧ ((11 ≤ I (z3 24) → (∃ (z4 : Nat → Int32) (f4 : Nat → FA), call 99 [vR 8] (LW W z3 f3) = some (none, LW W z4 f4) ∧ res = (some (vI r2), LW W z4 f4))) ∧ (I (z3 24) < 11 → res = (some (vI r2), LW W (uZ z3 24 ((z3 24) + 1)) f3))))))) : XC call (mP 98) 0 [some (vR 8), o1] [] (LW W z f) res := by
  refine xc_b (i' := 1) (ls' := [some (vR 8), o1]) (st' := [vR 8]) (L' := LW W z f) 1 (bn_98_1 call o1 _) ?_
  obtain ⟨z1, f1, hc, H⟩ := H
  refine xc_call (t := 2) (ls' := [some (vR 8), o1]) (st' := []) (bn_98_2 call _ z f) hc ?_
  show XC call (mP 98) 2 [some (vR 8), o1] [] (LW W z1 f1) res
  refine xc_b (i' := 3) (ls' := [some (vR 8), o1]) (st' := [vR 8]) (L' := LW W z1 f1) 1 (bn_98_3 call o1 _) ?_
  obtain ⟨r2, z2, f2, hc, H⟩ := H
  refine xc_call (t := 4) (ls' := [some (vR 8), o1]) (st' := []) (bn_98_4 call _ z1 f1) hc ?_
  show XC call (mP 98) 4 [some (vR 8), o1] [vI r2] (LW W z2 f2) res
  refine xc_b (i' := 6) (ls' := [some (vR 8), some (vI r2)]) (st' := [vR 8]) (L' := LW W z2 f2) 2 (bn_98_5 call o1 r2 _) ?_
  obtain ⟨z3, f3, hc, H⟩ := H
  refine xc_call (t := 7) (ls' := [some (vR 8), some (vI r2)]) (st' := []) (bn_98_6 call _ z2 f2) hc ?_
  show XC call (mP 98) 7 [some (vR 8), some (vI r2)] [] (LW W z3 f3) res
  refine xc_b (i' := 11) (ls' := [some (vR 8), some (vI r2)]) (st' := [vI 11, vI (z3 24)]) (L' := LW W z3 f3) 4 (bn_98_7 call r2 z3 f3) ?_
  refine xc_if (it := 20) (ie := 12) (ls' := [some (vR 8), some (vI r2)]) (st' := []) (bn_98_8 call (z3 24) 11 _ _) (fun q1 => ?_) (fun q1 => ?_)
  · have H := H.1 (cI3t q1 rfl rfl)
    refine xc_b (i' := 21) (ls' := [some (vR 8), some (vI r2)]) (st' := [vR 8]) (L' := LW W z3 f3) 1 (bn_98_9 call r2 _) ?_
    obtain ⟨z4, f4, hc, H⟩ := H
    refine xc_call (t := 22) (ls' := [some (vR 8), some (vI r2)]) (st' := []) (bn_98_10 call _ z3 f3) hc ?_
    show XC call (mP 98) 22 [some (vR 8), some (vI r2)] [] (LW W z4 f4) res
    refine xc_b (i' := 23) (ls' := [some (vR 8), some (vI r2)]) (st' := [vI r2]) (L' := LW W z4 f4) 1 (bn_98_11 call r2 _) ?_
    subst H
    exact xc_ret (bn_98_12 call _ _ _)
  · have H := H.2 (cI3f q1 rfl rfl)
    refine xc_b (i' := 18) (ls' := [some (vR 8), some (vI r2)]) (st' := [vI ((z3 24) + 1), vR 2]) (L' := LW W z3 f3) 6 (bn_98_13 call r2 z3 f3) ?_
    refine xc_b (i' := 19) (ls' := [some (vR 8), some (vI r2)]) (st' := []) (L' := LW W (uZ z3 24 ((z3 24) + 1)) f3) 1 (bn_98_14 call ((z3 24) + 1) _ z3 f3) ?_
    refine xc_b (i' := 23) (ls' := [some (vR 8), some (vI r2)]) (st' := [vI r2]) (L' := LW W (uZ z3 24 ((z3 24) + 1)) f3) 2 (bn_98_15 call r2 _) ?_
    subst H
    exact xc_ret (bn_98_12 call _ _ _)
theorem cr_passn {nv : Nat} {z : Nat → Int32} {f r : Nat → FA} (x : Int32) (h : CRL 2 nv z f r) : CRL 2 nv (uZ z 26 x) f (uA r 1 (upd (r 1) 5 x)) := by
  obtain ⟨hn, hs, ht, hm, hr⟩ := h
  have g : ∀ j, j ≠ 5 → upd (r 1) 5 x j = r 1 j := fun j hj => pk_un hj
  refine ⟨hn, ?_, ?_, ?_, ?_⟩
  · rw [uA_self]
    obtain ⟨a1, a2, a3, a4, a5, a6, a7, a8⟩ := hs
    exact ⟨(uZ_n (by decide)).trans a1, ((uZ_n (by decide)).trans a2).trans (g 4 (by decide)).symm, ((uZ_n (by decide)).trans a3).trans (g 1 (by decide)).symm, ((uZ_n (by decide)).trans a4).trans (g 0 (by decide)).symm, uZ_s.trans pk_us.symm, ((uZ_n (by decide)).trans a6).trans (g 6 (by decide)).symm, ((uZ_n (by decide)).trans a7).trans (g 2 (by decide)).symm, ((uZ_n (by decide)).trans a8).trans (g 3 (by decide)).symm⟩
  · rw [uA_self]
    exact ht.cong (fun j hj => rfl) (fun j h1 h2 => g j (by omega)) (fun v hv => rfl) (fun v hv => rfl) (fun v hv => rfl) hn
  · rw [uA_self]
    exact hm.cong (fun j hj => rfl) (fun j h1 h2 => g j (by omega))
  · rw [uA_self]
    unfold CRr
    rw [g 1 (by decide), g 3 (by decide)]
    exact hr
theorem cr_failn {nv : Nat} {z : Nat → Int32} {f r : Nat → FA} (x : Int32) (h : CRL 2 nv z f r) : CRL 2 nv (uZ z 27 x) f (uA r 1 (upd (r 1) 6 x)) := by
  obtain ⟨hn, hs, ht, hm, hr⟩ := h
  have g : ∀ j, j ≠ 6 → upd (r 1) 6 x j = r 1 j := fun j hj => pk_un hj
  refine ⟨hn, ?_, ?_, ?_, ?_⟩
  · rw [uA_self]
    obtain ⟨a1, a2, a3, a4, a5, a6, a7, a8⟩ := hs
    exact ⟨(uZ_n (by decide)).trans a1, ((uZ_n (by decide)).trans a2).trans (g 4 (by decide)).symm, ((uZ_n (by decide)).trans a3).trans (g 1 (by decide)).symm, ((uZ_n (by decide)).trans a4).trans (g 0 (by decide)).symm, ((uZ_n (by decide)).trans a5).trans (g 5 (by decide)).symm, uZ_s.trans pk_us.symm, ((uZ_n (by decide)).trans a7).trans (g 2 (by decide)).symm, ((uZ_n (by decide)).trans a8).trans (g 3 (by decide)).symm⟩
  · rw [uA_self]
    exact ht.cong (fun j hj => rfl) (fun j h1 h2 => g j (by omega)) (fun v hv => rfl) (fun v hv => rfl) (fun v hv => rfl) hn
  · rw [uA_self]
    exact hm.cong (fun j hj => rfl) (fun j h1 h2 => g j (by omega))
  · rw [uA_self]
    unfold CRr
    rw [g 1 (by decide), g 3 (by decide)]
    exact hr
theorem cr_hourn {nv k : Nat} (hk : k < 11) {z : Nat → Int32} {f r : Nat → FA} (ek : r 1 1 = nI k) (h : CRL 2 nv z f r) : CRL 2 nv (uZ z 24 (z 24 + 1)) f (uA r 1 (upd (r 1) 1 (r 1 1 + 1))) := by
  obtain ⟨hn, hs, ht, hm, hr⟩ := h
  have g : ∀ j, j ≠ 1 → upd (r 1) 1 (r 1 1 + 1) j = r 1 j := fun j hj => pk_un hj
  refine ⟨hn, ?_, ?_, ?_, ?_⟩
  · rw [uA_self]
    obtain ⟨a1, a2, a3, a4, a5, a6, a7, a8⟩ := hs
    have a3' : z 24 = r 1 1 := a3
    exact ⟨(uZ_n (by decide)).trans a1, ((uZ_n (by decide)).trans a2).trans (g 4 (by decide)).symm, uZ_s.trans (by rw [pk_us, a3']), ((uZ_n (by decide)).trans a4).trans (g 0 (by decide)).symm, ((uZ_n (by decide)).trans a5).trans (g 5 (by decide)).symm, ((uZ_n (by decide)).trans a6).trans (g 6 (by decide)).symm, ((uZ_n (by decide)).trans a7).trans (g 2 (by decide)).symm, ((uZ_n (by decide)).trans a8).trans (g 3 (by decide)).symm⟩
  · rw [uA_self]
    exact ht.cong (fun j hj => rfl) (fun j h1 h2 => g j (by omega)) (fun v hv => rfl) (fun v hv => rfl) (fun v hv => rfl) hn
  · rw [uA_self]
    exact hm.cong (fun j hj => rfl) (fun j h1 h2 => g j (by omega))
  · rw [uA_self]
    refine ⟨⟨k + 1, by omega, ?_⟩, ?_⟩
    · rw [pk_us, ek]
      exact nI_add k 1
    · rw [g 3 (by decide)]
      exact hr.2
theorem cr_even {nv : Nat} {z : Nat → Int32} {f r : Nat → FA} (h : CRL 2 nv z f r) {G : FA} (g1 : ∀ j, 67 ≤ j → j < 499 → G j = 0) (g2 : G 1 = 0) (g3 : G 0 = r 1 0 + 1) (g4 : ∀ j, 2 ≤ j → j < 67 → G j = r 1 j) : CRL 2 nv (uZ (uZ z 24 0) 25 (z 25 + 1)) (uA f 4 (zr9 (f 4) 144)) (uA r 1 G) := by
  obtain ⟨hn, hs, ht, hm, hr⟩ := h
  obtain ⟨a1, a2, a3, a4, a5, a6, a7, a8⟩ := hs
  have a4' : z 25 = r 1 0 := a4
  have zz : ∀ j, j ≠ 24 → j ≠ 25 → uZ (uZ z 24 0) 25 (z 25 + 1) j = z j := fun j h1 h2 => by rw [uZ_n h2, uZ_n h1]
  refine ⟨hn, ?_, ?_, ?_, ?_⟩
  · rw [uA_self]
    exact ⟨(zz _ (by decide) (by decide)).trans a1, ((zz _ (by decide) (by decide)).trans a2).trans (g4 4 (by decide) (by decide)).symm, ((uZ_n (by decide)).trans uZ_s).trans g2.symm, uZ_s.trans (by rw [g3, a4']), ((zz _ (by decide) (by decide)).trans a5).trans (g4 5 (by decide) (by decide)).symm, ((zz _ (by decide) (by decide)).trans a6).trans (g4 6 (by decide) (by decide)).symm, ((zz _ (by decide) (by decide)).trans a7).trans (g4 2 (by decide) (by decide)).symm, ((zz _ (by decide) (by decide)).trans a8).trans (g4 3 (by decide) (by decide)).symm⟩
  · rw [uA_self]
    exact ht.cong (fun j hj => by rw [uA_ne (show (3 : Nat) ≠ 4 by decide)]) (fun j h1 h2 => g4 j (by omega) h2) (fun v hv => rfl) (fun v hv => rfl) (fun v hv => rfl) hn
  · show MRS nv (uA f 4 (zr9 (f 4) 144) 4) (uA r 1 G 1)
    rw [uA_self, uA_self]
    exact fun i hi => Or.inl ⟨if_pos hi, g1 _ (by omega) (by omega), g1 _ (by omega) (by omega), g1 _ (by omega) (by omega)⟩
  · rw [uA_self]
    obtain ⟨l, h1, h2⟩ := hr.2
    exact ⟨⟨0, by decide, g2⟩, l, h1, (g4 3 (by decide) (by decide)).trans h2⟩
theorem wFillMn (d : Nat) {z : Nat → Int32} {f : Nat → FA} : xcall (d + 1) 2 [vR 4, vI 0] (LW W z f) = some (none, LW W z (uA f 4 (zr9 (f 4) 144))) := by
  have lp : ∀ t n, n + t = 144 → XC (xcall d) (mP 2) 5 [some (vR 4), some (vI 0), some (vI (nI n)), some (vI (nI 144))] [] (LW W z (uA f 4 (zr9 (f 4) n))) (none, LW W z (uA f 4 (zr9 (f 4) 144))) := by
    intro t
    induction t with
    | zero =>
      intro n hn
      obtain rfl : n = 144 := by omega
      exact vcn_c5_2_5 _ _ _ _ _ _ _ ⟨fun _ => rfl, fun q => by omega⟩
    | succ t ih =>
      intro n hn
      have h := ih (n + 1) (by omega)
      rw [← nI_add n 1, ← zr9_s] at h
      refine vcn_c5_2_5 _ _ _ _ _ _ _ ⟨fun q => by rw [I_nI (n := n) (by omega), I_nI (n := 144) (by omega)] at q; omega, fun _ => ⟨pin_nI (by omega) (by omega), ?_⟩⟩
      rw [ix_nI (j := n) (by omega), uA_uA, uA_self]
      exact h
  have h := lp 144 0 rfl
  rw [zr9_0, uA_id rfl] at h
  exact xcall_i (mq2 (cu := [])).2.2 rfl (vcn_2_0 (xcall d) 0 none none z f _ h)
theorem wEmptyn (d : Nat) {z : Nat → Int32} {f : Nat → FA} : xcall (d + 2) 88 [vR 2] (LW W z f) = some (none, LW W z (uA f 4 (zr9 (f 4) 144))) := xcall_i (mq88 (cu := [])).2.2 rfl (vcn_88_0 (xcall (d + 1)) z f _ ⟨_, _, wFillMn d, rfl⟩)
section LAWTn
variable {L : LAW} {n : Nat}
/-- the thumbs of an hour -/
theorem simThumbn (hW : WTX W) (hC : LWC W 0 L n) (hL : LOK L n) (d d' : Nat) {nv nw : Nat} {zr : Nat → Int32} : ∀ {z : Nat → Int32} {f r : Nat → FA}, RLn nv z f zr r → LRM r L n → WYR W nv nw zr (r 18) → ∃ x z' f' r', xcall (d + 5) 102 [vR 8] (LW W z f) = some (some (vI x), LW W z' f') ∧ (∀ res, RC (mcall (d' + 6)) (mP 214) 98 [some (vR 0), some (vI x), some (vI 0)] [] (LR zr r') res → RC (mcall (d' + 6)) (mP 214) 40 [some (vR 0), some (vI 0), some (vI 0)] [] (LR zr r) res) ∧ RLn nv z' f' zr r' ∧ FRn z f r z' f' r' := by
  have lp : ∀ t i, i + t = nw → ∀ (x : Int32) (z : Nat → Int32) (f r : Nat → FA), RLn nv z f zr r → LRM r L n → WYR W nv nw zr (r 18) → ∃ y z' f' r', (∀ o4, XC (xcall (d + 4)) (mP 102) 9 [some (vR 8), some (vR (wJ W 1 + 42)), some (vI x), some (vI (nI i)), o4] [] (LW W z f) (some (vI y), LW W z' f')) ∧ (∀ res, RC (mcall (d' + 6)) (mP 214) 98 [some (vR 0), some (vI y), some (vI 0)] [] (LR zr r') res → RC (mcall (d' + 6)) (mP 214) 40 [some (vR 0), some (vI x), some (vI (nI (3 * i)))] [] (LR zr r) res) ∧ RLn nv z' f' zr r' ∧ FRn z f r z' f' r' := by
    intro t
    induction t with
    | zero =>
      intro i hi x z f r h hM hY
      obtain rfl : i = nw := by omega
      obtain ⟨s1, s2, s3, s4, -⟩ := hY
      refine ⟨x, z, f, r, fun o4 => vcn_c9_102_9 hW _ _ _ _ _ _ _ ⟨fun _ => rfl, fun q => ?_⟩, fun res q => vcc40_214_40 d' _ _ _ _ _ ⟨fun _ => q, fun q2 => ?_⟩, h, FRn.rfl⟩
      · rw [s2] at q
        exact absurd q (Int.lt_irrefl _)
      · rw [s4, show (3 : Int32) = nI 3 from rfl, mul_nI] at q2
        exact absurd q2 (Int.lt_irrefl _)
    | succ t ih =>
      intro i hi x z f r h hM hY
      have hY0 := hY
      obtain ⟨s1, s2, s3, s4, s5⟩ := hY
      obtain ⟨v, a, hv, ha, l1, l2, l3, l4, l5⟩ := s5 i (by omega)
      have hn := h.1.1
      have zv : z 22 = nI nv := h.1.2.1.1
      have zh : z 24 = r 1 1 := h.1.2.1.2.2.1
      obtain ⟨b1, b2, b3, b4, b5, b6, -⟩ := h.1.2.2.1 v hv
      have t20 : f 3 (20 + v) = r 1 (7 + v) := b2
      have t80 : f 3 (80 + v) = r 1 (27 + v) := b5
      have num : ∀ (w : Nat) (z : Nat → Int32) (f : Nat → FA), w < 5 → xcall (d + 4) 18 [vR (wJ W 1 + 42), vI (nI i), vI (nI w)] (LW W z f) = some (some (vI (wg W 1 (5 * i + w))), LW W z f) := fun w z f hw => wNum hW (by decide) (d + 3) s2 s1 s3 (by omega) hw
      have ii : I (nI i) = i := I_nI (by omega)
      have iw : I (wn W 1) = nw := by rw [s2]; exact I_nI (by omega)
      have i3 : I (nI (3 * i)) = ((3 * i : Nat) : Int) := I_nI (by omega)
      have iz : I (3 * zr 34) = ((3 * nw : Nat) : Int) := by rw [s4, show (3 : Int32) = nI 3 from rfl, mul_nI]; exact I_nI (by omega)
      have e1 : nI i + 1 = nI (i + 1) := nI_add i 1
      have e3 : nI (3 * i) + 3 = nI (3 * (i + 1)) := by rw [show nI (3 * i) + 3 = nI (3 * i + 3) from nI_add _ 3, show 3 * (i + 1) = 3 * i + 3 by omega]
      have f1' : nI (3 * i) + 1 = nI (3 * i + 1) := nI_add _ 1
      have f2' : nI (3 * i) + 2 = nI (3 * i + 2) := nI_add _ 2
      have p0 : pin (nI (3 * i)) 96 = true := pin_nI (by omega) (by omega)
      have p1 : pin (nI (3 * i) + 1) 96 = true := by rw [f1']; exact pin_nI (by omega) (by omega)
      have p2 : pin (nI (3 * i) + 2) 96 = true := by rw [f2']; exact pin_nI (by omega) (by omega)
      have g0 : r 18 (ix (nI (3 * i))) = nI v := by rw [ix_nI (j := 3 * i) (by omega)]; exact l2
      have g1 : r 18 (ix (nI (3 * i) + 1)) = r 18 (3 * i + 1) := by rw [f1', ix_nI (j := 3 * i + 1) (by omega)]
      have g2 : r 18 (ix (nI (3 * i) + 2)) = nI a := by rw [f2', ix_nI (j := 3 * i + 2) (by omega)]; exact l5
      have x1 : ix 1 = 1 := by decide
      have n0 := num 0 z f (by omega)
      have n1 := num 1 z f (by omega)
      rw [show 5 * i + 0 = 5 * i from rfl, l1] at n0
      rw [l3] at n1
      have may := wMayn (W := W) (d + 1) (f := f) zv hn hv
      rw [t20, t80] at may
      have can := mCan (d' + 5) (v := v) (by omega) (z := zr) (r := r)
      by_cases ch : r 18 (3 * i + 1) = r 1 1
      · have hh : r 18 (ix (nI (3 * i) + 1)) = r 1 (ix 1) := by rw [g1, x1]; exact ch
        by_cases cc : r 1 (27 + v) = 0 ∧ ¬ r 1 (7 + v) = 0
        · rw [mk1_t cc] at may can
          have c193 : mcall (d' + 6) 193 [vR 0, vI (r 18 (ix (nI (3 * i))))] (LR zr r) = some (some (vI 1), LR zr r) := by rw [g0]; exact can
          obtain ⟨y, f1, r1, hy, w1, w2, w3⟩ := simComen hW hC hL d (d' + 1) hv h hM
          have c198 : mcall (d' + 6) 198 [vR 0, vI (r 18 (ix (nI (3 * i))))] (LR zr r) = some (some (vI y), LR zr r1) := by rw [g0]; exact w2
          obtain ⟨b, z2, r2, hb, h1, h2, h3, h4, h5⟩ := simHapn (W := W) (d + 2) (d' + 4) y (w3.rl h)
          have hF2 := FRn.trans (w3.fr (z := z)) h4
          have r11 : r1 1 = r 1 := w3.2 1 (by decide) (by decide)
          have r218 : r2 18 = r 18 := hF2.2.2 18 (by decide)
          rcases hb with rfl | rfl
          · obtain ⟨y', z', f', r', k1, k2, k3, k4⟩ := ih (i + 1) (by omega) x z2 f1 r2 h3 (LRM.frn hM hF2) (by rw [r218]; exact hY0)
            exact ⟨y', z', f', r', fun o4 => vcn_c9_102_9 hW _ _ _ _ _ _ _ ⟨fun q => by omega, fun _ => ⟨_, _, _, n0, _, _, _, n1, fun q => absurd (ch.trans zh.symm) q, fun _ => ⟨_, _, _, may, fun q => absurd q (by decide), fun _ => ⟨_, _, _, w1, _, _, _, h1, fun _ => by rw [e1]; exact k1 _, fun q => absurd rfl q⟩⟩⟩⟩, fun res hq => vcc40_214_40 d' _ _ _ _ _ ⟨fun q => by omega, fun _ => ⟨p1, by decide, fun q => absurd hh q, fun _ => ⟨p0, _, _, _, c193, fun q => absurd q (by decide), fun _ => ⟨p0, _, _, _, c198, _, _, _, h2, fun q => absurd rfl q, fun _ => by rw [e3]; exact k2 res hq⟩⟩⟩⟩, k3, FRn.trans hF2 k4⟩
          · obtain ⟨c, z3, f3, r3, hc, t1, t2, t3, t4⟩ := simPressn (W := W) d (d' + 4) hv ha h3 (by rw [h5 (7 + v) (by omega), r11]; exact cc.2)
            have hF3 := FRn.trans hF2 t4
            have n2 := num 2 z2 f1 (by omega)
            rw [l4] at n2
            have c249 : mcall (d' + 6) 249 [vR 0, vI (r2 18 (ix (nI (3 * i)))), vI (r2 18 (ix (nI (3 * i) + 2)))] (LR zr r2) = some (some (vI (nI c)), LR zr r3) := by rw [r218, g0, g2]; exact t2
            obtain ⟨y', z', f', r', k1, k2, k3, k4⟩ := ih (i + 1) (by omega) (x + 1) z3 f3 r3 t3 (LRM.frn hM hF3) (by rw [hF3.2.2 18 (by decide)]; exact hY0)
            exact ⟨y', z', f', r', fun o4 => vcn_c9_102_9 hW _ _ _ _ _ _ _ ⟨fun q => by omega, fun _ => ⟨_, _, _, n0, _, _, _, n1, fun q => absurd (ch.trans zh.symm) q, fun _ => ⟨_, _, _, may, fun q => absurd q (by decide), fun _ => ⟨_, _, _, w1, _, _, _, h1, fun q => absurd q (by decide), fun _ => ⟨_, _, _, n2, _, _, _, t1, by rw [e1]; exact k1 _⟩⟩⟩⟩⟩, fun res hq => vcc40_214_40 d' _ _ _ _ _ ⟨fun q => by omega, fun _ => ⟨p1, by decide, fun q => absurd hh q, fun _ => ⟨p0, _, _, _, c193, fun q => absurd q (by decide), fun _ => ⟨p0, _, _, _, c198, _, _, _, h2, fun _ => ⟨p0, p2, _, _, _, c249, by rw [e3]; exact k2 res hq⟩, fun q => absurd q (by decide)⟩⟩⟩⟩, k3, FRn.trans hF3 k4⟩
        · rw [mk1_f cc] at may can
          have c193 : mcall (d' + 6) 193 [vR 0, vI (r 18 (ix (nI (3 * i))))] (LR zr r) = some (some (vI 0), LR zr r) := by rw [g0]; exact can
          obtain ⟨y', z', f', r', k1, k2, k3⟩ := ih (i + 1) (by omega) x z f r h hM hY0
          exact ⟨y', z', f', r', fun o4 => vcn_c9_102_9 hW _ _ _ _ _ _ _ ⟨fun q => by omega, fun _ => ⟨_, _, _, n0, _, _, _, n1, fun q => absurd (ch.trans zh.symm) q, fun _ => ⟨_, _, _, may, fun _ => by rw [e1]; exact k1 _, fun q => absurd rfl q⟩⟩⟩, fun res hq => vcc40_214_40 d' _ _ _ _ _ ⟨fun q => by omega, fun _ => ⟨p1, by decide, fun q => absurd hh q, fun _ => ⟨p0, _, _, _, c193, fun _ => by rw [e3]; exact k2 res hq, fun q => absurd rfl q⟩⟩⟩, k3⟩
      · obtain ⟨y', z', f', r', k1, k2, k3⟩ := ih (i + 1) (by omega) x z f r h hM hY0
        exact ⟨y', z', f', r', fun o4 => vcn_c9_102_9 hW _ _ _ _ _ _ _ ⟨fun q => by omega, fun _ => ⟨_, _, _, n0, _, _, _, n1, fun _ => by rw [e1]; exact k1 _, fun q => absurd (q.trans zh) ch⟩⟩, fun res hq => vcc40_214_40 d' _ _ _ _ _ ⟨fun q => by omega, fun _ => ⟨p1, by decide, fun _ => by rw [e3]; exact k2 res hq, fun q => absurd (by rw [g1, x1] at q; exact q) ch⟩⟩, k3⟩
  intro z f r h hM hY
  obtain ⟨y, z', f', r', q1, q2, q3⟩ := lp nw 0 (by omega) 0 z f r h hM hY
  exact ⟨y, z', f', r', xcall_i (mq102 (cu := [])).2.2 rfl (vcn_102_0 hW (xcall (d + 4)) none none none none z f _ (q1 none)), q2, q3⟩
/-- the evening: the ballot is read, the door is bare again -/
theorem simEven (hW : WTX W) (hC : LWC W 0 L n) (hL : LOK L n) (d d' : Nat) {nv : Nat} {z zr : Nat → Int32} {f r : Nat → FA} (h : RLn nv z f zr r) (hM : LRM r L n) : ∃ z' f' r', xcall (d + 6) 99 [vR 8] (LW W z f) = some (none, LW W z' f') ∧ mcall (d' + 7) 209 [vR 0] (LR zr r) = some (none, LR zr r') ∧ RLn nv z' f' zr r' ∧ FRn z f r z' f' r' := by
  obtain ⟨y, f1, r1, s1, s2, s3⟩ := simSumn hW hC hL d d' h hM
  have h1 := s3.rl h
  have x5 : ix 5 = 5 := by decide
  have x6 : ix 6 = 6 := by decide
  by_cases c : I y ≤ 0
  · have zq : z 27 = r1 1 6 := h1.1.2.1.2.2.2.2.2.1
    have hb : RLn nv (uZ z 27 (r1 1 6 + 1)) f1 zr (uA r1 1 (upd (r1 1) 6 (r1 1 6 + 1))) := ⟨cr_failn _ h1.1, (fun j hj => by rw [uA_ne (show (7 : Nat) ≠ 1 by decide)]; exact h1.2.1 j hj), h1.2.2⟩
    obtain ⟨z2, f6, r7, x3, n1, n2, n3, n4⟩ := simNoten (W := W) (d + 3) (d' + 5) 4 (-1) y hb
    have n5 := n2 r1 (by rw [uA_ne (show (7 : Nat) ≠ 1 by decide)]) (fun j hj => by rw [uA_self, pk_un (by omega)])
    have n1' : xcall (d + 5) 97 [vR 8, vI 4, vI (-1), vI y] (LW W (uZ z 27 (z 27 + 1)) f1) = some (none, LW W z2 (uA f1 6 f6)) := by rw [zq]; exact n1
    obtain ⟨G, g1, g2, g3, g4, g5⟩ := mEvl (d' + 1) (some (vI y)) (z := zr) 144 0 rfl _ (fun j hj => absurd hj (Nat.not_lt_zero j))
    refine ⟨uZ (uZ z2 24 0) 25 (z2 25 + 1), uA (uA f1 6 f6) 4 (zr9 ((uA f1 6 f6) 4) 144), uA _ 1 G, xcall_i (mq99 (cu := [])).2.2 rfl (vcn_99_0 (xcall (d + 5)) none z f _ ⟨_, _, _, s1, fun _ => ⟨_, _, n1', _, _, wEmptyn (d + 3), rfl⟩, fun q => by omega⟩), mcall_i (mq209 (cu := [])).2.2 rfl (vc209_0 (d' + 1) none none zr r _ ⟨_, _, _, s2, _, _, n5, fun _ => ⟨by decide, by decide, ?_⟩, fun q => by omega⟩), ⟨cr_even n3.1 g1 g2 g3 g4, (fun j hj => by rw [uA_ne (show (6 : Nat) ≠ 4 by decide), uA_ne (show (7 : Nat) ≠ 1 by decide)]; exact n3.2.1 j hj), n3.2.2⟩, FRn.trans (s3.fr (z := z)) (FRn.trans ?_ (FRn.trans n4 ?_))⟩
    · rw [x6, eve_eq r1 r7 x3 (show (6 : Nat) ≠ 3 by decide)]
      exact g5
    · exact ⟨fun j hj => uZ_n (by omega), fun _ _ => rfl, fun k hk => uA_ne (fun q => hk (by rw [q]; decide))⟩
    · exact ⟨fun j hj => by rw [uZ_n (by omega), uZ_n (by omega)], fun k hk => uA_ne (fun q => hk (by rw [q]; decide)), fun k hk => uA_ne (fun q => hk (by rw [q]; decide))⟩
  · have zq : z 26 = r1 1 5 := h1.1.2.1.2.2.2.2.1
    have hb : RLn nv (uZ z 26 (r1 1 5 + 1)) f1 zr (uA r1 1 (upd (r1 1) 5 (r1 1 5 + 1))) := ⟨cr_passn _ h1.1, (fun j hj => by rw [uA_ne (show (7 : Nat) ≠ 1 by decide)]; exact h1.2.1 j hj), h1.2.2⟩
    obtain ⟨z2, f6, r7, x3, n1, n2, n3, n4⟩ := simNoten (W := W) (d + 3) (d' + 5) 4 (-1) y hb
    have n5 := n2 r1 (by rw [uA_ne (show (7 : Nat) ≠ 1 by decide)]) (fun j hj => by rw [uA_self, pk_un (by omega)])
    have n1' : xcall (d + 5) 97 [vR 8, vI 4, vI (-1), vI y] (LW W (uZ z 26 (z 26 + 1)) f1) = some (none, LW W z2 (uA f1 6 f6)) := by rw [zq]; exact n1
    obtain ⟨G, g1, g2, g3, g4, g5⟩ := mEvl (d' + 1) (some (vI y)) (z := zr) 144 0 rfl _ (fun j hj => absurd hj (Nat.not_lt_zero j))
    refine ⟨uZ (uZ z2 24 0) 25 (z2 25 + 1), uA (uA f1 6 f6) 4 (zr9 ((uA f1 6 f6) 4) 144), uA _ 1 G, xcall_i (mq99 (cu := [])).2.2 rfl (vcn_99_0 (xcall (d + 5)) none z f _ ⟨_, _, _, s1, fun q => by omega, fun _ => ⟨_, _, n1', _, _, wEmptyn (d + 3), rfl⟩⟩), mcall_i (mq209 (cu := [])).2.2 rfl (vc209_0 (d' + 1) none none zr r _ ⟨_, _, _, s2, _, _, n5, fun q => by omega, fun _ => ⟨by decide, by decide, ?_⟩⟩), ⟨cr_even n3.1 g1 g2 g3 g4, (fun j hj => by rw [uA_ne (show (6 : Nat) ≠ 4 by decide), uA_ne (show (7 : Nat) ≠ 1 by decide)]; exact n3.2.1 j hj), n3.2.2⟩, FRn.trans (s3.fr (z := z)) (FRn.trans ?_ (FRn.trans n4 ?_))⟩
    · rw [x5, eve_eq r1 r7 x3 (show (5 : Nat) ≠ 3 by decide)]
      exact g5
    · exact ⟨fun j hj => uZ_n (by omega), fun _ _ => rfl, fun k hk => uA_ne (fun q => hk (by rw [q]; decide))⟩
    · exact ⟨fun j hj => by rw [uZ_n (by omega), uZ_n (by omega)], fun k hk => uA_ne (fun q => hk (by rw [q]; decide)), fun k hk => uA_ne (fun q => hk (by rw [q]; decide))⟩
/-- an hour -/
theorem simHourn (hW : WTX W) (hC : LWC W 0 L n) (hL : LOK L n) (d d' : Nat) {nv nw ns : Nat} {z zr : Nat → Int32} {f r : Nat → FA} (h : RLn nv z f zr r) (hM : LRM r L n) (hY : WYR W nv nw zr (r 18)) (hS : SKR W nv ns zr (r 19)) : ∃ x z' f' r', xcall (d + 7) 98 [vR 8] (LW W z f) = some (some (vI x), LW W z' f') ∧ mcall (d' + 8) 214 [vR 0] (LR zr r) = some (some (vI x), LR zr r') ∧ RLn nv z' f' zr r' ∧ FRn z f r z' f' r' := by
  obtain ⟨z1, f1, r1, a1, a2, a3, a4⟩ := simSkyn hW (d + 1) (d' + 1) h hS
  obtain ⟨x, z2, f2, r2, b1, b2, b3, b4⟩ := simThumbn hW hC hL (d + 1) (d' + 1) a3 (LRM.frn hM a4) (by rw [a4.2.2 18 (by decide)]; exact hY)
  have F2 := FRn.trans a4 b4
  obtain ⟨z3, f3, r3, c1, c2, c3, c4, c5⟩ := simMeltn hW hC hL (d + 1) (d' + 1) b3 (LRM.frn hM F2)
  have F3 := FRn.trans F2 c4
  have zh : z3 24 = r3 1 1 := c3.1.2.1.2.2.1
  obtain ⟨k, hk, ek⟩ := c3.1.2.2.2.2.1
  have ik : I (nI k) = k := I_nI (by omega)
  have x1 : ix 1 = 1 := by decide
  by_cases ce : k = 11
  · obtain ⟨z4, f4, r4, e1, e2, e3, e4⟩ := simEven hW hC hL d d' c3 (LRM.frn hM F3)
    refine ⟨x, z4, f4, r4, xcall_i (mq98 (cu := [])).2.2 rfl (vcn_98_0 (xcall (d + 6)) none z f _ ⟨_, _, a1, _, _, _, b1, _, _, c1, fun _ => ⟨_, _, e1, rfl⟩, fun q => ?_⟩), mcall_i (mq214 (cu := [])).2.2 rfl (vc214_0 (d' + 1) none none zr r _ (a2 _ (b2 _ (c2 x _ (vcc98_214_98 (d' + 1) x _ zr r3 _ ⟨fun _ => ⟨by decide, fun q => ?_, fun _ => ⟨_, _, e2, rfl⟩⟩, fun q => absurd q (by decide)⟩))) none)), e3, FRn.trans F3 e4⟩
    · rw [zh, ek, ik] at q
      omega
    · rw [x1, ek, ce] at q
      exact absurd rfl q
  · refine ⟨x, uZ z3 24 (z3 24 + 1), f3, uA r3 1 (upd (r3 1) 1 (r3 1 1 + 1)), xcall_i (mq98 (cu := [])).2.2 rfl (vcn_98_0 (xcall (d + 6)) none z f _ ⟨_, _, a1, _, _, _, b1, _, _, c1, fun q => ?_, fun _ => rfl⟩), mcall_i (mq214 (cu := [])).2.2 rfl (vc214_0 (d' + 1) none none zr r _ (a2 _ (b2 _ (c2 x _ (vcc98_214_98 (d' + 1) x _ zr r3 _ ⟨fun _ => ⟨by decide, fun _ => ⟨by decide, by decide, by rw [x1]⟩, fun q => ?_⟩, fun q => absurd q (by decide)⟩))) none)), ⟨cr_hourn (show k < 11 by omega) ek c3.1, (fun j hj => by rw [uA_ne (show (7 : Nat) ≠ 1 by decide)]; exact c3.2.1 j hj), c3.2.2⟩, FRn.trans F3 ⟨fun j hj => uZ_n (by omega), fun _ _ => rfl, fun k hk => uA_ne (fun q => hk (by rw [q]; decide))⟩⟩
    · rw [zh, ek, ik] at q
      omega
    · rw [x1, ek] at q
      have := congrArg I q
      rw [ik, show I 11 = 11 by decide] at this
      omega
end LAWTn
end TWs
