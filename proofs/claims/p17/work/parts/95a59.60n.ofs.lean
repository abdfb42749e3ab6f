/-! of: both sides -/
section TWs
variable {W : TXW}
set_option maxRecDepth 100000 in
theorem bt_148_1 (call : QC FA) (x1 : Int32) (o2 : Option PV) (o3 : Option PV) (o4 : Option PV) (o5 : Option PV) (o6 : Option PV) (z : Nat → Int32) (f : Nat → FA) (F : Nat) : xnG call 148 (F + 3) 0 [some (vR 1), some (vI x1), o2, o3, o4, o5, o6] [] (LW W z f) = xnG call 148 F 3 [some (vR 1), some (vI x1), o2, o3, o4, o5, o6] [vI 3, vR 7] (LW W z f) := rfl
set_option maxRecDepth 100000 in
theorem bt_148_2 (hW : WTX W) (call : QC FA) (hk : 3 < 4) (hp : pin 3 4 = true) (hc : ix 3 = 3) (ls : List (Option PV)) (z : Nat → Int32) (f : Nat → FA) (F : Nat) : xnG call 148 (F + 1) 3 ls [vI 3, vR 7] (LW W z f) = xnG call 148 F 4 ls [vR (wJ W 3 + 42)] (LW W z f) := gx_t (ih := xnG call 148 F) (t := 4) (st := []) hW hk hc hp
set_option maxRecDepth 100000 in
theorem bt_148_3 (call : QC FA) (x1 : Int32) (o2 : Option PV) (o3 : Option PV) (o4 : Option PV) (o5 : Option PV) (o6 : Option PV) (L : QH FA) (F : Nat) : xnG call 148 (F + 5) 4 [some (vR 1), some (vI x1), o2, o3, o4, o5, o6] [vR (wJ W 3 + 42)] L = xnG call 148 F 9 [some (vR 1), some (vI x1), some (vR (wJ W 3 + 42)), some (vI 0), some (vI 0), o5, o6] [] L := rfl
theorem vct_148_0 (hW : WTX W) (call : QC FA) (x1 : Int32) (o2 : Option PV) (o3 : Option PV) (o4 : Option PV) (o5 : Option PV) (o6 : Option PV) (z : Nat → Int32) (f : Nat → FA) (res : Option PV × QH FA) (H : XC call (mP 148) 9 [some (vR 1), some (vI x1), some (vR (wJ W 3 + 42)), some (vI 0), some (vI 0), o5, o6] [] (LW W z f) res) : XC call (mP 148) 0 [some (vR 1), some (vI x1), o2, o3, o4, o5, o6] [] (LW W z f) res := by
  refine xc_b (i' := 3) (ls' := [some (vR 1), some (vI x1), o2, o3, o4, o5, o6]) (st' := [vI 3, vR 7]) (L' := LW W z f) 3 (bt_148_1 call x1 o2 o3 o4 o5 o6 z f) ?_
  refine xc_b (i' := 4) (ls' := [some (vR 1), some (vI x1), o2, o3, o4, o5, o6]) (st' := [vR (wJ W 3 + 42)]) (L' := LW W z f) 1 (bt_148_2 hW call (by decide) (by decide) (by decide) _ z f) ?_
  refine xc_b (i' := 9) (ls' := [some (vR 1), some (vI x1), some (vR (wJ W 3 + 42)), some (vI 0), some (vI 0), o5, o6]) (st' := []) (L' := LW W z f) 5 (bt_148_3 call x1 o2 o3 o4 o5 o6 _) ?_
  exact H
set_option maxRecDepth 100000 in
theorem bt_c9_148_1 (call : QC FA) (x1 : Int32) (x3 : Int32) (x4 : Int32) (o5 : Option PV) (o6 : Option PV) (L : QH FA) (F : Nat) : xnG call 148 (F + 2) 9 [some (vR 1), some (vI x1), some (vR (wJ W 3 + 42)), some (vI x3), some (vI x4), o5, o6] [] L = xnG call 148 F 11 [some (vR 1), some (vI x1), some (vR (wJ W 3 + 42)), some (vI x3), some (vI x4), o5, o6] [vR (wJ W 3 + 42), vI x4] L := rfl
set_option maxRecDepth 100000 in
theorem bt_c9_148_2 (hW : WTX W) (hk : 3 < 4) (call : QC FA) (s0 : Int32) (ls : List (Option PV)) (z : Nat → Int32) (f : Nat → FA) (F : Nat) : xnG call 148 (F + 1) 11 ls [vR (wJ W 3 + 42), vI s0] (LW W z f) = xnG call 148 F 12 ls [vI (wn W 3), vI s0] (LW W z f) := gt_1 (ih := xnG call 148 F) (t := 12) (st := [vI s0]) hW hk
set_option maxRecDepth 100000 in
theorem bt_c9_148_3 (call : QC FA) (x y : Int32) (ls : List (Option PV)) (L : QH FA) (F : Nat) : xnG call 148 (F + 1) 12 ls [vI y, vI x] L = bif pcmp 3 x y then xnG call 148 F 43 ls [] L else xnG call 148 F 13 ls [] L := rfl
set_option maxRecDepth 100000 in
theorem bt_c9_148_4 (call : QC FA) (x1 : Int32) (x3 : Int32) (x4 : Int32) (o5 : Option PV) (o6 : Option PV) (L : QH FA) (F : Nat) : xnG call 148 (F + 1) 43 [some (vR 1), some (vI x1), some (vR (wJ W 3 + 42)), some (vI x3), some (vI x4), o5, o6] [] L = xnG call 148 F 44 [some (vR 1), some (vI x1), some (vR (wJ W 3 + 42)), some (vI x3), some (vI x4), o5, o6] [vI x3] L := rfl
set_option maxRecDepth 100000 in
theorem bt_c9_148_5 (call : QC FA) (x : Int32) (ls : List (Option PV)) (L : QH FA) (F : Nat) : xnG call 148 (F + 1) 44 ls [vI x] L = some (some (vI x), L) := rfl
set_option maxRecDepth 100000 in
theorem bt_c9_148_6 (call : QC FA) (x1 : Int32) (x3 : Int32) (x4 : Int32) (o5 : Option PV) (o6 : Option PV) (L : QH FA) (F : Nat) : xnG call 148 (F + 3) 13 [some (vR 1), some (vI x1), some (vR (wJ W 3 + 42)), some (vI x3), some (vI x4), o5, o6] [] L = xnG call 148 F 16 [some (vR 1), some (vI x1), some (vR (wJ W 3 + 42)), some (vI x3), some (vI x4), o5, o6] [vI 0, vI x4, vR (wJ W 3 + 42)] L := rfl
set_option maxRecDepth 100000 in
theorem bt_c9_148_7 (hW : WTX W) (hk : 3 < 4) (call : QC FA) (a0 : Int32) (a1 : Int32) (ls : List (Option PV)) (z : Nat → Int32) (f : Nat → FA) (F : Nat) : xnG call 148 (F + 1) 16 ls [vI a1, vI a0, vR (wJ W 3 + 42)] (LW W z f) = cbd (call 18 [vR (wJ W 3 + 42), vI a0, vI a1] (LW W z f)) (fun r L' => xnG call 148 F 17 ls (r.toList ++ []) L') := pcY (ih := xnG call 148 F) (call := call) (a := 18) (b := 2) (v := 8) (t := 17) (x := wJ W 3 + 42) (ls := ls) (As := [vI a0, vI a1]) (st' := []) (L := LW W z f) rfl (gj_t hW hk) rfl
set_option maxRecDepth 100000 in
theorem bt_c9_148_8 (call : QC FA) (x1 : Int32) (x3 : Int32) (x4 : Int32) (o5 : Option PV) (o6 : Option PV) (s0 : Int32) (L : QH FA) (F : Nat) : xnG call 148 (F + 4) 17 [some (vR 1), some (vI x1), some (vR (wJ W 3 + 42)), some (vI x3), some (vI x4), o5, o6] [vI s0] L = xnG call 148 F 21 [some (vR 1), some (vI x1), some (vR (wJ W 3 + 42)), some (vI x3), some (vI x4), some (vI s0), o6] [vI 1, vI x4, vR (wJ W 3 + 42)] L := rfl
set_option maxRecDepth 100000 in
theorem bt_c9_148_9 (hW : WTX W) (hk : 3 < 4) (call : QC FA) (a0 : Int32) (a1 : Int32) (ls : List (Option PV)) (z : Nat → Int32) (f : Nat → FA) (F : Nat) : xnG call 148 (F + 1) 21 ls [vI a1, vI a0, vR (wJ W 3 + 42)] (LW W z f) = cbd (call 18 [vR (wJ W 3 + 42), vI a0, vI a1] (LW W z f)) (fun r L' => xnG call 148 F 22 ls (r.toList ++ []) L') := pcY (ih := xnG call 148 F) (call := call) (a := 18) (b := 2) (v := 8) (t := 22) (x := wJ W 3 + 42) (ls := ls) (As := [vI a0, vI a1]) (st' := []) (L := LW W z f) rfl (gj_t hW hk) rfl
set_option maxRecDepth 100000 in
theorem bt_c9_148_10 (call : QC FA) (x1 : Int32) (x3 : Int32) (x4 : Int32) (x5 : Int32) (o6 : Option PV) (s0 : Int32) (L : QH FA) (F : Nat) : xnG call 148 (F + 3) 22 [some (vR 1), some (vI x1), some (vR (wJ W 3 + 42)), some (vI x3), some (vI x4), some (vI x5), o6] [vI s0] L = xnG call 148 F 25 [some (vR 1), some (vI x1), some (vR (wJ W 3 + 42)), some (vI x3), some (vI x4), some (vI x5), some (vI s0)] [vI x1, vI x5] L := rfl
set_option maxRecDepth 100000 in
theorem bt_c9_148_11 (call : QC FA) (x y : Int32) (ls : List (Option PV)) (L : QH FA) (F : Nat) : xnG call 148 (F + 1) 25 ls [vI y, vI x] L = bif pcmp 1 x y then xnG call 148 F 32 ls [] L else xnG call 148 F 26 ls [] L := rfl
set_option maxRecDepth 100000 in
theorem bt_c9_148_12 (call : QC FA) (x1 : Int32) (x3 : Int32) (x4 : Int32) (x5 : Int32) (x6 : Int32) (L : QH FA) (F : Nat) : xnG call 148 (F + 2) 32 [some (vR 1), some (vI x1), some (vR (wJ W 3 + 42)), some (vI x3), some (vI x4), some (vI x5), some (vI x6)] [] L = xnG call 148 F 34 [some (vR 1), some (vI x1), some (vR (wJ W 3 + 42)), some (vI x3), some (vI x4), some (vI x5), some (vI x6)] [vI x1, vI x6] L := rfl
set_option maxRecDepth 100000 in
theorem bt_c9_148_13 (call : QC FA) (x y : Int32) (ls : List (Option PV)) (L : QH FA) (F : Nat) : xnG call 148 (F + 1) 34 ls [vI y, vI x] L = bif pcmp 1 x y then xnG call 148 F 41 ls [] L else xnG call 148 F 35 ls [] L := rfl
set_option maxRecDepth 100000 in
theorem bt_c9_148_14 (call : QC FA) (x1 : Int32) (x3 : Int32) (x4 : Int32) (x5 : Int32) (x6 : Int32) (L : QH FA) (F : Nat) : xnG call 148 (F + 1) 41 [some (vR 1), some (vI x1), some (vR (wJ W 3 + 42)), some (vI x3), some (vI x4), some (vI x5), some (vI x6)] [] L = xnG call 148 F 42 [some (vR 1), some (vI x1), some (vR (wJ W 3 + 42)), some (vI x3), some (vI (x4 + 1)), some (vI x5), some (vI x6)] [] L := rfl
set_option maxRecDepth 100000 in
theorem bt_c9_148_15 (call : QC FA) (x1 : Int32) (x3 : Int32) (x4 : Int32) (x5 : Int32) (x6 : Int32) (L : QH FA) (F : Nat) : xnG call 148 (F + 1) 42 [some (vR 1), some (vI x1), some (vR (wJ W 3 + 42)), some (vI x3), some (vI x4), some (vI x5), some (vI x6)] [] L = xnG call 148 F 9 [some (vR 1), some (vI x1), some (vR (wJ W 3 + 42)), some (vI x3), some (vI x4), some (vI x5), some (vI x6)] [] L := rfl
set_option maxRecDepth 100000 in
theorem bt_c9_148_16 (call : QC FA) (x1 : Int32) (x3 : Int32) (x4 : Int32) (x5 : Int32) (x6 : Int32) (L : QH FA) (F : Nat) : xnG call 148 (F + 6) 35 [some (vR 1), some (vI x1), some (vR (wJ W 3 + 42)), some (vI x3), some (vI x4), some (vI x5), some (vI x6)] [] L = xnG call 148 F 41 [some (vR 1), some (vI x1), some (vR (wJ W 3 + 42)), some (vI (x3 ||| (1 <<< (x5 &&& 31)))), some (vI x4), some (vI x5), some (vI x6)] [] L := rfl
set_option maxRecDepth 100000 in
theorem bt_c9_148_17 (call : QC FA) (x1 : Int32) (x3 : Int32) (x4 : Int32) (x5 : Int32) (x6 : Int32) (L : QH FA) (F : Nat) : xnG call 148 (F + 8) 26 [some (vR 1), some (vI x1), some (vR (wJ W 3 + 42)), some (vI x3), some (vI x4), some (vI x5), some (vI x6)] [] L = xnG call 148 F 34 [some (vR 1), some (vI x1), some (vR (wJ W 3 + 42)), some (vI (x3 ||| (1 <<< (x6 &&& 31)))), some (vI x4), some (vI x5), some (vI x6)] [vI x1, vI x6] L := rfl
theorem vct_c9_148_9 (hW : WTX W) (call : QC FA) (x1 : Int32) (x3 : Int32) (x4 : Int32) (o5 : Option PV) (o6 : Option PV) (z : Nat → Int32) (f : Nat → FA) (res : Option PV × QH FA) (H : ((I (wn W 3) ≤ I x4 → res = (some (vI x3), LW W z f)) ∧ (I x4 < I (wn W 3) → (∃ (r1 : Int32) (z1 : Nat → Int32) (f1 : Nat → FA), call 18 [vR (wJ W 3 + 42), vI x4, vI 0] (LW W z f) = some (some (vI r1), LW W z1 f1) ∧ (∃ (r2 : Int32) (z2 : Nat → Int32) (f2 : Nat → FA), call 18 [vR (wJ W 3 + 42), vI x4, vI 1] (LW W z1 f1) = some (some (vI r2), LW W z2 f2) ∧ ((¬ r1 = x1 → ((¬ r2 = x1 → XC call (mP 148) 9 [some (vR 1), some (vI x1), some (vR (wJ W 3 + 42)), some (vI x3), some (vI (x4 + 1)), some (vI r1), some (vI r2)] [] (LW W z2 f2) res) ∧ (r2 = x1 → XC call (mP 148) 9 [some (vR 1), some (vI x1), some (vR (wJ W 3 + 42)), some (vI (x3 ||| (1 <<< (r1 &&& 31)))), some (vI (x4 + 1)), some (vI r1), some (vI r2)] [] (LW W z2 f2) res))) ∧ (r1 = x1 → ((¬ r2 = x1 → XC call (mP 148) 9 [some (vR 1), some (vI x1), some (vR (wJ W 3 + 42)), some (vI (x3 ||| (1 <<< (r2 &&& 31)))), some (vI (x4 + 1)), some (vI r1), some (vI r2)] [] (LW W z2 f2) res) ∧ (r2 = x1 → XC call (mP 148) 9 [some (vR 1), some (vI x1), some (vR (wJ W 3 + 42)), some (vI ((x3 ||| (1 <<< (r2 &&& 31))) ||| (1 <<< (r1 &&& 31)))), some (vI (x4 + 1)), some (vI r1), some (vI r2)] [] (LW W z2 f2) res))))))))) : XC call (mP 148) 9 [some (vR 1), some (vI x1), some (vR (wJ W 3 + 42)), some (vI x3), some (vI x4), o5, o6] [] (LW W z f) res := by
  refine xc_b (i' := 11) (ls' := [some (vR 1), some (vI x1), some (vR (wJ W 3 + 42)), some (vI x3), some (vI x4), o5, o6]) (st' := [vR (wJ W 3 + 42), vI x4]) (L' := LW W z f) 2 (bt_c9_148_1 call x1 x3 x4 o5 o6 _) ?_
  refine xc_b (i' := 12) (ls' := [some (vR 1), some (vI x1), some (vR (wJ W 3 + 42)), some (vI x3), some (vI x4), o5, o6]) (st' := [vI (wn W 3), vI x4]) (L' := LW W z f) 1 (bt_c9_148_2 hW (by decide) call x4 _ z f) ?_
  refine xc_if (it := 43) (ie := 13) (ls' := [some (vR 1), some (vI x1), some (vR (wJ W 3 + 42)), some (vI x3), some (vI x4), o5, o6]) (st' := []) (bt_c9_148_3 call x4 (wn W 3) _ _) (fun q1 => ?_) (fun q1 => ?_)
  · have H := H.1 (cI3t q1 rfl rfl)
    refine xc_b (i' := 44) (ls' := [some (vR 1), some (vI x1), some (vR (wJ W 3 + 42)), some (vI x3), some (vI x4), o5, o6]) (st' := [vI x3]) (L' := LW W z f) 1 (bt_c9_148_4 call x1 x3 x4 o5 o6 _) ?_
    subst H
    exact xc_ret (bt_c9_148_5 call _ _ _)
  · have H := H.2 (cI3f q1 rfl rfl)
    refine xc_b (i' := 16) (ls' := [some (vR 1), some (vI x1), some (vR (wJ W 3 + 42)), some (vI x3), some (vI x4), o5, o6]) (st' := [vI 0, vI x4, vR (wJ W 3 + 42)]) (L' := LW W z f) 3 (bt_c9_148_6 call x1 x3 x4 o5 o6 _) ?_
    obtain ⟨r1, z1, f1, hc, H⟩ := H
    refine xc_call (t := 17) (ls' := [some (vR 1), some (vI x1), some (vR (wJ W 3 + 42)), some (vI x3), some (vI x4), o5, o6]) (st' := []) (bt_c9_148_7 hW (by decide) call x4 0 _ z f) hc ?_
    show XC call (mP 148) 17 [some (vR 1), some (vI x1), some (vR (wJ W 3 + 42)), some (vI x3), some (vI x4), o5, o6] [vI r1] (LW W z1 f1) res
    refine xc_b (i' := 21) (ls' := [some (vR 1), some (vI x1), some (vR (wJ W 3 + 42)), some (vI x3), some (vI x4), some (vI r1), o6]) (st' := [vI 1, vI x4, vR (wJ W 3 + 42)]) (L' := LW W z1 f1) 4 (bt_c9_148_8 call x1 x3 x4 o5 o6 r1 _) ?_
    obtain ⟨r2, z2, f2, hc, H⟩ := H
    refine xc_call (t := 22) (ls' := [some (vR 1), some (vI x1), some (vR (wJ W 3 + 42)), some (vI x3), some (vI x4), some (vI r1), o6]) (st' := []) (bt_c9_148_9 hW (by decide) call x4 1 _ z1 f1) hc ?_
    show XC call (mP 148) 22 [some (vR 1), some (vI x1), some (vR (wJ W 3 + 42)), some (vI x3), some (vI x4), some (vI r1), o6] [vI r2] (LW W z2 f2) res
    refine xc_b (i' := 25) (ls' := [some (vR 1), some (vI x1), some (vR (wJ W 3 + 42)), some (vI x3), some (vI x4), some (vI r1), some (vI r2)]) (st' := [vI x1, vI r1]) (L' := LW W z2 f2) 3 (bt_c9_148_10 call x1 x3 x4 r1 o6 r2 _) ?_
    refine xc_if (it := 32) (ie := 26) (ls' := [some (vR 1), some (vI x1), some (vR (wJ W 3 + 42)), some (vI x3), some (vI x4), some (vI r1), some (vI r2)]) (st' := []) (bt_c9_148_11 call r1 x1 _ _) (fun q2 => ?_) (fun q2 => ?_)
    · have H := H.1 (cI1t q2)
      refine xc_b (i' := 34) (ls' := [some (vR 1), some (vI x1), some (vR (wJ W 3 + 42)), some (vI x3), some (vI x4), some (vI r1), some (vI r2)]) (st' := [vI x1, vI r2]) (L' := LW W z2 f2) 2 (bt_c9_148_12 call x1 x3 x4 r1 r2 _) ?_
      refine xc_if (it := 41) (ie := 35) (ls' := [some (vR 1), some (vI x1), some (vR (wJ W 3 + 42)), some (vI x3), some (vI x4), some (vI r1), some (vI r2)]) (st' := []) (bt_c9_148_13 call r2 x1 _ _) (fun q3 => ?_) (fun q3 => ?_)
      · have H := H.1 (cI1t q3)
        refine xc_b (i' := 42) (ls' := [some (vR 1), some (vI x1), some (vR (wJ W 3 + 42)), some (vI x3), some (vI (x4 + 1)), some (vI r1), some (vI r2)]) (st' := []) (L' := LW W z2 f2) 1 (bt_c9_148_14 call x1 x3 x4 r1 r2 _) ?_
        refine xc_b (i' := 9) (ls' := [some (vR 1), some (vI x1), some (vR (wJ W 3 + 42)), some (vI x3), some (vI (x4 + 1)), some (vI r1), some (vI r2)]) (st' := []) (L' := LW W z2 f2) 1 (bt_c9_148_15 call x1 x3 (x4 + 1) r1 r2 _) ?_
        exact H
      · have H := H.2 (cI1f q3)
        refine xc_b (i' := 41) (ls' := [some (vR 1), some (vI x1), some (vR (wJ W 3 + 42)), some (vI (x3 ||| (1 <<< (r1 &&& 31)))), some (vI x4), some (vI r1), some (vI r2)]) (st' := []) (L' := LW W z2 f2) 6 (bt_c9_148_16 call x1 x3 x4 r1 r2 _) ?_
        refine xc_b (i' := 42) (ls' := [some (vR 1), some (vI x1), some (vR (wJ W 3 + 42)), some (vI (x3 ||| (1 <<< (r1 &&& 31)))), some (vI (x4 + 1)), some (vI r1), some (vI r2)]) (st' := []) (L' := LW W z2 f2) 1 (bt_c9_148_14 call x1 (x3 ||| (1 <<< (r1 &&& 31))) x4 r1 r2 _) ?_
        refine xc_b (i' := 9) (ls' := [some (vR 1), some (vI x1), some (vR (wJ W 3 + 42)), some (vI (x3 ||| (1 <<< (r1 &&& 31)))), some (vI (x4 + 1)), some (vI r1), some (vI r2)]) (st' := []) (L' := LW W z2 f2) 1 (bt_c9_148_15 call x1 (x3 ||| (1 <<< (r1 &&& 31))) (x4 + 1) r1 r2 _) ?_
        exact H
    · have H := H.2 (cI1f q2)
      refine xc_b (i' := 34) (ls' := [some (vR 1), some (vI x1), some (vR (wJ W 3 + 42)), some (vI (x3 ||| (1 <<< (r2 &&& 31)))), some (vI x4), some (vI r1), some (vI r2)]) (st' := [vI x1, vI r2]) (L' := LW W z2 f2) 8 (bt_c9_148_17 call x1 x3 x4 r1 r2 _) ?_
      refine xc_if (it := 41) (ie := 35) (ls' := [some (vR 1), some (vI x1), some (vR (wJ W 3 + 42)), some (vI (x3 ||| (1 <<< (r2 &&& 31)))), some (vI x4), some (vI r1), some (vI r2)]) (st' := []) (bt_c9_148_13 call r2 x1 _ _) (fun q4 => ?_) (fun q4 => ?_)
      · have H := H.1 (cI1t q4)
        refine xc_b (i' := 42) (ls' := [some (vR 1), some (vI x1), some (vR (wJ W 3 + 42)), some (vI (x3 ||| (1 <<< (r2 &&& 31)))), some (vI (x4 + 1)), some (vI r1), some (vI r2)]) (st' := []) (L' := LW W z2 f2) 1 (bt_c9_148_14 call x1 (x3 ||| (1 <<< (r2 &&& 31))) x4 r1 r2 _) ?_
        refine xc_b (i' := 9) (ls' := [some (vR 1), some (vI x1), some (vR (wJ W 3 + 42)), some (vI (x3 ||| (1 <<< (r2 &&& 31)))), some (vI (x4 + 1)), some (vI r1), some (vI r2)]) (st' := []) (L' := LW W z2 f2) 1 (bt_c9_148_15 call x1 (x3 ||| (1 <<< (r2 &&& 31))) (x4 + 1) r1 r2 _) ?_
        exact H
      · have H := H.2 (cI1f q4)
        refine xc_b (i' := 41) (ls' := [some (vR 1), some (vI x1), some (vR (wJ W 3 + 42)), some (vI ((x3 ||| (1 <<< (r2 &&& 31))) ||| (1 <<< (r1 &&& 31)))), some (vI x4), some (vI r1), some (vI r2)]) (st' := []) (L' := LW W z2 f2) 6 (bt_c9_148_16 call x1 (x3 ||| (1 <<< (r2 &&& 31))) x4 r1 r2 _) ?_
        refine xc_b (i' := 42) (ls' := [some (vR 1), some (vI x1), some (vR (wJ W 3 + 42)), some (vI ((x3 ||| (1 <<< (r2 &&& 31))) ||| (1 <<< (r1 &&& 31)))), some (vI (x4 + 1)), some (vI r1), some (vI r2)]) (st' := []) (L' := LW W z2 f2) 1 (bt_c9_148_14 call x1 ((x3 ||| (1 <<< (r2 &&& 31))) ||| (1 <<< (r1 &&& 31))) x4 r1 r2 _) ?_
        refine xc_b (i' := 9) (ls' := [some (vR 1), some (vI x1), some (vR (wJ W 3 + 42)), some (vI ((x3 ||| (1 <<< (r2 &&& 31))) ||| (1 <<< (r1 &&& 31)))), some (vI (x4 + 1)), some (vI r1), some (vI r2)]) (st' := []) (L' := LW W z2 f2) 1 (bt_c9_148_15 call x1 ((x3 ||| (1 <<< (r2 &&& 31))) ||| (1 <<< (r1 &&& 31))) (x4 + 1) r1 r2 _) ?_
        exact H
set_option maxRecDepth 100000 in
theorem bt_171_1 (call : QC FA) (x1 : Int32) (x2 : Int32) (z : Nat → Int32) (f : Nat → FA) (F : Nat) : xnG call 171 (F + 4) 0 [some (vR 0), some (vI x1), some (vI x2)] [] (LW W z f) = xnG call 171 F 4 [some (vR 0), some (vI x1), some (vI x2)] [vI x1, vR 2] (LW W z f) := rfl
set_option maxRecDepth 100000 in
theorem bt_171_2 (call : QC FA) (a0 : Int32) (ls : List (Option PV)) (z : Nat → Int32) (f : Nat → FA) (F : Nat) : xnG call 171 (F + 1) 4 ls [vI a0, vR 2] (LW W z f) = cbd (call 14 [vR 2, vI a0] (LW W z f)) (fun r L' => xnG call 171 F 5 ls (r.toList ++ []) L') := pcY (ih := xnG call 171 F) (call := call) (a := 14) (b := 1) (v := 0) (t := 5) (x := 2) (ls := ls) (As := [vI a0]) (st' := []) (L := LW W z f) rfl rfl rfl
set_option maxRecDepth 100000 in
theorem bt_171_3 (call : QC FA) (x : Int32) (ls : List (Option PV)) (L : QH FA) (F : Nat) : xnG call 171 (F + 1) 5 ls [vI x] L = bif pcmp 0 x 0 then xnG call 171 F 11 ls [] L else xnG call 171 F 6 ls [] L := rfl
set_option maxRecDepth 100000 in
theorem bt_171_4 (call : QC FA) (x1 : Int32) (x2 : Int32) (L : QH FA) (F : Nat) : xnG call 171 (F + 1) 11 [some (vR 0), some (vI x1), some (vI x2)] [] L = xnG call 171 F 12 [some (vR 0), some (vI x1), some (vI x2)] [vI ((-2))] L := rfl
set_option maxRecDepth 100000 in
theorem bt_171_5 (call : QC FA) (x : Int32) (ls : List (Option PV)) (L : QH FA) (F : Nat) : xnG call 171 (F + 1) 12 ls [vI x] L = some (some (vI x), L) := rfl
set_option maxRecDepth 100000 in
theorem bt_171_6 (call : QC FA) (x1 : Int32) (x2 : Int32) (L : QH FA) (F : Nat) : xnG call 171 (F + 1) 6 [some (vR 0), some (vI x1), some (vI x2)] [] L = xnG call 171 F 7 [some (vR 0), some (vI x1), some (vI x2)] [vI x2] L := rfl
set_option maxRecDepth 100000 in
theorem bt_171_7 (call : QC FA) (x : Int32) (ls : List (Option PV)) (L : QH FA) (F : Nat) : xnG call 171 (F + 1) 7 ls [vI x] L = bif pcmp 2 x 0 then xnG call 171 F 11 ls [] L else xnG call 171 F 8 ls [] L := rfl
set_option maxRecDepth 100000 in
theorem bt_171_8 (call : QC FA) (x1 : Int32) (x2 : Int32) (L : QH FA) (F : Nat) : xnG call 171 (F + 2) 8 [some (vR 0), some (vI x1), some (vI x2)] [] L = xnG call 171 F 10 [some (vR 0), some (vI x1), some (vI x2)] [vI 7, vI x2] L := rfl
set_option maxRecDepth 100000 in
theorem bt_171_9 (call : QC FA) (x y : Int32) (ls : List (Option PV)) (L : QH FA) (F : Nat) : xnG call 171 (F + 1) 10 ls [vI y, vI x] L = bif pcmp 5 x y then xnG call 171 F 13 ls [] L else xnG call 171 F 11 ls [] L := rfl
set_option maxRecDepth 100000 in
theorem bt_171_10 (call : QC FA) (x1 : Int32) (x2 : Int32) (L : QH FA) (F : Nat) : xnG call 171 (F + 2) 13 [some (vR 0), some (vI x1), some (vI x2)] [] L = xnG call 171 F 15 [some (vR 0), some (vI x1), some (vI x2)] [vI 6, vI x2] L := rfl
set_option maxRecDepth 100000 in
theorem bt_171_11 (call : QC FA) (x y : Int32) (ls : List (Option PV)) (L : QH FA) (F : Nat) : xnG call 171 (F + 1) 15 ls [vI y, vI x] L = bif pcmp 1 x y then xnG call 171 F 21 ls [] L else xnG call 171 F 16 ls [] L := rfl
set_option maxRecDepth 100000 in
theorem bt_171_12 (call : QC FA) (x1 : Int32) (x2 : Int32) (L : QH FA) (F : Nat) : xnG call 171 (F + 2) 21 [some (vR 0), some (vI x1), some (vI x2)] [] L = xnG call 171 F 23 [some (vR 0), some (vI x1), some (vI x2)] [vI 7, vI x2] L := rfl
set_option maxRecDepth 100000 in
theorem bt_171_13 (call : QC FA) (x y : Int32) (ls : List (Option PV)) (L : QH FA) (F : Nat) : xnG call 171 (F + 1) 23 ls [vI y, vI x] L = bif pcmp 1 x y then xnG call 171 F 29 ls [] L else xnG call 171 F 24 ls [] L := rfl
set_option maxRecDepth 100000 in
theorem bt_171_14 (call : QC FA) (x1 : Int32) (x2 : Int32) (z : Nat → Int32) (f : Nat → FA) (F : Nat) : xnG call 171 (F + 5) 29 [some (vR 0), some (vI x1), some (vI x2)] [] (LW W z f) = xnG call 171 F 34 [some (vR 0), some (vI x1), some (vI x2)] [vI x2, vI x1, vR 2] (LW W z f) := rfl
set_option maxRecDepth 100000 in
theorem bt_171_15 (call : QC FA) (a0 : Int32) (a1 : Int32) (ls : List (Option PV)) (z : Nat → Int32) (f : Nat → FA) (F : Nat) : xnG call 171 (F + 1) 34 ls [vI a1, vI a0, vR 2] (LW W z f) = cbd (call 13 [vR 2, vI a0, vI a1] (LW W z f)) (fun r L' => xnG call 171 F 35 ls (r.toList ++ []) L') := pcY (ih := xnG call 171 F) (call := call) (a := 13) (b := 2) (v := 0) (t := 35) (x := 2) (ls := ls) (As := [vI a0, vI a1]) (st' := []) (L := LW W z f) rfl rfl rfl
set_option maxRecDepth 100000 in
theorem bt_171_16 (call : QC FA) (x : Int32) (ls : List (Option PV)) (L : QH FA) (F : Nat) : xnG call 171 (F + 1) 35 ls [vI x] L = some (some (vI x), L) := rfl
set_option maxRecDepth 100000 in
theorem bt_171_17 (call : QC FA) (x1 : Int32) (x2 : Int32) (z : Nat → Int32) (f : Nat → FA) (F : Nat) : xnG call 171 (F + 3) 24 [some (vR 0), some (vI x1), some (vI x2)] [] (LW W z f) = xnG call 171 F 27 [some (vR 0), some (vI x1), some (vI x2)] [vI x1, vR 1] (LW W z f) := rfl
set_option maxRecDepth 100000 in
theorem bt_171_18 (call : QC FA) (a0 : Int32) (ls : List (Option PV)) (z : Nat → Int32) (f : Nat → FA) (F : Nat) : xnG call 171 (F + 1) 27 ls [vI a0, vR 1] (LW W z f) = cbd (call 148 [vR 1, vI a0] (LW W z f)) (fun r L' => xnG call 171 F 28 ls (r.toList ++ []) L') := pcY (ih := xnG call 171 F) (call := call) (a := 148) (b := 1) (v := 10) (t := 28) (x := 1) (ls := ls) (As := [vI a0]) (st' := []) (L := LW W z f) rfl rfl rfl
set_option maxRecDepth 100000 in
theorem bt_171_19 (call : QC FA) (x1 : Int32) (x2 : Int32) (s0 : Int32) (L : QH FA) (F : Nat) : xnG call 171 (F + 1) 28 [some (vR 0), some (vI x1), some (vI x2)] [vI s0] L = xnG call 171 F 35 [some (vR 0), some (vI x1), some (vI x2)] [vI s0] L := rfl
set_option maxRecDepth 100000 in
theorem bt_171_20 (call : QC FA) (x1 : Int32) (x2 : Int32) (z : Nat → Int32) (f : Nat → FA) (F : Nat) : xnG call 171 (F + 3) 16 [some (vR 0), some (vI x1), some (vI x2)] [] (LW W z f) = xnG call 171 F 19 [some (vR 0), some (vI x1), some (vI x2)] [vI x1, vR 8] (LW W z f) := rfl
set_option maxRecDepth 100000 in
theorem bt_171_21 (call : QC FA) (a0 : Int32) (ls : List (Option PV)) (z : Nat → Int32) (f : Nat → FA) (F : Nat) : xnG call 171 (F + 1) 19 ls [vI a0, vR 8] (LW W z f) = cbd (call 92 [vR 8, vI a0] (LW W z f)) (fun r L' => xnG call 171 F 20 ls (r.toList ++ []) L') := pcY (ih := xnG call 171 F) (call := call) (a := 92) (b := 1) (v := 1) (t := 20) (x := 8) (ls := ls) (As := [vI a0]) (st' := []) (L := LW W z f) rfl rfl rfl
set_option maxRecDepth 100000 in
theorem bt_171_22 (call : QC FA) (x : Int32) (ls : List (Option PV)) (L : QH FA) (F : Nat) : xnG call 171 (F + 1) 20 ls [vI x] L = some (some (vI x), L) := rfl
theorem vct_171_0 (call : QC FA) (x1 : Int32) (x2 : Int32) (z : Nat → Int32) (f : Nat → FA) (res : Option PV × QH FA) (H : (∃ (r1 : Int32) (z1 : Nat → Int32) (f1 : Nat → FA), call 14 [vR 2, vI x1] (LW W z f) = some (some (vI r1), LW W z1 f1) ∧ ((r1 = 0 → res = (some (vI ((-2))), LW W z1 f1)) ∧ (¬ r1 = 0 → ((I x2 < 0 → res = (some (vI ((-2))), LW W z1 f1)) ∧ (0 ≤ I x2 → ((I x2 ≤ 7 → ((¬ x2 = 6 → ((¬ x2 = 7 → (∃ (r2 : Int32) (z2 : Nat → Int32) (f2 : Nat → FA), call 13 [vR 2, vI x1, vI x2] (LW W z1 f1) = some (some (vI r2), LW W z2 f2) ∧ res = (some (vI r2), LW W z2 f2))) ∧ (x2 = 7 → (∃ (r3 : Int32) (z3 : Nat → Int32) (f3 : Nat → FA), call 148 [vR 1, vI x1] (LW W z1 f1) = some (some (vI r3), LW W z3 f3) ∧ res = (some (vI r3), LW W z3 f3))))) ∧ (x2 = 6 → (∃ (r4 : Int32) (z4 : Nat → Int32) (f4 : Nat → FA), call 92 [vR 8, vI x1] (LW W z1 f1) = some (some (vI r4), LW W z4 f4) ∧ res = (some (vI r4), LW W z4 f4))))) ∧ (7 < I x2 → res = (some (vI ((-2))), LW W z1 f1))))))))) : XC call (mP 171) 0 [some (vR 0), some (vI x1), some (vI x2)] [] (LW W z f) res := by
  refine xc_b (i' := 4) (ls' := [some (vR 0), some (vI x1), some (vI x2)]) (st' := [vI x1, vR 2]) (L' := LW W z f) 4 (bt_171_1 call x1 x2 z f) ?_
  obtain ⟨r1, z1, f1, hc, H⟩ := H
  refine xc_call (t := 5) (ls' := [some (vR 0), some (vI x1), some (vI x2)]) (st' := []) (bt_171_2 call x1 _ z f) hc ?_
  show XC call (mP 171) 5 [some (vR 0), some (vI x1), some (vI x2)] [vI r1] (LW W z1 f1) res
  refine xc_if (it := 11) (ie := 6) (ls' := [some (vR 0), some (vI x1), some (vI x2)]) (st' := []) (bt_171_3 call r1 _ _) (fun q1 => ?_) (fun q1 => ?_)
  · have H := H.1 (cI0t q1)
    refine xc_b (i' := 12) (ls' := [some (vR 0), some (vI x1), some (vI x2)]) (st' := [vI ((-2))]) (L' := LW W z1 f1) 1 (bt_171_4 call x1 x2 _) ?_
    subst H
    exact xc_ret (bt_171_5 call _ _ _)
  · have H := H.2 (cI0f q1)
    refine xc_b (i' := 7) (ls' := [some (vR 0), some (vI x1), some (vI x2)]) (st' := [vI x2]) (L' := LW W z1 f1) 1 (bt_171_6 call x1 x2 _) ?_
    refine xc_if (it := 11) (ie := 8) (ls' := [some (vR 0), some (vI x1), some (vI x2)]) (st' := []) (bt_171_7 call x2 _ _) (fun q2 => ?_) (fun q2 => ?_)
    · have H := H.1 (cI2t q2 rfl rfl)
      refine xc_b (i' := 12) (ls' := [some (vR 0), some (vI x1), some (vI x2)]) (st' := [vI ((-2))]) (L' := LW W z1 f1) 1 (bt_171_4 call x1 x2 _) ?_
      subst H
      exact xc_ret (bt_171_5 call _ _ _)
    · have H := H.2 (cI2f q2 rfl rfl)
      refine xc_b (i' := 10) (ls' := [some (vR 0), some (vI x1), some (vI x2)]) (st' := [vI 7, vI x2]) (L' := LW W z1 f1) 2 (bt_171_8 call x1 x2 _) ?_
      refine xc_if (it := 13) (ie := 11) (ls' := [some (vR 0), some (vI x1), some (vI x2)]) (st' := []) (bt_171_9 call x2 7 _ _) (fun q3 => ?_) (fun q3 => ?_)
      · have H := H.1 (cI5t q3 rfl rfl)
        refine xc_b (i' := 15) (ls' := [some (vR 0), some (vI x1), some (vI x2)]) (st' := [vI 6, vI x2]) (L' := LW W z1 f1) 2 (bt_171_10 call x1 x2 _) ?_
        refine xc_if (it := 21) (ie := 16) (ls' := [some (vR 0), some (vI x1), some (vI x2)]) (st' := []) (bt_171_11 call x2 6 _ _) (fun q4 => ?_) (fun q4 => ?_)
        · have H := H.1 (cI1t q4)
          refine xc_b (i' := 23) (ls' := [some (vR 0), some (vI x1), some (vI x2)]) (st' := [vI 7, vI x2]) (L' := LW W z1 f1) 2 (bt_171_12 call x1 x2 _) ?_
          refine xc_if (it := 29) (ie := 24) (ls' := [some (vR 0), some (vI x1), some (vI x2)]) (st' := []) (bt_171_13 call x2 7 _ _) (fun q5 => ?_) (fun q5 => ?_)
          · have H := H.1 (cI1t q5)
            refine xc_b (i' := 34) (ls' := [some (vR 0), some (vI x1), some (vI x2)]) (st' := [vI x2, vI x1, vR 2]) (L' := LW W z1 f1) 5 (bt_171_14 call x1 x2 z1 f1) ?_
            obtain ⟨r2, z2, f2, hc, H⟩ := H
            refine xc_call (t := 35) (ls' := [some (vR 0), some (vI x1), some (vI x2)]) (st' := []) (bt_171_15 call x1 x2 _ z1 f1) hc ?_
            show XC call (mP 171) 35 [some (vR 0), some (vI x1), some (vI x2)] [vI r2] (LW W z2 f2) res
            subst H
            exact xc_ret (bt_171_16 call _ _ _)
          · have H := H.2 (cI1f q5)
            refine xc_b (i' := 27) (ls' := [some (vR 0), some (vI x1), some (vI x2)]) (st' := [vI x1, vR 1]) (L' := LW W z1 f1) 3 (bt_171_17 call x1 x2 z1 f1) ?_
            obtain ⟨r3, z3, f3, hc, H⟩ := H
            refine xc_call (t := 28) (ls' := [some (vR 0), some (vI x1), some (vI x2)]) (st' := []) (bt_171_18 call x1 _ z1 f1) hc ?_
            show XC call (mP 171) 28 [some (vR 0), some (vI x1), some (vI x2)] [vI r3] (LW W z3 f3) res
            refine xc_b (i' := 35) (ls' := [some (vR 0), some (vI x1), some (vI x2)]) (st' := [vI r3]) (L' := LW W z3 f3) 1 (bt_171_19 call x1 x2 r3 _) ?_
            subst H
            exact xc_ret (bt_171_16 call _ _ _)
        · have H := H.2 (cI1f q4)
          refine xc_b (i' := 19) (ls' := [some (vR 0), some (vI x1), some (vI x2)]) (st' := [vI x1, vR 8]) (L' := LW W z1 f1) 3 (bt_171_20 call x1 x2 z1 f1) ?_
          obtain ⟨r4, z4, f4, hc, H⟩ := H
          refine xc_call (t := 20) (ls' := [some (vR 0), some (vI x1), some (vI x2)]) (st' := []) (bt_171_21 call x1 _ z1 f1) hc ?_
          show XC call (mP 171) 20 [some (vR 0), some (vI x1), some (vI x2)] [vI r4] (LW W z4 f4) res
          subst H
          exact xc_ret (bt_171_22 call _ _ _)
      · have H := H.2 (cI5f q3 rfl rfl)
        refine xc_b (i' := 12) (ls' := [some (vR 0), some (vI x1), some (vI x2)]) (st' := [vI ((-2))]) (L' := LW W z1 f1) 1 (bt_171_4 call x1 x2 _) ?_
        subst H
        exact xc_ret (bt_171_5 call _ _ _)
theorem twS_s {g : FA} {x : Int32} {i : Nat} : twS g x (i + 1) = if g (5 * i + 1) = x then (if g (5 * i + 0) = x then twS g x i ||| (1 <<< (g (5 * i + 1) &&& 31)) else twS g x i) ||| (1 <<< (g (5 * i + 0) &&& 31)) else if g (5 * i + 0) = x then twS g x i ||| (1 <<< (g (5 * i + 1) &&& 31)) else twS g x i := rfl
theorem wTwins (hW : WTX W) (d : Nat) {nt : Nat} (h1 : nt ≤ 16) (h2 : wn W 3 = nI nt) (h3 : wN W 3 = 5 * nt) (x : Int32) {z : Nat → Int32} {f : Nat → FA} : xcall (d + 2) 148 [vR 1, vI x] (LW W z f) = some (some (vI (twS (wg W 3) x nt)), LW W z f) := by
  have lp : ∀ t i, i + t = nt → ∀ o5 o6, XC (xcall (d + 1)) (mP 148) 9 [some (vR 1), some (vI x), some (vR (wJ W 3 + 42)), some (vI (twS (wg W 3) x i)), some (vI (nI i)), o5, o6] [] (LW W z f) (some (vI (twS (wg W 3) x nt)), LW W z f) := by
    intro t
    induction t with
    | zero =>
      intro i hi o5 o6
      obtain rfl : i = nt := by omega
      refine vct_c9_148_9 hW _ _ _ _ _ _ _ _ _ ⟨fun _ => rfl, fun q => ?_⟩
      rw [h2] at q
      exact absurd q (Int.lt_irrefl _)
    | succ t ih =>
      intro i hi o5 o6
      have ii : I (nI i) = i := I_nI (by omega)
      have iw : I (wn W 3) = nt := by rw [h2]; exact I_nI (by omega)
      have e1 : nI i + 1 = nI (i + 1) := nI_add i 1
      have n0 := wNum hW (by decide) d h2 h1 h3 (i := i) (by omega) (w := 0) (by omega) (z := z) (f := f)
      have n1 := wNum hW (by decide) d h2 h1 h3 (i := i) (by omega) (w := 1) (by omega) (z := z) (f := f)
      have h := ih (i + 1) (by omega)
      refine vct_c9_148_9 hW _ _ _ _ _ _ _ _ _ ⟨fun q => by omega, fun _ => ⟨_, _, _, n0, _, _, _, n1, fun q1 => ⟨fun q2 => ?_, fun q2 => ?_⟩, fun q1 => ⟨fun q2 => ?_, fun q2 => ?_⟩⟩⟩
      all_goals
        have h := h (some (vI (wg W 3 (5 * i + 0)))) (some (vI (wg W 3 (5 * i + 1))))
        rw [e1]
        rw [twS_s] at h
        first
        | (rw [if_neg q2, if_neg q1] at h; exact h)
        | (rw [if_pos q2, if_neg q1] at h; exact h)
        | (rw [if_neg q2, if_pos q1] at h; exact h)
        | (rw [if_pos q2, if_pos q1] at h; exact h)
  exact xcall_i (mq148 (cu := [])).2.2 rfl (vct_148_0 hW (xcall (d + 1)) x none none none none none z f _ (lp nt 0 (by omega) none none))
section OFS
variable {L : LAW} {n nv nw ns nt : Nat}
/-- of a voter -/
theorem simOfU (hW : WTX W) (hC : LWC W 0 L n) (hL : LOK L n) (d d' : Nat) {c : Nat} {z zr : Nat → Int32} {f r : Nat → FA} (x y : Int32) (hR : WR W L n nv nw ns z f zr r) (hG : RGA c c c nv z f zr r) (hT : TWR W nt (r 20)) : ∃ a z' f' zr' r' c', xcall (d + 5) 171 [vR 0, vI x, vI y] (LW W z f) = some (some (vI a), LW W z' f') ∧ mcall (d' + 6) 244 [vR 0, vI x, vI y] (LR zr r) = some (some (vI a), LR zr' r') ∧ WR W L n nv nw ns z' f' zr' r' ∧ RGA c' c' c' nv z' f' zr' r' ∧ HF z f zr r z' f' zr' r' := by
  have hn := hR.1.1.1
  have zv : z 22 = nI nv := hR.1.1.2.1.1
  have R0 := hR.z0
  have G0 := hG.z0
  have hs := wHasn (W := W) (d + 3) x (f := f) zv hn
  have mv := mVoter (d' + 4) x hn (r := r) R0.2.2.2.2
  by_cases cv : 0 ≤ I x ∧ I x < nv
  · rw [mk1_t cv] at hs mv
    obtain ⟨v, rfl, v1, v2⟩ := nI_ofI cv.1
    have hv : v < nv := by omega
    obtain ⟨b1, b2, b3, b4, b5, b6, -⟩ := hR.1.1.2.2.1 v hv
    have w4 : f 3 v = r 4 v := b1
    have w7 : f 3 (20 + v) = r 1 (7 + v) := b2
    have w5 : f 3 (40 + v) = r 5 v := b3
    have w6 : f 3 (60 + v) = r 6 v := b4
    have w27 : f 3 (80 + v) = r 1 (27 + v) := b5
    have w47 : f 3 (100 + v) = r 1 (47 + v) := b6
    have e7 : (7 : Int32) + nI v = nI (7 + v) := nI_add 7 v
    have e27 : (27 : Int32) + nI v = nI (27 + v) := nI_add 27 v
    have e47 : (47 : Int32) + nI v = nI (47 + v) := nI_add 47 v
    have pv : pin (nI v) 20 = true := pin_nI (by omega) (by omega)
    have p40 : pin (nI v) 40 = true := pin_nI (by omega) (by omega)
    have xv : ix (nI v) = v := ix_nI (by omega)
    have p7 : pin (7 + nI v) 499 = true := by rw [e7]; exact pin_nI (by omega) (by omega)
    have p27 : pin (27 + nI v) 499 = true := by rw [e27]; exact pin_nI (by omega) (by omega)
    have p47 : pin (47 + nI v) 499 = true := by rw [e47]; exact pin_nI (by omega) (by omega)
    have x7 : ix (7 + nI v) = 7 + v := by rw [e7]; exact ix_nI (by omega)
    have x27 : ix (27 + nI v) = 27 + v := by rw [e27]; exact ix_nI (by omega)
    have x47 : ix (47 + nI v) = 47 + v := by rw [e47]; exact ix_nI (by omega)
    obtain ⟨t1, t2, t3, t4⟩ := hT
    have tw := t4 v (by omega)
    by_cases cy : 0 ≤ I y ∧ I y ≤ 7
    · obtain ⟨w, rfl, u1, u2⟩ := nI_ofI cy.1
      have iu : I (nI w) = w := I_nI (by omega)
      have cls : ∀ res, _ → xcall (d + 5) 171 [vR 0, vI (nI v), vI (nI w)] (LW W z f) = some res := fun res H => xcall_i (mq171 (cu := [])).2.2 rfl (vct_171_0 (xcall (d + 4)) _ _ z f res ⟨_, _, _, hs, fun q => absurd q (by decide), fun _ => ⟨fun q => by omega, fun _ => ⟨fun _ => H, fun q => by omega⟩⟩⟩)
      rcases (show w = 0 ∨ w = 1 ∨ w = 2 ∨ w = 3 ∨ w = 4 ∨ w = 5 ∨ w = 6 ∨ w = 7 by omega) with rfl | rfl | rfl | rfl | rfl | rfl | rfl | rfl
      · have tr := wTraitn (W := W) (d + 2) (f := f) (w := 0) zv hn hv (by omega)
        rw [show 20 * 0 + v = v by omega] at tr
        exact ⟨_, z, f, uZ zr 0 0, r, c, cls _ ⟨fun _ => ⟨fun _ => ⟨_, _, _, tr, rfl⟩, fun q => absurd q (by decide)⟩, fun q => absurd q (by decide)⟩, mcall_i (mq244 (cu := [])).2.2 rfl (vc244_0 d' _ _ zr r _ ⟨_, _, _, mv, fun _ => ⟨fun q => absurd rfl q, fun _ => ⟨pv, by rw [xv, ← w4]⟩⟩, fun q => absurd q (by decide)⟩), R0, G0, HF.z0 z f zr r⟩
      · have tr := wTraitn (W := W) (d + 2) (f := f) (w := 1) zv hn hv (by omega)
        rw [show 20 * 1 + v = 20 + v by omega] at tr
        exact ⟨_, z, f, uZ zr 0 0, r, c, cls _ ⟨fun _ => ⟨fun _ => ⟨_, _, _, tr, rfl⟩, fun q => absurd q (by decide)⟩, fun q => absurd q (by decide)⟩, mcall_i (mq244 (cu := [])).2.2 rfl (vc244_0 d' _ _ zr r _ ⟨_, _, _, mv, fun _ => ⟨fun _ => ⟨fun q => absurd rfl q, fun _ => ⟨p7, by rw [x7, ← w7]⟩⟩, fun q => absurd q (by decide)⟩, fun q => absurd q (by decide)⟩), R0, G0, HF.z0 z f zr r⟩
      · have tr := wTraitn (W := W) (d + 2) (f := f) (w := 2) zv hn hv (by omega)
        rw [show 20 * 2 + v = 40 + v by omega] at tr
        exact ⟨_, z, f, uZ zr 0 0, r, c, cls _ ⟨fun _ => ⟨fun _ => ⟨_, _, _, tr, rfl⟩, fun q => absurd q (by decide)⟩, fun q => absurd q (by decide)⟩, mcall_i (mq244 (cu := [])).2.2 rfl (vc244_0 d' _ _ zr r _ ⟨_, _, _, mv, fun _ => ⟨fun _ => ⟨fun _ => ⟨fun q => absurd rfl q, fun _ => ⟨pv, by rw [xv, ← w5]⟩⟩, fun q => absurd q (by decide)⟩, fun q => absurd q (by decide)⟩, fun q => absurd q (by decide)⟩), R0, G0, HF.z0 z f zr r⟩
      · have tr := wTraitn (W := W) (d + 2) (f := f) (w := 3) zv hn hv (by omega)
        rw [show 20 * 3 + v = 60 + v by omega] at tr
        exact ⟨_, z, f, uZ zr 0 0, r, c, cls _ ⟨fun _ => ⟨fun _ => ⟨_, _, _, tr, rfl⟩, fun q => absurd q (by decide)⟩, fun q => absurd q (by decide)⟩, mcall_i (mq244 (cu := [])).2.2 rfl (vc244_0 d' _ _ zr r _ ⟨_, _, _, mv, fun _ => ⟨fun _ => ⟨fun _ => ⟨fun _ => ⟨fun q => absurd rfl q, fun _ => ⟨pv, by rw [xv, ← w6]⟩⟩, fun q => absurd q (by decide)⟩, fun q => absurd q (by decide)⟩, fun q => absurd q (by decide)⟩, fun q => absurd q (by decide)⟩), R0, G0, HF.z0 z f zr r⟩
      · have tr := wTraitn (W := W) (d + 2) (f := f) (w := 4) zv hn hv (by omega)
        rw [show 20 * 4 + v = 80 + v by omega] at tr
        exact ⟨_, z, f, uZ zr 0 0, r, c, cls _ ⟨fun _ => ⟨fun _ => ⟨_, _, _, tr, rfl⟩, fun q => absurd q (by decide)⟩, fun q => absurd q (by decide)⟩, mcall_i (mq244 (cu := [])).2.2 rfl (vc244_0 d' _ _ zr r _ ⟨_, _, _, mv, fun _ => ⟨fun _ => ⟨fun _ => ⟨fun _ => ⟨fun _ => ⟨fun q => absurd rfl q, fun _ => ⟨p27, by rw [x27, ← w27]⟩⟩, fun q => absurd q (by decide)⟩, fun q => absurd q (by decide)⟩, fun q => absurd q (by decide)⟩, fun q => absurd q (by decide)⟩, fun q => absurd q (by decide)⟩), R0, G0, HF.z0 z f zr r⟩
      · have tr := wTraitn (W := W) (d + 2) (f := f) (w := 5) zv hn hv (by omega)
        rw [show 20 * 5 + v = 100 + v by omega] at tr
        exact ⟨_, z, f, uZ zr 0 0, r, c, cls _ ⟨fun _ => ⟨fun _ => ⟨_, _, _, tr, rfl⟩, fun q => absurd q (by decide)⟩, fun q => absurd q (by decide)⟩, mcall_i (mq244 (cu := [])).2.2 rfl (vc244_0 d' _ _ zr r _ ⟨_, _, _, mv, fun _ => ⟨fun _ => ⟨fun _ => ⟨fun _ => ⟨fun _ => ⟨fun _ => ⟨fun q => absurd rfl q, fun _ => ⟨p47, by rw [x47, ← w47]⟩⟩, fun q => absurd q (by decide)⟩, fun q => absurd q (by decide)⟩, fun q => absurd q (by decide)⟩, fun q => absurd q (by decide)⟩, fun q => absurd q (by decide)⟩, fun q => absurd q (by decide)⟩), R0, G0, HF.z0 z f zr r⟩
      · obtain ⟨a, f1, r1, -, s1, s2, s3⟩ := simComen hW hC hL d d' hv R0.1 R0.2.1
        have F1 := s3.fr (z := z)
        have H1 := (HF.z0 z f zr r).trans (F1.hf (uZ zr 0 0))
        exact ⟨a, z, f1, uZ zr 0 0, r1, c, cls _ ⟨fun q => absurd rfl q, fun _ => ⟨_, _, _, s1, rfl⟩⟩, mcall_i (mq244 (cu := [])).2.2 rfl (vc244_0 d' _ _ zr r _ ⟨_, _, _, mv, fun _ => ⟨fun _ => ⟨fun _ => ⟨fun _ => ⟨fun _ => ⟨fun _ => ⟨fun _ => ⟨fun q => absurd rfl q, fun _ => ⟨_, _, _, s2, rfl⟩⟩, fun q => absurd q (by decide)⟩, fun q => absurd q (by decide)⟩, fun q => absurd q (by decide)⟩, fun q => absurd q (by decide)⟩, fun q => absurd q (by decide)⟩, fun q => absurd q (by decide)⟩, fun q => absurd q (by decide)⟩), hR.hf (s3.rl R0.1) H1, G0.fr F1, H1⟩
      · exact ⟨_, z, f, uZ zr 0 0, r, c, cls _ ⟨fun _ => ⟨fun q => absurd rfl q, fun _ => ⟨_, _, _, wTwins hW (d + 2) t1 t2 t3 (nI v), rfl⟩⟩, fun q => absurd q (by decide)⟩, mcall_i (mq244 (cu := [])).2.2 rfl (vc244_0 d' _ _ zr r _ ⟨_, _, _, mv, fun _ => ⟨fun _ => ⟨fun _ => ⟨fun _ => ⟨fun _ => ⟨fun _ => ⟨fun _ => ⟨fun _ => ⟨fun q => absurd rfl q, fun _ => ⟨p40, by rw [xv, tw]⟩⟩, fun q => absurd q (by decide)⟩, fun q => absurd q (by decide)⟩, fun q => absurd q (by decide)⟩, fun q => absurd q (by decide)⟩, fun q => absurd q (by decide)⟩, fun q => absurd q (by decide)⟩, fun q => absurd q (by decide)⟩, fun q => absurd q (by decide)⟩), R0, G0, HF.z0 z f zr r⟩
    · have ny : ∀ k : Nat, k < 8 → ¬ y = nI k := fun k hk q => cy (by rw [q, I_nI (by omega)]; omega)
      exact ⟨-2, z, f, uZ zr 0 0, r, c, xcall_i (mq171 (cu := [])).2.2 rfl (vct_171_0 (xcall (d + 4)) _ _ z f _ ⟨_, _, _, hs, fun q => absurd q (by decide), fun _ => ⟨fun _ => rfl, fun q => ⟨fun q2 => absurd ⟨q, q2⟩ cy, fun _ => rfl⟩⟩⟩), mcall_i (mq244 (cu := [])).2.2 rfl (vc244_0 d' _ _ zr r _ ⟨_, _, _, mv, fun _ => ⟨fun _ => ⟨fun _ => ⟨fun _ => ⟨fun _ => ⟨fun _ => ⟨fun _ => ⟨fun _ => ⟨fun _ => rfl, fun q => absurd q (ny 7 (by decide))⟩, fun q => absurd q (ny 6 (by decide))⟩, fun q => absurd q (ny 5 (by decide))⟩, fun q => absurd q (ny 4 (by decide))⟩, fun q => absurd q (ny 3 (by decide))⟩, fun q => absurd q (ny 2 (by decide))⟩, fun q => absurd q (ny 1 (by decide))⟩, fun q => absurd q (ny 0 (by decide))⟩, fun q => absurd q (by decide)⟩), R0, G0, HF.z0 z f zr r⟩
  · rw [mk1_f cv] at hs mv
    exact ⟨-2, z, f, uZ zr 0 0, r, c, xcall_i (mq171 (cu := [])).2.2 rfl (vct_171_0 (xcall (d + 4)) _ _ z f _ ⟨_, _, _, hs, fun _ => rfl, fun q => absurd rfl q⟩), mcall_i (mq244 (cu := [])).2.2 rfl (vc244_0 d' _ _ zr r _ ⟨_, _, _, mv, fun q => absurd rfl q, fun _ => rfl⟩), R0, G0, HF.z0 z f zr r⟩
end OFS
end TWs
