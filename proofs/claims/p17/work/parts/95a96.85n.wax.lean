/-! wax: both sides -/
section TWs
variable {W : TXW}
set_option maxRecDepth 100000 in
theorem bt_4_1 (call : QC FA) (x1 : Int32) (L : QH FA) (F : Nat) : xnG call 4 (F + 1) 0 [some (vR 0), some (vI x1)] [] L = xnG call 4 F 1 [some (vR 0), some (vI x1)] [vI x1] L := rfl
set_option maxRecDepth 100000 in
theorem bt_4_2 (call : QC FA) (x : Int32) (hx : x = 0) (ls : List (Option PV)) (L : QH FA) (F : Nat) : xnG call 4 (F + 1) 1 ls [vI x] L = xnG call 4 F 2 ls [] L := by
  subst hx
  exact pwa_ (ih := xnG call 4 F) (a := 0) (b := 9) (tg := [59, 2, 6, 10, 17, 24, 31, 42, 49, 49, 49]) (x := 0) (st := []) (by decide) rfl
set_option maxRecDepth 100000 in
theorem bt_4_3 (call : QC FA) (x1 : Int32) (z : Nat → Int32) (f : Nat → FA) (F : Nat) : xnG call 4 (F + 2) 2 [some (vR 0), some (vI x1)] [] (LW W z f) = xnG call 4 F 4 [some (vR 0), some (vI x1)] [vR 8] (LW W z f) := rfl
set_option maxRecDepth 100000 in
theorem bt_4_4 (call : QC FA) (ls : List (Option PV)) (z : Nat → Int32) (f : Nat → FA) (F : Nat) : xnG call 4 (F + 1) 4 ls [vR 8] (LW W z f) = cbd (call 5 [vR 8] (LW W z f)) (fun r L' => xnG call 4 F 5 ls (r.toList ++ []) L') := pcY (ih := xnG call 4 F) (call := call) (a := 5) (b := 0) (v := 1) (t := 5) (x := 8) (ls := ls) (As := []) (st' := []) (L := LW W z f) rfl rfl rfl
set_option maxRecDepth 100000 in
theorem bt_4_5 (call : QC FA) (x : Int32) (ls : List (Option PV)) (L : QH FA) (F : Nat) : xnG call 4 (F + 1) 5 ls [vI x] L = some (some (vI x), L) := rfl
set_option maxRecDepth 100000 in
theorem bt_4_6 (call : QC FA) (x : Int32) (hx : x = 1) (ls : List (Option PV)) (L : QH FA) (F : Nat) : xnG call 4 (F + 1) 1 ls [vI x] L = xnG call 4 F 6 ls [] L := by
  subst hx
  exact pwa_ (ih := xnG call 4 F) (a := 0) (b := 9) (tg := [59, 2, 6, 10, 17, 24, 31, 42, 49, 49, 49]) (x := 1) (st := []) (by decide) rfl
set_option maxRecDepth 100000 in
theorem bt_4_7 (call : QC FA) (x1 : Int32) (z : Nat → Int32) (f : Nat → FA) (F : Nat) : xnG call 4 (F + 2) 6 [some (vR 0), some (vI x1)] [] (LW W z f) = xnG call 4 F 8 [some (vR 0), some (vI x1)] [vR 8] (LW W z f) := rfl
set_option maxRecDepth 100000 in
theorem bt_4_8 (call : QC FA) (ls : List (Option PV)) (z : Nat → Int32) (f : Nat → FA) (F : Nat) : xnG call 4 (F + 1) 8 ls [vR 8] (LW W z f) = cbd (call 23 [vR 8] (LW W z f)) (fun r L' => xnG call 4 F 9 ls (r.toList ++ []) L') := pcY (ih := xnG call 4 F) (call := call) (a := 23) (b := 0) (v := 1) (t := 9) (x := 8) (ls := ls) (As := []) (st' := []) (L := LW W z f) rfl rfl rfl
set_option maxRecDepth 100000 in
theorem bt_4_9 (call : QC FA) (x : Int32) (ls : List (Option PV)) (L : QH FA) (F : Nat) : xnG call 4 (F + 1) 9 ls [vI x] L = some (some (vI x), L) := rfl
set_option maxRecDepth 100000 in
theorem bt_4_10 (call : QC FA) (x : Int32) (hx : x = 2) (ls : List (Option PV)) (L : QH FA) (F : Nat) : xnG call 4 (F + 1) 1 ls [vI x] L = xnG call 4 F 10 ls [] L := by
  subst hx
  exact pwa_ (ih := xnG call 4 F) (a := 0) (b := 9) (tg := [59, 2, 6, 10, 17, 24, 31, 42, 49, 49, 49]) (x := 2) (st := []) (by decide) rfl
set_option maxRecDepth 100000 in
theorem bt_4_11 (call : QC FA) (x1 : Int32) (z : Nat → Int32) (f : Nat → FA) (F : Nat) : xnG call 4 (F + 5) 10 [some (vR 0), some (vI x1)] [] (LW W z f) = xnG call 4 F 15 [some (vR 0), some (vI x1)] [vR 2, vR 39] (LW W z f) := rfl
set_option maxRecDepth 100000 in
theorem bt_4_12 (call : QC FA) (ls : List (Option PV)) (z : Nat → Int32) (f : Nat → FA) (F : Nat) : xnG call 4 (F + 1) 15 ls [vR 2, vR 39] (LW W z f) = cbd (call 24 [vR 39, vR 2] (LW W z f)) (fun r L' => xnG call 4 F 16 ls (r.toList ++ []) L') := pcY (ih := xnG call 4 F) (call := call) (a := 24) (b := 1) (v := 6) (t := 16) (x := 39) (ls := ls) (As := [vR 2]) (st' := []) (L := LW W z f) rfl rfl rfl
set_option maxRecDepth 100000 in
theorem bt_4_13 (call : QC FA) (x : Int32) (ls : List (Option PV)) (L : QH FA) (F : Nat) : xnG call 4 (F + 1) 16 ls [vI x] L = some (some (vI x), L) := rfl
set_option maxRecDepth 100000 in
theorem bt_4_14 (call : QC FA) (x : Int32) (hx : x = 3) (ls : List (Option PV)) (L : QH FA) (F : Nat) : xnG call 4 (F + 1) 1 ls [vI x] L = xnG call 4 F 17 ls [] L := by
  subst hx
  exact pwa_ (ih := xnG call 4 F) (a := 0) (b := 9) (tg := [59, 2, 6, 10, 17, 24, 31, 42, 49, 49, 49]) (x := 3) (st := []) (by decide) rfl
set_option maxRecDepth 100000 in
theorem bt_4_15 (call : QC FA) (x1 : Int32) (z : Nat → Int32) (f : Nat → FA) (F : Nat) : xnG call 4 (F + 5) 17 [some (vR 0), some (vI x1)] [] (LW W z f) = xnG call 4 F 22 [some (vR 0), some (vI x1)] [vR 2, vR 39] (LW W z f) := rfl
set_option maxRecDepth 100000 in
theorem bt_4_16 (call : QC FA) (ls : List (Option PV)) (z : Nat → Int32) (f : Nat → FA) (F : Nat) : xnG call 4 (F + 1) 22 ls [vR 2, vR 39] (LW W z f) = cbd (call 29 [vR 39, vR 2] (LW W z f)) (fun r L' => xnG call 4 F 23 ls (r.toList ++ []) L') := pcY (ih := xnG call 4 F) (call := call) (a := 29) (b := 1) (v := 6) (t := 23) (x := 39) (ls := ls) (As := [vR 2]) (st' := []) (L := LW W z f) rfl rfl rfl
set_option maxRecDepth 100000 in
theorem bt_4_17 (call : QC FA) (x : Int32) (ls : List (Option PV)) (L : QH FA) (F : Nat) : xnG call 4 (F + 1) 23 ls [vI x] L = some (some (vI x), L) := rfl
set_option maxRecDepth 100000 in
theorem bt_4_18 (call : QC FA) (x : Int32) (hx : x = 4) (ls : List (Option PV)) (L : QH FA) (F : Nat) : xnG call 4 (F + 1) 1 ls [vI x] L = xnG call 4 F 24 ls [] L := by
  subst hx
  exact pwa_ (ih := xnG call 4 F) (a := 0) (b := 9) (tg := [59, 2, 6, 10, 17, 24, 31, 42, 49, 49, 49]) (x := 4) (st := []) (by decide) rfl
set_option maxRecDepth 100000 in
theorem bt_4_19 (call : QC FA) (x1 : Int32) (z : Nat → Int32) (f : Nat → FA) (F : Nat) : xnG call 4 (F + 5) 24 [some (vR 0), some (vI x1)] [] (LW W z f) = xnG call 4 F 29 [some (vR 0), some (vI x1)] [vR 2, vR 39] (LW W z f) := rfl
set_option maxRecDepth 100000 in
theorem bt_4_20 (call : QC FA) (ls : List (Option PV)) (z : Nat → Int32) (f : Nat → FA) (F : Nat) : xnG call 4 (F + 1) 29 ls [vR 2, vR 39] (LW W z f) = cbd (call 30 [vR 39, vR 2] (LW W z f)) (fun r L' => xnG call 4 F 30 ls (r.toList ++ []) L') := pcY (ih := xnG call 4 F) (call := call) (a := 30) (b := 1) (v := 6) (t := 30) (x := 39) (ls := ls) (As := [vR 2]) (st' := []) (L := LW W z f) rfl rfl rfl
set_option maxRecDepth 100000 in
theorem bt_4_21 (call : QC FA) (x : Int32) (ls : List (Option PV)) (L : QH FA) (F : Nat) : xnG call 4 (F + 1) 30 ls [vI x] L = some (some (vI x), L) := rfl
set_option maxRecDepth 100000 in
theorem bt_4_22 (call : QC FA) (x : Int32) (hx : x = 5) (ls : List (Option PV)) (L : QH FA) (F : Nat) : xnG call 4 (F + 1) 1 ls [vI x] L = xnG call 4 F 31 ls [] L := by
  subst hx
  exact pwa_ (ih := xnG call 4 F) (a := 0) (b := 9) (tg := [59, 2, 6, 10, 17, 24, 31, 42, 49, 49, 49]) (x := 5) (st := []) (by decide) rfl
set_option maxRecDepth 100000 in
theorem bt_4_23 (call : QC FA) (x1 : Int32) (z : Nat → Int32) (f : Nat → FA) (F : Nat) : xnG call 4 (F + 5) 31 [some (vR 0), some (vI x1)] [] (LW W z f) = xnG call 4 F 36 [some (vR 0), some (vI x1)] [vR 2, vR 39] (LW W z f) := rfl
set_option maxRecDepth 100000 in
theorem bt_4_24 (call : QC FA) (ls : List (Option PV)) (z : Nat → Int32) (f : Nat → FA) (F : Nat) : xnG call 4 (F + 1) 36 ls [vR 2, vR 39] (LW W z f) = cbd (call 31 [vR 39, vR 2] (LW W z f)) (fun r L' => xnG call 4 F 37 ls (r.toList ++ []) L') := pcY (ih := xnG call 4 F) (call := call) (a := 31) (b := 1) (v := 6) (t := 37) (x := 39) (ls := ls) (As := [vR 2]) (st' := []) (L := LW W z f) rfl rfl rfl
set_option maxRecDepth 100000 in
theorem bt_4_25 (call : QC FA) (x : Int32) (ls : List (Option PV)) (L : QH FA) (F : Nat) : xnG call 4 (F + 1) 37 ls [vI x] L = bif pcmp 1 x 0 then xnG call 4 F 40 ls [] L else xnG call 4 F 38 ls [] L := rfl
set_option maxRecDepth 100000 in
theorem bt_4_26 (call : QC FA) (x1 : Int32) (L : QH FA) (F : Nat) : xnG call 4 (F + 1) 40 [some (vR 0), some (vI x1)] [] L = xnG call 4 F 41 [some (vR 0), some (vI x1)] [vI 0] L := rfl
set_option maxRecDepth 100000 in
theorem bt_4_27 (call : QC FA) (x : Int32) (ls : List (Option PV)) (L : QH FA) (F : Nat) : xnG call 4 (F + 1) 41 ls [vI x] L = some (some (vI x), L) := rfl
set_option maxRecDepth 100000 in
theorem bt_4_28 (call : QC FA) (x1 : Int32) (L : QH FA) (F : Nat) : xnG call 4 (F + 2) 38 [some (vR 0), some (vI x1)] [] L = xnG call 4 F 41 [some (vR 0), some (vI x1)] [vI 1] L := rfl
set_option maxRecDepth 100000 in
theorem bt_4_29 (call : QC FA) (x : Int32) (hx : x = 6) (ls : List (Option PV)) (L : QH FA) (F : Nat) : xnG call 4 (F + 1) 1 ls [vI x] L = xnG call 4 F 42 ls [] L := by
  subst hx
  exact pwa_ (ih := xnG call 4 F) (a := 0) (b := 9) (tg := [59, 2, 6, 10, 17, 24, 31, 42, 49, 49, 49]) (x := 6) (st := []) (by decide) rfl
set_option maxRecDepth 100000 in
theorem bt_4_30 (call : QC FA) (x1 : Int32) (z : Nat → Int32) (f : Nat → FA) (F : Nat) : xnG call 4 (F + 5) 42 [some (vR 0), some (vI x1)] [] (LW W z f) = xnG call 4 F 47 [some (vR 0), some (vI x1)] [vR 2, vR 39] (LW W z f) := rfl
set_option maxRecDepth 100000 in
theorem bt_4_31 (call : QC FA) (ls : List (Option PV)) (z : Nat → Int32) (f : Nat → FA) (F : Nat) : xnG call 4 (F + 1) 47 ls [vR 2, vR 39] (LW W z f) = cbd (call 31 [vR 39, vR 2] (LW W z f)) (fun r L' => xnG call 4 F 48 ls (r.toList ++ []) L') := pcY (ih := xnG call 4 F) (call := call) (a := 31) (b := 1) (v := 6) (t := 48) (x := 39) (ls := ls) (As := [vR 2]) (st' := []) (L := LW W z f) rfl rfl rfl
set_option maxRecDepth 100000 in
theorem bt_4_32 (call : QC FA) (x : Int32) (ls : List (Option PV)) (L : QH FA) (F : Nat) : xnG call 4 (F + 1) 48 ls [vI x] L = some (some (vI x), L) := rfl
set_option maxRecDepth 100000 in
theorem bt_4_33 (call : QC FA) (x : Int32) (hx : x = 7) (ls : List (Option PV)) (L : QH FA) (F : Nat) : xnG call 4 (F + 1) 1 ls [vI x] L = xnG call 4 F 49 ls [] L := by
  subst hx
  exact pwa_ (ih := xnG call 4 F) (a := 0) (b := 9) (tg := [59, 2, 6, 10, 17, 24, 31, 42, 49, 49, 49]) (x := 7) (st := []) (by decide) rfl
set_option maxRecDepth 100000 in
theorem bt_4_34 (call : QC FA) (x1 : Int32) (z : Nat → Int32) (f : Nat → FA) (F : Nat) : xnG call 4 (F + 8) 49 [some (vR 0), some (vI x1)] [] (LW W z f) = xnG call 4 F 57 [some (vR 0), some (vI x1)] [vI (x1 - 7), vR 2, vR 39] (LW W z f) := rfl
set_option maxRecDepth 100000 in
theorem bt_4_35 (call : QC FA) (a1 : Int32) (ls : List (Option PV)) (z : Nat → Int32) (f : Nat → FA) (F : Nat) : xnG call 4 (F + 1) 57 ls [vI a1, vR 2, vR 39] (LW W z f) = cbd (call 32 [vR 39, vR 2, vI a1] (LW W z f)) (fun r L' => xnG call 4 F 58 ls (r.toList ++ []) L') := pcY (ih := xnG call 4 F) (call := call) (a := 32) (b := 2) (v := 6) (t := 58) (x := 39) (ls := ls) (As := [vR 2, vI a1]) (st' := []) (L := LW W z f) rfl rfl rfl
set_option maxRecDepth 100000 in
theorem bt_4_36 (call : QC FA) (x : Int32) (ls : List (Option PV)) (L : QH FA) (F : Nat) : xnG call 4 (F + 1) 58 ls [vI x] L = some (some (vI x), L) := rfl
set_option maxRecDepth 100000 in
theorem bt_4_37 (call : QC FA) (x : Int32) (hx : x = 8) (ls : List (Option PV)) (L : QH FA) (F : Nat) : xnG call 4 (F + 1) 1 ls [vI x] L = xnG call 4 F 49 ls [] L := by
  subst hx
  exact pwa_ (ih := xnG call 4 F) (a := 0) (b := 9) (tg := [59, 2, 6, 10, 17, 24, 31, 42, 49, 49, 49]) (x := 8) (st := []) (by decide) rfl
set_option maxRecDepth 100000 in
theorem bt_4_38 (call : QC FA) (x : Int32) (hx : x = 9) (ls : List (Option PV)) (L : QH FA) (F : Nat) : xnG call 4 (F + 1) 1 ls [vI x] L = xnG call 4 F 49 ls [] L := by
  subst hx
  exact pwa_ (ih := xnG call 4 F) (a := 0) (b := 9) (tg := [59, 2, 6, 10, 17, 24, 31, 42, 49, 49, 49]) (x := 9) (st := []) (by decide) rfl
set_option maxRecDepth 100000 in
theorem bt_4_39 (call : QC FA) (x : Int32) (hx : I x < 0 ∨ 9 < I x) (ls : List (Option PV)) (L : QH FA) (F : Nat) : xnG call 4 (F + 1) 1 ls [vI x] L = xnG call 4 F 59 ls [] L := pwd_ (ih := xnG call 4 F) (a := 0) (b := 9) (tg := [59, 2, 6, 10, 17, 24, 31, 42, 49, 49, 49]) (st := []) hx rfl
set_option maxRecDepth 100000 in
theorem bt_4_40 (call : QC FA) (x1 : Int32) (L : QH FA) (F : Nat) : xnG call 4 (F + 1) 59 [some (vR 0), some (vI x1)] [] L = xnG call 4 F 60 [some (vR 0), some (vI x1)] [vI ((-100000))] L := rfl
set_option maxRecDepth 100000 in
theorem bt_4_41 (call : QC FA) (x : Int32) (ls : List (Option PV)) (L : QH FA) (F : Nat) : xnG call 4 (F + 1) 60 ls [vI x] L = some (some (vI x), L) := rfl
theorem vct_4_0 (call : QC FA) (x1 : Int32) (z : Nat → Int32) (f : Nat → FA) (res : Option PV × QH FA) (H : ((x1 = 0 → (∃ (r1 : Int32) (z1 : Nat → Int32) (f1 : Nat → FA), call 5 [vR 8] (LW W z f) = some (some (vI r1), LW W z1 f1) ∧ res = (some (vI r1), LW W z1 f1))) ∧ (¬ x1 = 0 → ((x1 = 1 → (∃ (r2 : Int32) (z2 : Nat → Int32) (f2 : Nat → FA), call 23 [vR 8] (LW W z f) = some (some (vI r2), LW W z2 f2) ∧ res = (some (vI r2), LW W z2 f2))) ∧ (¬ x1 = 1 → ((x1 = 2 → (∃ (r3 : Int32) (z3 : Nat → Int32) (f3 : Nat → FA), call 24 [vR 39, vR 2] (LW W z f) = some (some (vI r3), LW W z3 f3) ∧ res = (some (vI r3), LW W z3 f3))) ∧ (¬ x1 = 2 → ((x1 = 3 → (∃ (r4 : Int32) (z4 : Nat → Int32) (f4 : Nat → FA), call 29 [vR 39, vR 2] (LW W z f) = some (some (vI r4), LW W z4 f4) ∧ res = (some (vI r4), LW W z4 f4))) ∧ (¬ x1 = 3 → ((x1 = 4 → (∃ (r5 : Int32) (z5 : Nat → Int32) (f5 : Nat → FA), call 30 [vR 39, vR 2] (LW W z f) = some (some (vI r5), LW W z5 f5) ∧ res = (some (vI r5), LW W z5 f5))) ∧ (¬ x1 = 4 → ((x1 = 5 → (∃ (r6 : Int32) (z6 : Nat → Int32) (f6 : Nat → FA), call 31 [vR 39, vR 2] (LW W z f) = some (some (vI r6), LW W z6 f6) ∧ ((¬ r6 = 0 → res = (some (vI 0), LW W z6 f6)) ∧ (r6 = 0 → res = (some (vI 1), LW W z6 f6))))) ∧ (¬ x1 = 5 → ((x1 = 6 → (∃ (r7 : Int32) (z7 : Nat → Int32) (f7 : Nat → FA), call 31 [vR 39, vR 2] (LW W z f) = some (some (vI r7), LW W z7 f7) ∧ res = (some (vI r7), LW W z7 f7))) ∧ (¬ x1 = 6 → ((x1 = 7 → (∃ (r8 : Int32) (z8 : Nat → Int32) (f8 : Nat → FA), call 32 [vR 39, vR 2, vI (x1 - 7)] (LW W z f) = some (some (vI r8), LW W z8 f8) ∧ res = (some (vI r8), LW W z8 f8))) ∧ (¬ x1 = 7 → ((x1 = 8 → (∃ (r9 : Int32) (z9 : Nat → Int32) (f9 : Nat → FA), call 32 [vR 39, vR 2, vI (x1 - 7)] (LW W z f) = some (some (vI r9), LW W z9 f9) ∧ res = (some (vI r9), LW W z9 f9))) ∧ (¬ x1 = 8 → ((x1 = 9 → (∃ (r10 : Int32) (z10 : Nat → Int32) (f10 : Nat → FA), call 32 [vR 39, vR 2, vI (x1 - 7)] (LW W z f) = some (some (vI r10), LW W z10 f10) ∧ res = (some (vI r10), LW W z10 f10))) ∧ (¬ x1 = 9 → res = (some (vI ((-100000))), LW W z f)))))))))))))))))))))) : XC call (mP 4) 0 [some (vR 0), some (vI x1)] [] (LW W z f) res := by
  refine xc_b (i' := 1) (ls' := [some (vR 0), some (vI x1)]) (st' := [vI x1]) (L' := LW W z f) 1 (bt_4_1 call x1 _) ?_
  by_cases q1 : x1 = 0
  · have H := H.1 q1
    refine xc_b (i' := 2) (ls' := [some (vR 0), some (vI x1)]) (st' := []) (L' := LW W z f) 1 (bt_4_2 call x1 q1 _ _) ?_
    refine xc_b (i' := 4) (ls' := [some (vR 0), some (vI x1)]) (st' := [vR 8]) (L' := LW W z f) 2 (bt_4_3 call x1 z f) ?_
    obtain ⟨r1, z1, f1, hc, H⟩ := H
    refine xc_call (t := 5) (ls' := [some (vR 0), some (vI x1)]) (st' := []) (bt_4_4 call _ z f) hc ?_
    show XC call (mP 4) 5 [some (vR 0), some (vI x1)] [vI r1] (LW W z1 f1) res
    subst H
    exact xc_ret (bt_4_5 call _ _ _)
  · have H := H.2 q1
    by_cases q2 : x1 = 1
    · have H := H.1 q2
      refine xc_b (i' := 6) (ls' := [some (vR 0), some (vI x1)]) (st' := []) (L' := LW W z f) 1 (bt_4_6 call x1 q2 _ _) ?_
      refine xc_b (i' := 8) (ls' := [some (vR 0), some (vI x1)]) (st' := [vR 8]) (L' := LW W z f) 2 (bt_4_7 call x1 z f) ?_
      obtain ⟨r2, z2, f2, hc, H⟩ := H
      refine xc_call (t := 9) (ls' := [some (vR 0), some (vI x1)]) (st' := []) (bt_4_8 call _ z f) hc ?_
      show XC call (mP 4) 9 [some (vR 0), some (vI x1)] [vI r2] (LW W z2 f2) res
      subst H
      exact xc_ret (bt_4_9 call _ _ _)
    · have H := H.2 q2
      by_cases q3 : x1 = 2
      · have H := H.1 q3
        refine xc_b (i' := 10) (ls' := [some (vR 0), some (vI x1)]) (st' := []) (L' := LW W z f) 1 (bt_4_10 call x1 q3 _ _) ?_
        refine xc_b (i' := 15) (ls' := [some (vR 0), some (vI x1)]) (st' := [vR 2, vR 39]) (L' := LW W z f) 5 (bt_4_11 call x1 z f) ?_
        obtain ⟨r3, z3, f3, hc, H⟩ := H
        refine xc_call (t := 16) (ls' := [some (vR 0), some (vI x1)]) (st' := []) (bt_4_12 call _ z f) hc ?_
        show XC call (mP 4) 16 [some (vR 0), some (vI x1)] [vI r3] (LW W z3 f3) res
        subst H
        exact xc_ret (bt_4_13 call _ _ _)
      · have H := H.2 q3
        by_cases q4 : x1 = 3
        · have H := H.1 q4
          refine xc_b (i' := 17) (ls' := [some (vR 0), some (vI x1)]) (st' := []) (L' := LW W z f) 1 (bt_4_14 call x1 q4 _ _) ?_
          refine xc_b (i' := 22) (ls' := [some (vR 0), some (vI x1)]) (st' := [vR 2, vR 39]) (L' := LW W z f) 5 (bt_4_15 call x1 z f) ?_
          obtain ⟨r4, z4, f4, hc, H⟩ := H
          refine xc_call (t := 23) (ls' := [some (vR 0), some (vI x1)]) (st' := []) (bt_4_16 call _ z f) hc ?_
          show XC call (mP 4) 23 [some (vR 0), some (vI x1)] [vI r4] (LW W z4 f4) res
          subst H
          exact xc_ret (bt_4_17 call _ _ _)
        · have H := H.2 q4
          by_cases q5 : x1 = 4
          · have H := H.1 q5
            refine xc_b (i' := 24) (ls' := [some (vR 0), some (vI x1)]) (st' := []) (L' := LW W z f) 1 (bt_4_18 call x1 q5 _ _) ?_
            refine xc_b (i' := 29) (ls' := [some (vR 0), some (vI x1)]) (st' := [vR 2, vR 39]) (L' := LW W z f) 5 (bt_4_19 call x1 z f) ?_
            obtain ⟨r5, z5, f5, hc, H⟩ := H
            refine xc_call (t := 30) (ls' := [some (vR 0), some (vI x1)]) (st' := []) (bt_4_20 call _ z f) hc ?_
            show XC call (mP 4) 30 [some (vR 0), some (vI x1)] [vI r5] (LW W z5 f5) res
            subst H
            exact xc_ret (bt_4_21 call _ _ _)
          · have H := H.2 q5
            by_cases q6 : x1 = 5
            · have H := H.1 q6
              refine xc_b (i' := 31) (ls' := [some (vR 0), some (vI x1)]) (st' := []) (L' := LW W z f) 1 (bt_4_22 call x1 q6 _ _) ?_
              refine xc_b (i' := 36) (ls' := [some (vR 0), some (vI x1)]) (st' := [vR 2, vR 39]) (L' := LW W z f) 5 (bt_4_23 call x1 z f) ?_
              obtain ⟨r6, z6, f6, hc, H⟩ := H
              refine xc_call (t := 37) (ls' := [some (vR 0), some (vI x1)]) (st' := []) (bt_4_24 call _ z f) hc ?_
              show XC call (mP 4) 37 [some (vR 0), some (vI x1)] [vI r6] (LW W z6 f6) res
              refine xc_if (it := 40) (ie := 38) (ls' := [some (vR 0), some (vI x1)]) (st' := []) (bt_4_25 call r6 _ _) (fun q7 => ?_) (fun q7 => ?_)
              · have H := H.1 (cI1t q7)
                refine xc_b (i' := 41) (ls' := [some (vR 0), some (vI x1)]) (st' := [vI 0]) (L' := LW W z6 f6) 1 (bt_4_26 call x1 _) ?_
                subst H
                exact xc_ret (bt_4_27 call _ _ _)
              · have H := H.2 (cI1f q7)
                refine xc_b (i' := 41) (ls' := [some (vR 0), some (vI x1)]) (st' := [vI 1]) (L' := LW W z6 f6) 2 (bt_4_28 call x1 _) ?_
                subst H
                exact xc_ret (bt_4_27 call _ _ _)
            · have H := H.2 q6
              by_cases q8 : x1 = 6
              · have H := H.1 q8
                refine xc_b (i' := 42) (ls' := [some (vR 0), some (vI x1)]) (st' := []) (L' := LW W z f) 1 (bt_4_29 call x1 q8 _ _) ?_
                refine xc_b (i' := 47) (ls' := [some (vR 0), some (vI x1)]) (st' := [vR 2, vR 39]) (L' := LW W z f) 5 (bt_4_30 call x1 z f) ?_
                obtain ⟨r7, z7, f7, hc, H⟩ := H
                refine xc_call (t := 48) (ls' := [some (vR 0), some (vI x1)]) (st' := []) (bt_4_31 call _ z f) hc ?_
                show XC call (mP 4) 48 [some (vR 0), some (vI x1)] [vI r7] (LW W z7 f7) res
                subst H
                exact xc_ret (bt_4_32 call _ _ _)
              · have H := H.2 q8
                by_cases q9 : x1 = 7
                · have H := H.1 q9
                  refine xc_b (i' := 49) (ls' := [some (vR 0), some (vI x1)]) (st' := []) (L' := LW W z f) 1 (bt_4_33 call x1 q9 _ _) ?_
                  refine xc_b (i' := 57) (ls' := [some (vR 0), some (vI x1)]) (st' := [vI (x1 - 7), vR 2, vR 39]) (L' := LW W z f) 8 (bt_4_34 call x1 z f) ?_
                  obtain ⟨r8, z8, f8, hc, H⟩ := H
                  refine xc_call (t := 58) (ls' := [some (vR 0), some (vI x1)]) (st' := []) (bt_4_35 call (x1 - 7) _ z f) hc ?_
                  show XC call (mP 4) 58 [some (vR 0), some (vI x1)] [vI r8] (LW W z8 f8) res
                  subst H
                  exact xc_ret (bt_4_36 call _ _ _)
                · have H := H.2 q9
                  by_cases q10 : x1 = 8
                  · have H := H.1 q10
                    refine xc_b (i' := 49) (ls' := [some (vR 0), some (vI x1)]) (st' := []) (L' := LW W z f) 1 (bt_4_37 call x1 q10 _ _) ?_
                    refine xc_b (i' := 57) (ls' := [some (vR 0), some (vI x1)]) (st' := [vI (x1 - 7), vR 2, vR 39]) (L' := LW W z f) 8 (bt_4_34 call x1 z f) ?_
                    obtain ⟨r9, z9, f9, hc, H⟩ := H
                    refine xc_call (t := 58) (ls' := [some (vR 0), some (vI x1)]) (st' := []) (bt_4_35 call (x1 - 7) _ z f) hc ?_
                    show XC call (mP 4) 58 [some (vR 0), some (vI x1)] [vI r9] (LW W z9 f9) res
                    subst H
                    exact xc_ret (bt_4_36 call _ _ _)
                  · have H := H.2 q10
                    by_cases q11 : x1 = 9
                    · have H := H.1 q11
                      refine xc_b (i' := 49) (ls' := [some (vR 0), some (vI x1)]) (st' := []) (L' := LW W z f) 1 (bt_4_38 call x1 q11 _ _) ?_
                      refine xc_b (i' := 57) (ls' := [some (vR 0), some (vI x1)]) (st' := [vI (x1 - 7), vR 2, vR 39]) (L' := LW W z f) 8 (bt_4_34 call x1 z f) ?_
                      obtain ⟨r10, z10, f10, hc, H⟩ := H
                      refine xc_call (t := 58) (ls' := [some (vR 0), some (vI x1)]) (st' := []) (bt_4_35 call (x1 - 7) _ z f) hc ?_
                      show XC call (mP 4) 58 [some (vR 0), some (vI x1)] [vI r10] (LW W z10 f10) res
                      subst H
                      exact xc_ret (bt_4_36 call _ _ _)
                    · have H := H.2 q11
                      refine xc_b (i' := 59) (ls' := [some (vR 0), some (vI x1)]) (st' := []) (L' := LW W z f) 1 (bt_4_39 call x1 (by have := (show I x1 ≠ 0 from ne_I q1); have := (show I x1 ≠ 1 from ne_I q2); have := (show I x1 ≠ 2 from ne_I q3); have := (show I x1 ≠ 3 from ne_I q4); have := (show I x1 ≠ 4 from ne_I q5); have := (show I x1 ≠ 5 from ne_I q6); have := (show I x1 ≠ 6 from ne_I q8); have := (show I x1 ≠ 7 from ne_I q9); have := (show I x1 ≠ 8 from ne_I q10); have := (show I x1 ≠ 9 from ne_I q11); omega) _ _) ?_
                      refine xc_b (i' := 60) (ls' := [some (vR 0), some (vI x1)]) (st' := [vI ((-100000))]) (L' := LW W z f) 1 (bt_4_40 call x1 _) ?_
                      subst H
                      exact xc_ret (bt_4_41 call _ _ _)
end TWs
theorem wax_sim (d d' : Nat) (x : Int32) : PSIW (d + 6) 4 (d' + 8) 46 [x] := by
  intro W L n nv nw ns nt c z zr f r hB hW hC hL hR hG hT
  have hn : nv ≤ 20 := hR.1.1.1
  have hm : MRS nv (f 4) (r 1) := hR.1.1.2.2.2.1
  have hmc : ∀ i, i < 144 → (mkR (r 1) i = true ↔ ¬ f 4 i = 0) := mkR_c hn hm
  have hu : ∀ i, i < 144 → mkW (f 4 i) = r 1 (211 + i) := fun i hi => ((hm i hi).val hn).1
  have fin : ∀ v z' f' r', xcall (d + 6) 4 [vR 0, vI x] (LW W z f) = some (some (vI v), LW W z' f') → mcall (d' + 8) 46 [vR 0, vI x] (LR zr r) = some (some (vI v), LR (uZ zr 0 0) r') → (∀ k, k ≠ 392 → k ≠ 393 → z' k = z k) → (∀ k, k ≠ 9 → k ≠ 10 → k ≠ 11 → k ≠ 40 → k ≠ 41 → f' k = f k) → (∀ k, k ≠ 21 → k ≠ 22 → k ≠ 23 → r' k = r k) → _ := fun v z' f' r' q1 q2 s1 s2 s3 => (⟨v, z', f', uZ zr 0 0, r', c, nv, q1, q2, hR.wx s1 s2 s3, hG.wx s1 s2 s3, fun j h1 _ _ => uZ_n h1, fun k hk => s3 k (fun e => hk (by rw [e]; decide)) (fun e => hk (by rw [e]; decide)) (fun e => hk (by rw [e]; decide)), Nat.le_refl _⟩ : ∃ v z' f' zr' r' c' nv', xcall (d + 6) 4 (vR 0 :: [x].map vI) (LW W z f) = some (some (vI v), LW W z' f') ∧ mcall (d' + 8) 46 (vR 0 :: [x].map vI) (LR zr r) = some (some (vI v), LR zr' r') ∧ WR W L n nv' nw ns z' f' zr' r' ∧ RGA c' c' c' nv' z' f' zr' r' ∧ (∀ j, j ≠ 0 → j ≠ 3 → j ≠ 6 → zr' j = zr j) ∧ (∀ k, k ∉ [1, 2, 3, 4, 5, 6, 7, 21, 22, 23] → r' k = r k) ∧ nv ≤ nv')
  have gc : ∀ res, _ → xcall (d + 6) 4 [vR 0, vI x] (LW W z f) = some res := fun res H => xcall_i (mq4 (cu := [])).2.2 rfl (vct_4_0 (xcall (d + 5)) x z f res H)
  have gr : ∀ res, _ → mcall (d' + 8) 46 [vR 0, vI x] (LR zr r) = some res := fun res H => mcall_i (mq46 (cu := [])).2.2 rfl (vc46_0 (d' + 2) x zr r res H)
  by_cases cx : 0 ≤ I x ∧ I x ≤ 9
  · obtain ⟨w, rfl, u1, u2⟩ := nI_ofI cx.1
    have hw : w ≤ 9 := by omega
    clear u2 u1 cx
    rcases (show w = 0 ∨ w = 1 ∨ w = 2 ∨ w = 3 ∨ w = 4 ∨ w = 5 ∨ w = 6 ∨ w = 7 ∨ w = 8 ∨ w = 9 by omega) with rfl | rfl | rfl | rfl | rfl | rfl | rfl | rfl | rfl | rfl
    · obtain ⟨y, f1, r1, k1, k2, s1, s2⟩ := simSumn hW hC hL d (d' + 1) hR.1.z0 hR.2.1
      exact fin y z f1 r1 (gc _ ⟨fun _ => ⟨_, _, _, k1, rfl⟩, fun q => absurd rfl q⟩) (gr _ ⟨fun _ => ⟨fun q => absurd rfl q, fun _ => ⟨_, _, _, k2, rfl⟩⟩, fun q => absurd (show 0 ≤ I (nI 0) ∧ I (nI 0) ≤ 9 by decide) q⟩) (fun _ _ _ => rfl) (fun k q1 q2 _ _ _ => s1 k q1 q2) (fun k q1 q2 _ => s2 k q1 q2)
    · obtain ⟨f1, s1, k1⟩ := wTurned hW hC hL d hR.1
      obtain ⟨r1, s2, k2⟩ := rTurned hL d' (zr' := uZ zr 0 0) hR.1 hR.2.1
      exact fin _ z f1 r1 (gc _ ⟨fun q => absurd q (by decide), fun _ => ⟨fun _ => ⟨_, _, _, k1, rfl⟩, fun q => absurd rfl q⟩⟩) (gr _ ⟨fun _ => ⟨fun _ => ⟨fun q => absurd rfl q, fun _ => ⟨_, _, _, k2, rfl⟩⟩, fun q => absurd q (by decide)⟩, fun q => absurd (show 0 ≤ I (nI 1) ∧ I (nI 1) ≤ 9 by decide) q⟩) (fun _ _ _ => rfl) (fun k q1 q2 q3 _ _ => s1 k q1 q2 q3) s2
    · obtain ⟨M, g, hLz, hg, cp⟩ := rParts d' (mk := mkR (r 1)) (z := uZ zr 0 0) (f := r) (fun i _ => mkR_r (r 1) i)
      have hM : ∀ i, i < 144 → M i < 144 := fun i hi => by have := hLz.1.1 i hi; omega
      have h1 : ∀ i, i < 144 → (mkR (r 1) i = true ↔ 0 < I (uA r 23 g 1 (67 + i))) := fun i _ => by rw [uA_ne (show (1 : Nat) ≠ 23 by decide)]; exact mkR_r (r 1) i
      have hf : ∀ i, i < 144 → uA r 23 g 23 i = nI (M i) := fun i hi => by rw [uA_self]; exact hg i hi
      obtain ⟨z1, f1, s1, s2, k1⟩ := wBlobs (W := W) hLz d (z := z) (f := f) hmc
      have k2 := rBlobs d' 0 (z := uZ zr 0 0) h1 hM hf
      rw [if_pos rfl] at k2
      exact fin _ z1 f1 (uA r 23 g) (gc _ ⟨fun q => absurd q (by decide), fun _ => ⟨fun q => absurd q (by decide), fun _ => ⟨fun _ => ⟨_, _, _, k1, rfl⟩, fun q => absurd rfl q⟩⟩⟩) (gr _ ⟨fun _ => ⟨fun _ => ⟨fun _ => ⟨fun _ => ⟨fun _ => ⟨fun _ => ⟨_, _, cp, ⟨fun _ => ⟨fun _ => ⟨_, _, _, k2, rfl⟩, fun q => absurd q (by decide)⟩, fun q => absurd q (by decide)⟩⟩, fun q => absurd q (by decide)⟩, fun q => absurd q (by decide)⟩, fun q => absurd q (by decide)⟩, fun q => absurd q (by decide)⟩, fun q => absurd q (by decide)⟩, fun q => absurd (show 0 ≤ I (nI 2) ∧ I (nI 2) ≤ 9 by decide) q⟩) s1 (fun k _ _ _ q4 q5 => s2 k q4 q5) (fun k _ _ q3 => uA_ne q3)
    · obtain ⟨M, g, hLz, hg, cp⟩ := rParts d' (mk := mkR (r 1)) (z := uZ zr 0 0) (f := r) (fun i _ => mkR_r (r 1) i)
      have hM : ∀ i, i < 144 → M i < 144 := fun i hi => by have := hLz.1.1 i hi; omega
      have h1 : ∀ i, i < 144 → (mkR (r 1) i = true ↔ 0 < I (uA r 23 g 1 (67 + i))) := fun i _ => by rw [uA_ne (show (1 : Nat) ≠ 23 by decide)]; exact mkR_r (r 1) i
      have hf : ∀ i, i < 144 → uA r 23 g 23 i = nI (M i) := fun i hi => by rw [uA_self]; exact hg i hi
      obtain ⟨z1, f1, s1, s2, k1⟩ := wGreat (W := W) hLz d (z := z) (f := f) hmc
      have k2 := rBlobs d' 1 (z := uZ zr 0 0) h1 hM hf
      rw [if_neg (by decide)] at k2
      exact fin _ z1 f1 (uA r 23 g) (gc _ ⟨fun q => absurd q (by decide), fun _ => ⟨fun q => absurd q (by decide), fun _ => ⟨fun q => absurd q (by decide), fun _ => ⟨fun _ => ⟨_, _, _, k1, rfl⟩, fun q => absurd rfl q⟩⟩⟩⟩) (gr _ ⟨fun _ => ⟨fun _ => ⟨fun _ => ⟨fun _ => ⟨fun _ => ⟨fun _ => ⟨_, _, cp, ⟨fun _ => ⟨fun q => absurd rfl q, fun _ => ⟨_, _, _, k2, rfl⟩⟩, fun q => absurd q (by decide)⟩⟩, fun q => absurd q (by decide)⟩, fun q => absurd q (by decide)⟩, fun q => absurd q (by decide)⟩, fun q => absurd q (by decide)⟩, fun q => absurd q (by decide)⟩, fun q => absurd (show 0 ≤ I (nI 3) ∧ I (nI 3) ≤ 9 by decide) q⟩) s1 (fun k _ _ _ q4 q5 => s2 k q4 q5) (fun k _ _ q3 => uA_ne q3)
    · obtain ⟨M, g, hLz, hg, cp⟩ := rParts d' (mk := mkR (r 1)) (z := uZ zr 0 0) (f := r) (fun i _ => mkR_r (r 1) i)
      have hM : ∀ i, i < 144 → M i < 144 := fun i hi => by have := hLz.1.1 i hi; omega
      have h1 : ∀ i, i < 144 → (mkR (r 1) i = true ↔ 0 < I (uA r 23 g 1 (67 + i))) := fun i _ => by rw [uA_ne (show (1 : Nat) ≠ 23 by decide)]; exact mkR_r (r 1) i
      have hf : ∀ i, i < 144 → uA r 23 g 23 i = nI (M i) := fun i hi => by rw [uA_self]; exact hg i hi
      obtain ⟨z1, f1, s1, s2, k1⟩ := wHoles (W := W) hLz d (z := z) (f := f) hmc
      have k2 := rHoles d' (z := uZ zr 0 0) h1 hM hf
      exact fin _ z1 f1 (uA r 23 g) (gc _ ⟨fun q => absurd q (by decide), fun _ => ⟨fun q => absurd q (by decide), fun _ => ⟨fun q => absurd q (by decide), fun _ => ⟨fun q => absurd q (by decide), fun _ => ⟨fun _ => ⟨_, _, _, k1, rfl⟩, fun q => absurd rfl q⟩⟩⟩⟩⟩) (gr _ ⟨fun _ => ⟨fun _ => ⟨fun _ => ⟨fun _ => ⟨fun _ => ⟨fun _ => ⟨_, _, cp, ⟨fun q => absurd rfl q, fun _ => ⟨_, _, _, k2, rfl⟩⟩⟩, fun q => absurd q (by decide)⟩, fun q => absurd q (by decide)⟩, fun q => absurd q (by decide)⟩, fun q => absurd q (by decide)⟩, fun q => absurd q (by decide)⟩, fun q => absurd (show 0 ≤ I (nI 4) ∧ I (nI 4) ≤ 9 by decide) q⟩) s1 (fun k _ _ _ q4 q5 => s2 k q4 q5) (fun k _ _ q3 => uA_ne q3)
    · have k1 := wUnlike (W := W) (d + 2) (z := z) (f := f) hu
      have k2 := rNotFace (d' + 1) (z := uZ zr 0 0) (f := r)
      by_cases e : nfO (r 1) 12 = 0
      · exact fin 1 z f r (gc _ ⟨fun q => absurd q (by decide), fun _ => ⟨fun q => absurd q (by decide), fun _ => ⟨fun q => absurd q (by decide), fun _ => ⟨fun q => absurd q (by decide), fun _ => ⟨fun q => absurd q (by decide), fun _ => ⟨fun _ => ⟨_, _, _, k1, fun q => absurd e q, fun _ => rfl⟩, fun q => absurd rfl q⟩⟩⟩⟩⟩⟩) (gr _ ⟨fun _ => ⟨fun _ => ⟨fun _ => ⟨fun q => absurd rfl q, fun _ => ⟨_, _, _, k2, fun q => absurd e q, fun _ => rfl⟩⟩, fun q => absurd q (by decide)⟩, fun q => absurd q (by decide)⟩, fun q => absurd (show 0 ≤ I (nI 5) ∧ I (nI 5) ≤ 9 by decide) q⟩) (fun _ _ _ => rfl) (fun _ _ _ _ _ _ => rfl) (fun _ _ _ _ => rfl)
      · exact fin 0 z f r (gc _ ⟨fun q => absurd q (by decide), fun _ => ⟨fun q => absurd q (by decide), fun _ => ⟨fun q => absurd q (by decide), fun _ => ⟨fun q => absurd q (by decide), fun _ => ⟨fun q => absurd q (by decide), fun _ => ⟨fun _ => ⟨_, _, _, k1, fun _ => rfl, fun q => absurd q e⟩, fun q => absurd rfl q⟩⟩⟩⟩⟩⟩) (gr _ ⟨fun _ => ⟨fun _ => ⟨fun _ => ⟨fun q => absurd rfl q, fun _ => ⟨_, _, _, k2, fun _ => rfl, fun q => absurd q e⟩⟩, fun q => absurd q (by decide)⟩, fun q => absurd q (by decide)⟩, fun q => absurd (show 0 ≤ I (nI 5) ∧ I (nI 5) ≤ 9 by decide) q⟩) (fun _ _ _ => rfl) (fun _ _ _ _ _ _ => rfl) (fun _ _ _ _ => rfl)
    · have k1 := wUnlike (W := W) (d + 2) (z := z) (f := f) hu
      have k2 := rNotFace (d' + 1) (z := uZ zr 0 0) (f := r)
      exact fin _ z f r (gc _ ⟨fun q => absurd q (by decide), fun _ => ⟨fun q => absurd q (by decide), fun _ => ⟨fun q => absurd q (by decide), fun _ => ⟨fun q => absurd q (by decide), fun _ => ⟨fun q => absurd q (by decide), fun _ => ⟨fun q => absurd q (by decide), fun _ => ⟨fun _ => ⟨_, _, _, k1, rfl⟩, fun q => absurd rfl q⟩⟩⟩⟩⟩⟩⟩) (gr _ ⟨fun _ => ⟨fun _ => ⟨fun _ => ⟨fun _ => ⟨fun q => absurd rfl q, fun _ => ⟨_, _, _, k2, rfl⟩⟩, fun q => absurd q (by decide)⟩, fun q => absurd q (by decide)⟩, fun q => absurd q (by decide)⟩, fun q => absurd (show 0 ≤ I (nI 6) ∧ I (nI 6) ≤ 9 by decide) q⟩) (fun _ _ _ => rfl) (fun _ _ _ _ _ _ => rfl) (fun _ _ _ _ => rfl)
    · obtain ⟨f1, s1, k1⟩ := wBare (W := W) (d + 3) (nI 7 - 7) (mk := mkR (r 1)) (z := z) (f := f) hmc
      obtain ⟨r1, s2, k2⟩ := rBare d' (nI 7) (mk := mkR (r 1)) (z := uZ zr 0 0) (f := r) (fun i _ => mkR_r (r 1) i)
      rw [bqr_7] at k2
      rw [if_pos (show nI 7 - 7 = 0 by decide)] at k1
      exact fin _ z f1 r1 (gc _ ⟨fun q => absurd q (by decide), fun _ => ⟨fun q => absurd q (by decide), fun _ => ⟨fun q => absurd q (by decide), fun _ => ⟨fun q => absurd q (by decide), fun _ => ⟨fun q => absurd q (by decide), fun _ => ⟨fun q => absurd q (by decide), fun _ => ⟨fun q => absurd q (by decide), fun _ => ⟨fun _ => ⟨_, _, _, k1, rfl⟩, fun q => absurd rfl q⟩⟩⟩⟩⟩⟩⟩⟩) (gr _ ⟨fun _ => ⟨fun _ => ⟨fun _ => ⟨fun _ => ⟨fun _ => ⟨fun q => absurd q (by decide), fun _ => ⟨_, _, _, k2, rfl⟩⟩, fun q => absurd q (by decide)⟩, fun q => absurd q (by decide)⟩, fun q => absurd q (by decide)⟩, fun q => absurd q (by decide)⟩, fun q => absurd (show 0 ≤ I (nI 7) ∧ I (nI 7) ≤ 9 by decide) q⟩) (fun _ _ _ => rfl) (fun k _ _ _ q4 _ => s1 k q4) (fun k _ _ q3 => s2 k q3)
    · obtain ⟨f1, s1, k1⟩ := wBare (W := W) (d + 3) (nI 8 - 7) (mk := mkR (r 1)) (z := z) (f := f) hmc
      obtain ⟨r1, s2, k2⟩ := rBare d' (nI 8) (mk := mkR (r 1)) (z := uZ zr 0 0) (f := r) (fun i _ => mkR_r (r 1) i)
      rw [bqr_8] at k2
      rw [if_neg (show ¬ nI 8 - 7 = 0 by decide), if_pos (show nI 8 - 7 = 1 by decide)] at k1
      exact fin _ z f1 r1 (gc _ ⟨fun q => absurd q (by decide), fun _ => ⟨fun q => absurd q (by decide), fun _ => ⟨fun q => absurd q (by decide), fun _ => ⟨fun q => absurd q (by decide), fun _ => ⟨fun q => absurd q (by decide), fun _ => ⟨fun q => absurd q (by decide), fun _ => ⟨fun q => absurd q (by decide), fun _ => ⟨fun q => absurd q (by decide), fun _ => ⟨fun _ => ⟨_, _, _, k1, rfl⟩, fun q => absurd rfl q⟩⟩⟩⟩⟩⟩⟩⟩⟩) (gr _ ⟨fun _ => ⟨fun _ => ⟨fun _ => ⟨fun _ => ⟨fun _ => ⟨fun q => absurd q (by decide), fun _ => ⟨_, _, _, k2, rfl⟩⟩, fun q => absurd q (by decide)⟩, fun q => absurd q (by decide)⟩, fun q => absurd q (by decide)⟩, fun q => absurd q (by decide)⟩, fun q => absurd (show 0 ≤ I (nI 8) ∧ I (nI 8) ≤ 9 by decide) q⟩) (fun _ _ _ => rfl) (fun k _ _ _ q4 _ => s1 k q4) (fun k _ _ q3 => s2 k q3)
    · obtain ⟨f1, s1, k1⟩ := wBare (W := W) (d + 3) (nI 9 - 7) (mk := mkR (r 1)) (z := z) (f := f) hmc
      obtain ⟨r1, s2, k2⟩ := rBare d' (nI 9) (mk := mkR (r 1)) (z := uZ zr 0 0) (f := r) (fun i _ => mkR_r (r 1) i)
      rw [bqr_9] at k2
      rw [if_neg (show ¬ nI 9 - 7 = 0 by decide), if_neg (show ¬ nI 9 - 7 = 1 by decide)] at k1
      exact fin _ z f1 r1 (gc _ ⟨fun q => absurd q (by decide), fun _ => ⟨fun q => absurd q (by decide), fun _ => ⟨fun q => absurd q (by decide), fun _ => ⟨fun q => absurd q (by decide), fun _ => ⟨fun q => absurd q (by decide), fun _ => ⟨fun q => absurd q (by decide), fun _ => ⟨fun q => absurd q (by decide), fun _ => ⟨fun q => absurd q (by decide), fun _ => ⟨fun q => absurd q (by decide), fun _ => ⟨fun _ => ⟨_, _, _, k1, rfl⟩, fun q => absurd rfl q⟩⟩⟩⟩⟩⟩⟩⟩⟩⟩) (gr _ ⟨fun _ => ⟨fun _ => ⟨fun _ => ⟨fun _ => ⟨fun _ => ⟨fun q => absurd q (by decide), fun _ => ⟨_, _, _, k2, rfl⟩⟩, fun q => absurd q (by decide)⟩, fun q => absurd q (by decide)⟩, fun q => absurd q (by decide)⟩, fun q => absurd q (by decide)⟩, fun q => absurd (show 0 ≤ I (nI 9) ∧ I (nI 9) ≤ 9 by decide) q⟩) (fun _ _ _ => rfl) (fun k _ _ _ q4 _ => s1 k q4) (fun k _ _ q3 => s2 k q3)
  · have ny : ∀ k : Nat, k < 10 → ¬ x = nI k := fun k hk q => cx (by rw [q, I_nI (by omega)]; omega)
    exact fin (-100000) z f r (gc _ ⟨fun q => absurd q (ny 0 (by decide)), fun _ => ⟨fun q => absurd q (ny 1 (by decide)), fun _ => ⟨fun q => absurd q (ny 2 (by decide)), fun _ => ⟨fun q => absurd q (ny 3 (by decide)), fun _ => ⟨fun q => absurd q (ny 4 (by decide)), fun _ => ⟨fun q => absurd q (ny 5 (by decide)), fun _ => ⟨fun q => absurd q (ny 6 (by decide)), fun _ => ⟨fun q => absurd q (ny 7 (by decide)), fun _ => ⟨fun q => absurd q (ny 8 (by decide)), fun _ => ⟨fun q => absurd q (ny 9 (by decide)), fun _ => rfl⟩⟩⟩⟩⟩⟩⟩⟩⟩⟩) (gr _ ⟨fun q => absurd q cx, fun _ => rfl⟩) (fun _ _ _ => rfl) (fun _ _ _ _ _ _ => rfl) (fun _ _ _ _ => rfl)
