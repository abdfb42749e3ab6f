/-! state, book, cell: both sides -/
section TWs
variable {W : TXW}
set_option maxRecDepth 100000 in
theorem bs_179_1 (call : QC FA) (x1 : Int32) (o2 : Option PV) (z : Nat → Int32) (f : Nat → FA) (F : Nat) : xnG call 179 (F + 9) 0 [some (vR 0), some (vI x1), o2] [] (LW W z f) = xnG call 179 F 9 [some (vR 0), some (vI x1), some (vI (z 28))] [vI x1, vR 2] (LW W z f) := rfl
set_option maxRecDepth 100000 in
theorem bs_179_2 (call : QC FA) (y : Int32) (ls : List (Option PV)) (z : Nat → Int32) (f : Nat → FA) (F : Nat) : xnG call 179 (F + 1) 9 ls [vI y, vR 2] (LW W z f) = xnG call 179 F 10 ls [] (LW W (uZ z 28 y) f) := rfl
set_option maxRecDepth 100000 in
theorem bs_179_3 (call : QC FA) (x1 : Int32) (x2 : Int32) (z : Nat → Int32) (f : Nat → FA) (F : Nat) : xnG call 179 (F + 2) 10 [some (vR 0), some (vI x1), some (vI x2)] [] (LW W z f) = xnG call 179 F 12 [some (vR 0), some (vI x1), some (vI x2)] [vR 12] (LW W z f) := rfl
set_option maxRecDepth 100000 in
theorem bs_179_4 (call : QC FA) (ls : List (Option PV)) (z : Nat → Int32) (f : Nat → FA) (F : Nat) : xnG call 179 (F + 1) 12 ls [vR 12] (LW W z f) = cbd (call 139 [vR 12] (LW W z f)) (fun r L' => xnG call 179 F 13 ls (r.toList ++ []) L') := pcY (ih := xnG call 179 F) (call := call) (a := 139) (b := 0) (v := 7) (t := 13) (x := 12) (ls := ls) (As := []) (st' := []) (L := LW W z f) rfl rfl rfl
set_option maxRecDepth 100000 in
theorem bs_179_5 (call : QC FA) (x1 : Int32) (x2 : Int32) (L : QH FA) (F : Nat) : xnG call 179 (F + 1) 13 [some (vR 0), some (vI x1), some (vI x2)] [] L = xnG call 179 F 14 [some (vR 0), some (vI x1), some (vI x2)] [vI x2] L := rfl
set_option maxRecDepth 100000 in
theorem bs_179_6 (call : QC FA) (x : Int32) (ls : List (Option PV)) (L : QH FA) (F : Nat) : xnG call 179 (F + 1) 14 ls [vI x] L = some (some (vI x), L) := rfl
theorem vcs_179_0 (call : QC FA) (x1 : Int32) (o2 : Option PV) (z : Nat → Int32) (f : Nat → FA) (res : Option PV × QH FA) (H : (∃ (z1 : Nat → Int32) (f1 : Nat → FA), call 139 [vR 12] (LW W (uZ z 28 x1) f) = some (none, LW W z1 f1) ∧ res = (some (vI (z 28)), LW W z1 f1))) : XC call (mP 179) 0 [some (vR 0), some (vI x1), o2] [] (LW W z f) res := by
  refine xc_b (i' := 9) (ls' := [some (vR 0), some (vI x1), some (vI (z 28))]) (st' := [vI x1, vR 2]) (L' := LW W z f) 9 (bs_179_1 call x1 o2 z f) ?_
  refine xc_b (i' := 10) (ls' := [some (vR 0), some (vI x1), some (vI (z 28))]) (st' := []) (L' := LW W (uZ z 28 x1) f) 1 (bs_179_2 call x1 _ z f) ?_
  refine xc_b (i' := 12) (ls' := [some (vR 0), some (vI x1), some (vI (z 28))]) (st' := [vR 12]) (L' := LW W (uZ z 28 x1) f) 2 (bs_179_3 call x1 (z 28) (uZ z 28 x1) f) ?_
  obtain ⟨z1, f1, hc, H⟩ := H
  refine xc_call (t := 13) (ls' := [some (vR 0), some (vI x1), some (vI (z 28))]) (st' := []) (bs_179_4 call _ (uZ z 28 x1) f) hc ?_
  show XC call (mP 179) 13 [some (vR 0), some (vI x1), some (vI (z 28))] [] (LW W z1 f1) res
  refine xc_b (i' := 14) (ls' := [some (vR 0), some (vI x1), some (vI (z 28))]) (st' := [vI (z 28)]) (L' := LW W z1 f1) 1 (bs_179_5 call x1 (z 28) _) ?_
  subst H
  exact xc_ret (bs_179_6 call _ _ _)
set_option maxRecDepth 100000 in
theorem bs_152_1 (call : QC FA) (x1 : Int32) (x2 : Int32) (L : QH FA) (F : Nat) : xnG call 152 (F + 1) 0 [some (vR 0), some (vI x1), some (vI x2)] [] L = xnG call 152 F 1 [some (vR 0), some (vI x1), some (vI x2)] [vI x1] L := rfl
set_option maxRecDepth 100000 in
theorem bs_152_2 (call : QC FA) (x : Int32) (ls : List (Option PV)) (L : QH FA) (F : Nat) : xnG call 152 (F + 1) 1 ls [vI x] L = bif pcmp 2 x 0 then xnG call 152 F 13 ls [] L else xnG call 152 F 2 ls [] L := rfl
set_option maxRecDepth 100000 in
theorem bs_152_3 (call : QC FA) (x1 : Int32) (x2 : Int32) (L : QH FA) (F : Nat) : xnG call 152 (F + 1) 13 [some (vR 0), some (vI x1), some (vI x2)] [] L = xnG call 152 F 14 [some (vR 0), some (vI x1), some (vI x2)] [vI ((-10000))] L := rfl
set_option maxRecDepth 100000 in
theorem bs_152_4 (call : QC FA) (x : Int32) (ls : List (Option PV)) (L : QH FA) (F : Nat) : xnG call 152 (F + 1) 14 ls [vI x] L = some (some (vI x), L) := rfl
set_option maxRecDepth 100000 in
theorem bs_152_5 (call : QC FA) (x1 : Int32) (x2 : Int32) (z : Nat → Int32) (f : Nat → FA) (F : Nat) : xnG call 152 (F + 5) 2 [some (vR 0), some (vI x1), some (vI x2)] [] (LW W z f) = xnG call 152 F 7 [some (vR 0), some (vI x1), some (vI x2)] [vI (z 29), vI x1] (LW W z f) := rfl
set_option maxRecDepth 100000 in
theorem bs_152_6 (call : QC FA) (x y : Int32) (ls : List (Option PV)) (L : QH FA) (F : Nat) : xnG call 152 (F + 1) 7 ls [vI y, vI x] L = bif pcmp 3 x y then xnG call 152 F 13 ls [] L else xnG call 152 F 8 ls [] L := rfl
set_option maxRecDepth 100000 in
theorem bs_152_7 (call : QC FA) (x1 : Int32) (x2 : Int32) (L : QH FA) (F : Nat) : xnG call 152 (F + 1) 8 [some (vR 0), some (vI x1), some (vI x2)] [] L = xnG call 152 F 9 [some (vR 0), some (vI x1), some (vI x2)] [vI x2] L := rfl
set_option maxRecDepth 100000 in
theorem bs_152_8 (call : QC FA) (x : Int32) (ls : List (Option PV)) (L : QH FA) (F : Nat) : xnG call 152 (F + 1) 9 ls [vI x] L = bif pcmp 2 x 0 then xnG call 152 F 13 ls [] L else xnG call 152 F 10 ls [] L := rfl
set_option maxRecDepth 100000 in
theorem bs_152_9 (call : QC FA) (x1 : Int32) (x2 : Int32) (L : QH FA) (F : Nat) : xnG call 152 (F + 2) 10 [some (vR 0), some (vI x1), some (vI x2)] [] L = xnG call 152 F 12 [some (vR 0), some (vI x1), some (vI x2)] [vI 5, vI x2] L := rfl
set_option maxRecDepth 100000 in
theorem bs_152_10 (call : QC FA) (x y : Int32) (ls : List (Option PV)) (L : QH FA) (F : Nat) : xnG call 152 (F + 1) 12 ls [vI y, vI x] L = bif pcmp 2 x y then xnG call 152 F 15 ls [] L else xnG call 152 F 13 ls [] L := rfl
set_option maxRecDepth 100000 in
theorem bs_152_11 (call : QC FA) (x1 : Int32) (x2 : Int32) (z : Nat → Int32) (f : Nat → FA) (F : Nat) : xnG call 152 (F + 5) 15 [some (vR 0), some (vI x1), some (vI x2)] [] (LW W z f) = xnG call 152 F 20 [some (vR 0), some (vI x1), some (vI x2)] [vI x2, vI x1, vR 5] (LW W z f) := rfl
set_option maxRecDepth 100000 in
theorem bs_152_12 (call : QC FA) (a0 : Int32) (a1 : Int32) (ls : List (Option PV)) (z : Nat → Int32) (f : Nat → FA) (F : Nat) : xnG call 152 (F + 1) 20 ls [vI a1, vI a0, vR 5] (LW W z f) = cbd (call 103 [vR 5, vI a0, vI a1] (LW W z f)) (fun r L' => xnG call 152 F 21 ls (r.toList ++ []) L') := pcY (ih := xnG call 152 F) (call := call) (a := 103) (b := 2) (v := 3) (t := 21) (x := 5) (ls := ls) (As := [vI a0, vI a1]) (st' := []) (L := LW W z f) rfl rfl rfl
set_option maxRecDepth 100000 in
theorem bs_152_13 (call : QC FA) (x : Int32) (ls : List (Option PV)) (L : QH FA) (F : Nat) : xnG call 152 (F + 1) 21 ls [vI x] L = some (some (vI x), L) := rfl
theorem vcs_152_0 (call : QC FA) (x1 : Int32) (x2 : Int32) (z : Nat → Int32) (f : Nat → FA) (res : Option PV × QH FA) (H : ((I x1 < 0 → res = (some (vI ((-10000))), LW W z f)) ∧ (0 ≤ I x1 → ((I (z 29) ≤ I x1 → res = (some (vI ((-10000))), LW W z f)) ∧ (I x1 < I (z 29) → ((I x2 < 0 → res = (some (vI ((-10000))), LW W z f)) ∧ (0 ≤ I x2 → ((I x2 < 5 → (∃ (r1 : Int32) (z1 : Nat → Int32) (f1 : Nat → FA), call 103 [vR 5, vI x1, vI x2] (LW W z f) = some (some (vI r1), LW W z1 f1) ∧ res = (some (vI r1), LW W z1 f1))) ∧ (5 ≤ I x2 → res = (some (vI ((-10000))), LW W z f)))))))))) : XC call (mP 152) 0 [some (vR 0), some (vI x1), some (vI x2)] [] (LW W z f) res := by
  refine xc_b (i' := 1) (ls' := [some (vR 0), some (vI x1), some (vI x2)]) (st' := [vI x1]) (L' := LW W z f) 1 (bs_152_1 call x1 x2 _) ?_
  refine xc_if (it := 13) (ie := 2) (ls' := [some (vR 0), some (vI x1), some (vI x2)]) (st' := []) (bs_152_2 call x1 _ _) (fun q1 => ?_) (fun q1 => ?_)
  · have H := H.1 (cI2t q1 rfl rfl)
    refine xc_b (i' := 14) (ls' := [some (vR 0), some (vI x1), some (vI x2)]) (st' := [vI ((-10000))]) (L' := LW W z f) 1 (bs_152_3 call x1 x2 _) ?_
    subst H
    exact xc_ret (bs_152_4 call _ _ _)
  · have H := H.2 (cI2f q1 rfl rfl)
    refine xc_b (i' := 7) (ls' := [some (vR 0), some (vI x1), some (vI x2)]) (st' := [vI (z 29), vI x1]) (L' := LW W z f) 5 (bs_152_5 call x1 x2 z f) ?_
    refine xc_if (it := 13) (ie := 8) (ls' := [some (vR 0), some (vI x1), some (vI x2)]) (st' := []) (bs_152_6 call x1 (z 29) _ _) (fun q2 => ?_) (fun q2 => ?_)
    · have H := H.1 (cI3t q2 rfl rfl)
      refine xc_b (i' := 14) (ls' := [some (vR 0), some (vI x1), some (vI x2)]) (st' := [vI ((-10000))]) (L' := LW W z f) 1 (bs_152_3 call x1 x2 _) ?_
      subst H
      exact xc_ret (bs_152_4 call _ _ _)
    · have H := H.2 (cI3f q2 rfl rfl)
      refine xc_b (i' := 9) (ls' := [some (vR 0), some (vI x1), some (vI x2)]) (st' := [vI x2]) (L' := LW W z f) 1 (bs_152_7 call x1 x2 _) ?_
      refine xc_if (it := 13) (ie := 10) (ls' := [some (vR 0), some (vI x1), some (vI x2)]) (st' := []) (bs_152_8 call x2 _ _) (fun q3 => ?_) (fun q3 => ?_)
      · have H := H.1 (cI2t q3 rfl rfl)
        refine xc_b (i' := 14) (ls' := [some (vR 0), some (vI x1), some (vI x2)]) (st' := [vI ((-10000))]) (L' := LW W z f) 1 (bs_152_3 call x1 x2 _) ?_
        subst H
        exact xc_ret (bs_152_4 call _ _ _)
      · have H := H.2 (cI2f q3 rfl rfl)
        refine xc_b (i' := 12) (ls' := [some (vR 0), some (vI x1), some (vI x2)]) (st' := [vI 5, vI x2]) (L' := LW W z f) 2 (bs_152_9 call x1 x2 _) ?_
        refine xc_if (it := 15) (ie := 13) (ls' := [some (vR 0), some (vI x1), some (vI x2)]) (st' := []) (bs_152_10 call x2 5 _ _) (fun q4 => ?_) (fun q4 => ?_)
        · have H := H.1 (cI2t q4 rfl rfl)
          refine xc_b (i' := 20) (ls' := [some (vR 0), some (vI x1), some (vI x2)]) (st' := [vI x2, vI x1, vR 5]) (L' := LW W z f) 5 (bs_152_11 call x1 x2 z f) ?_
          obtain ⟨r1, z1, f1, hc, H⟩ := H
          refine xc_call (t := 21) (ls' := [some (vR 0), some (vI x1), some (vI x2)]) (st' := []) (bs_152_12 call x1 x2 _ z f) hc ?_
          show XC call (mP 152) 21 [some (vR 0), some (vI x1), some (vI x2)] [vI r1] (LW W z1 f1) res
          subst H
          exact xc_ret (bs_152_13 call _ _ _)
        · have H := H.2 (cI2f q4 rfl rfl)
          refine xc_b (i' := 14) (ls' := [some (vR 0), some (vI x1), some (vI x2)]) (st' := [vI ((-10000))]) (L' := LW W z f) 1 (bs_152_3 call x1 x2 _) ?_
          subst H
          exact xc_ret (bs_152_4 call _ _ _)
set_option maxRecDepth 100000 in
theorem bs_155_1 (call : QC FA) (x1 : Int32) (x2 : Int32) (x3 : Int32) (o4 : Option PV) (o5 : Option PV) (L : QH FA) (F : Nat) : xnG call 155 (F + 2) 0 [some (vR 0), some (vI x1), some (vI x2), some (vI x3), o4, o5] [] L = xnG call 155 F 2 [some (vR 0), some (vI x1), some (vI x2), some (vI x3), o4, o5] [vI x2, vI x1] L := rfl
set_option maxRecDepth 100000 in
theorem bs_155_2 (call : QC FA) (a0 : Int32) (a1 : Int32) (ls : List (Option PV)) (z : Nat → Int32) (f : Nat → FA) (F : Nat) : xnG call 155 (F + 1) 2 ls [vI a1, vI a0] (LW W z f) = cbd (call 28 [vI a0, vI a1] (LW W z f)) (fun r L' => xnG call 155 F 3 ls (r.toList ++ []) L') := pcZ (ih := xnG call 155 F) (call := call) (a := 28) (b := 2) (t := 3) (ls := ls) (As := [vI a0, vI a1]) (st' := []) (L := LW W z f) rfl rfl
set_option maxRecDepth 100000 in
theorem bs_155_3 (call : QC FA) (x1 : Int32) (x2 : Int32) (x3 : Int32) (o4 : Option PV) (o5 : Option PV) (s0 : Int32) (L : QH FA) (F : Nat) : xnG call 155 (F + 3) 3 [some (vR 0), some (vI x1), some (vI x2), some (vI x3), o4, o5] [vI s0] L = xnG call 155 F 6 [some (vR 0), some (vI x1), some (vI x2), some (vI x3), some (vI s0), o5] [vI ((-1)), vI s0] L := rfl
set_option maxRecDepth 100000 in
theorem bs_155_4 (call : QC FA) (x y : Int32) (ls : List (Option PV)) (L : QH FA) (F : Nat) : xnG call 155 (F + 1) 6 ls [vI y, vI x] L = bif pcmp 0 x y then xnG call 155 F 12 ls [] L else xnG call 155 F 7 ls [] L := rfl
set_option maxRecDepth 100000 in
theorem bs_155_5 (call : QC FA) (x1 : Int32) (x2 : Int32) (x3 : Int32) (x4 : Int32) (o5 : Option PV) (L : QH FA) (F : Nat) : xnG call 155 (F + 1) 12 [some (vR 0), some (vI x1), some (vI x2), some (vI x3), some (vI x4), o5] [] L = xnG call 155 F 13 [some (vR 0), some (vI x1), some (vI x2), some (vI x3), some (vI x4), o5] [vI ((-2))] L := rfl
set_option maxRecDepth 100000 in
theorem bs_155_6 (call : QC FA) (x : Int32) (ls : List (Option PV)) (L : QH FA) (F : Nat) : xnG call 155 (F + 1) 13 ls [vI x] L = some (some (vI x), L) := rfl
set_option maxRecDepth 100000 in
theorem bs_155_7 (call : QC FA) (x1 : Int32) (x2 : Int32) (x3 : Int32) (x4 : Int32) (o5 : Option PV) (L : QH FA) (F : Nat) : xnG call 155 (F + 1) 7 [some (vR 0), some (vI x1), some (vI x2), some (vI x3), some (vI x4), o5] [] L = xnG call 155 F 8 [some (vR 0), some (vI x1), some (vI x2), some (vI x3), some (vI x4), o5] [vI x3] L := rfl
set_option maxRecDepth 100000 in
theorem bs_155_8 (call : QC FA) (x : Int32) (ls : List (Option PV)) (L : QH FA) (F : Nat) : xnG call 155 (F + 1) 8 ls [vI x] L = bif pcmp 2 x 0 then xnG call 155 F 12 ls [] L else xnG call 155 F 9 ls [] L := rfl
set_option maxRecDepth 100000 in
theorem bs_155_9 (call : QC FA) (x1 : Int32) (x2 : Int32) (x3 : Int32) (x4 : Int32) (o5 : Option PV) (L : QH FA) (F : Nat) : xnG call 155 (F + 2) 9 [some (vR 0), some (vI x1), some (vI x2), some (vI x3), some (vI x4), o5] [] L = xnG call 155 F 11 [some (vR 0), some (vI x1), some (vI x2), some (vI x3), some (vI x4), o5] [vI 4, vI x3] L := rfl
set_option maxRecDepth 100000 in
theorem bs_155_10 (call : QC FA) (x y : Int32) (ls : List (Option PV)) (L : QH FA) (F : Nat) : xnG call 155 (F + 1) 11 ls [vI y, vI x] L = bif pcmp 5 x y then xnG call 155 F 14 ls [] L else xnG call 155 F 12 ls [] L := rfl
set_option maxRecDepth 100000 in
theorem bs_155_11 (call : QC FA) (x1 : Int32) (x2 : Int32) (x3 : Int32) (x4 : Int32) (o5 : Option PV) (z : Nat → Int32) (f : Nat → FA) (F : Nat) : xnG call 155 (F + 4) 14 [some (vR 0), some (vI x1), some (vI x2), some (vI x3), some (vI x4), o5] [] (LW W z f) = xnG call 155 F 18 [some (vR 0), some (vI x1), some (vI x2), some (vI x3), some (vI x4), o5] [vI x4, vR 2] (LW W z f) := rfl
set_option maxRecDepth 100000 in
theorem bs_155_12 (call : QC FA) (a0 : Int32) (ls : List (Option PV)) (z : Nat → Int32) (f : Nat → FA) (F : Nat) : xnG call 155 (F + 1) 18 ls [vI a0, vR 2] (LW W z f) = cbd (call 6 [vR 2, vI a0] (LW W z f)) (fun r L' => xnG call 155 F 19 ls (r.toList ++ []) L') := pcY (ih := xnG call 155 F) (call := call) (a := 6) (b := 1) (v := 0) (t := 19) (x := 2) (ls := ls) (As := [vI a0]) (st' := []) (L := LW W z f) rfl rfl rfl
set_option maxRecDepth 100000 in
theorem bs_155_13 (call : QC FA) (x : Int32) (ls : List (Option PV)) (L : QH FA) (F : Nat) : xnG call 155 (F + 1) 19 ls [vI x] L = bif pcmp 1 x 0 then xnG call 155 F 22 ls [] L else xnG call 155 F 20 ls [] L := rfl
set_option maxRecDepth 100000 in
theorem bs_155_14 (call : QC FA) (x1 : Int32) (x2 : Int32) (x3 : Int32) (x4 : Int32) (o5 : Option PV) (L : QH FA) (F : Nat) : xnG call 155 (F + 3) 22 [some (vR 0), some (vI x1), some (vI x2), some (vI x3), some (vI x4), o5] [] L = xnG call 155 F 25 [some (vR 0), some (vI x1), some (vI x2), some (vI x3), some (vI x4), some (vI 0)] [vI x3] L := rfl
set_option maxRecDepth 100000 in
theorem bs_155_15 (call : QC FA) (x : Int32) (hx : x = 0) (ls : List (Option PV)) (L : QH FA) (F : Nat) : xnG call 155 (F + 1) 25 ls [vI x] L = xnG call 155 F 26 ls [] L := by
  subst hx
  exact pwa_ (ih := xnG call 155 F) (a := 0) (b := 3) (tg := [53, 26, 32, 38, 44]) (x := 0) (st := []) (by decide) rfl
set_option maxRecDepth 100000 in
theorem bs_155_16 (call : QC FA) (x1 : Int32) (x2 : Int32) (x3 : Int32) (x4 : Int32) (x5 : Int32) (z : Nat → Int32) (f : Nat → FA) (F : Nat) : xnG call 155 (F + 4) 26 [some (vR 0), some (vI x1), some (vI x2), some (vI x3), some (vI x4), some (vI x5)] [] (LW W z f) = xnG call 155 F 30 [some (vR 0), some (vI x1), some (vI x2), some (vI x3), some (vI x4), some (vI x5)] [vI x4, vR 2] (LW W z f) := rfl
set_option maxRecDepth 100000 in
theorem bs_155_17 (call : QC FA) (a0 : Int32) (ls : List (Option PV)) (z : Nat → Int32) (f : Nat → FA) (F : Nat) : xnG call 155 (F + 1) 30 ls [vI a0, vR 2] (LW W z f) = cbd (call 11 [vR 2, vI a0] (LW W z f)) (fun r L' => xnG call 155 F 31 ls (r.toList ++ []) L') := pcY (ih := xnG call 155 F) (call := call) (a := 11) (b := 1) (v := 0) (t := 31) (x := 2) (ls := ls) (As := [vI a0]) (st' := []) (L := LW W z f) rfl rfl rfl
set_option maxRecDepth 100000 in
theorem bs_155_18 (call : QC FA) (x : Int32) (ls : List (Option PV)) (L : QH FA) (F : Nat) : xnG call 155 (F + 1) 31 ls [vI x] L = some (some (vI x), L) := rfl
set_option maxRecDepth 100000 in
theorem bs_155_19 (call : QC FA) (x : Int32) (hx : x = 1) (ls : List (Option PV)) (L : QH FA) (F : Nat) : xnG call 155 (F + 1) 25 ls [vI x] L = xnG call 155 F 32 ls [] L := by
  subst hx
  exact pwa_ (ih := xnG call 155 F) (a := 0) (b := 3) (tg := [53, 26, 32, 38, 44]) (x := 1) (st := []) (by decide) rfl
set_option maxRecDepth 100000 in
theorem bs_155_20 (call : QC FA) (x1 : Int32) (x2 : Int32) (x3 : Int32) (x4 : Int32) (x5 : Int32) (z : Nat → Int32) (f : Nat → FA) (F : Nat) : xnG call 155 (F + 4) 32 [some (vR 0), some (vI x1), some (vI x2), some (vI x3), some (vI x4), some (vI x5)] [] (LW W z f) = xnG call 155 F 36 [some (vR 0), some (vI x1), some (vI x2), some (vI x3), some (vI x4), some (vI x5)] [vI x4, vR 2] (LW W z f) := rfl
set_option maxRecDepth 100000 in
theorem bs_155_21 (call : QC FA) (a0 : Int32) (ls : List (Option PV)) (z : Nat → Int32) (f : Nat → FA) (F : Nat) : xnG call 155 (F + 1) 36 ls [vI a0, vR 2] (LW W z f) = cbd (call 7 [vR 2, vI a0] (LW W z f)) (fun r L' => xnG call 155 F 37 ls (r.toList ++ []) L') := pcY (ih := xnG call 155 F) (call := call) (a := 7) (b := 1) (v := 0) (t := 37) (x := 2) (ls := ls) (As := [vI a0]) (st' := []) (L := LW W z f) rfl rfl rfl
set_option maxRecDepth 100000 in
theorem bs_155_22 (call : QC FA) (x : Int32) (ls : List (Option PV)) (L : QH FA) (F : Nat) : xnG call 155 (F + 1) 37 ls [vI x] L = some (some (vI x), L) := rfl
set_option maxRecDepth 100000 in
theorem bs_155_23 (call : QC FA) (x : Int32) (hx : x = 2) (ls : List (Option PV)) (L : QH FA) (F : Nat) : xnG call 155 (F + 1) 25 ls [vI x] L = xnG call 155 F 38 ls [] L := by
  subst hx
  exact pwa_ (ih := xnG call 155 F) (a := 0) (b := 3) (tg := [53, 26, 32, 38, 44]) (x := 2) (st := []) (by decide) rfl
set_option maxRecDepth 100000 in
theorem bs_155_24 (call : QC FA) (x1 : Int32) (x2 : Int32) (x3 : Int32) (x4 : Int32) (x5 : Int32) (z : Nat → Int32) (f : Nat → FA) (F : Nat) : xnG call 155 (F + 4) 38 [some (vR 0), some (vI x1), some (vI x2), some (vI x3), some (vI x4), some (vI x5)] [] (LW W z f) = xnG call 155 F 42 [some (vR 0), some (vI x1), some (vI x2), some (vI x3), some (vI x4), some (vI x5)] [vI x4, vR 2] (LW W z f) := rfl
set_option maxRecDepth 100000 in
theorem bs_155_25 (call : QC FA) (a0 : Int32) (ls : List (Option PV)) (z : Nat → Int32) (f : Nat → FA) (F : Nat) : xnG call 155 (F + 1) 42 ls [vI a0, vR 2] (LW W z f) = cbd (call 15 [vR 2, vI a0] (LW W z f)) (fun r L' => xnG call 155 F 43 ls (r.toList ++ []) L') := pcY (ih := xnG call 155 F) (call := call) (a := 15) (b := 1) (v := 0) (t := 43) (x := 2) (ls := ls) (As := [vI a0]) (st' := []) (L := LW W z f) rfl rfl rfl
set_option maxRecDepth 100000 in
theorem bs_155_26 (call : QC FA) (x : Int32) (ls : List (Option PV)) (L : QH FA) (F : Nat) : xnG call 155 (F + 1) 43 ls [vI x] L = some (some (vI x), L) := rfl
set_option maxRecDepth 100000 in
theorem bs_155_27 (call : QC FA) (x : Int32) (hx : x = 3) (ls : List (Option PV)) (L : QH FA) (F : Nat) : xnG call 155 (F + 1) 25 ls [vI x] L = xnG call 155 F 44 ls [] L := by
  subst hx
  exact pwa_ (ih := xnG call 155 F) (a := 0) (b := 3) (tg := [53, 26, 32, 38, 44]) (x := 3) (st := []) (by decide) rfl
set_option maxRecDepth 100000 in
theorem bs_155_28 (call : QC FA) (x1 : Int32) (x2 : Int32) (x3 : Int32) (x4 : Int32) (x5 : Int32) (L : QH FA) (F : Nat) : xnG call 155 (F + 1) 44 [some (vR 0), some (vI x1), some (vI x2), some (vI x3), some (vI x4), some (vI x5)] [] L = xnG call 155 F 45 [some (vR 0), some (vI x1), some (vI x2), some (vI x3), some (vI x4), some (vI x5)] [vI x5] L := rfl
set_option maxRecDepth 100000 in
theorem bs_155_29 (call : QC FA) (x : Int32) (ls : List (Option PV)) (L : QH FA) (F : Nat) : xnG call 155 (F + 1) 45 ls [vI x] L = bif pcmp 0 x 0 then xnG call 155 F 48 ls [] L else xnG call 155 F 46 ls [] L := rfl
set_option maxRecDepth 100000 in
theorem bs_155_30 (call : QC FA) (x1 : Int32) (x2 : Int32) (x3 : Int32) (x4 : Int32) (x5 : Int32) (z : Nat → Int32) (f : Nat → FA) (F : Nat) : xnG call 155 (F + 3) 48 [some (vR 0), some (vI x1), some (vI x2), some (vI x3), some (vI x4), some (vI x5)] [] (LW W z f) = xnG call 155 F 51 [some (vR 0), some (vI x1), some (vI x2), some (vI x3), some (vI x4), some (vI x5)] [vI x4, vR 8] (LW W z f) := rfl
set_option maxRecDepth 100000 in
theorem bs_155_31 (call : QC FA) (a0 : Int32) (ls : List (Option PV)) (z : Nat → Int32) (f : Nat → FA) (F : Nat) : xnG call 155 (F + 1) 51 ls [vI a0, vR 8] (LW W z f) = cbd (call 96 [vR 8, vI a0] (LW W z f)) (fun r L' => xnG call 155 F 52 ls (r.toList ++ []) L') := pcY (ih := xnG call 155 F) (call := call) (a := 96) (b := 1) (v := 1) (t := 52) (x := 8) (ls := ls) (As := [vI a0]) (st' := []) (L := LW W z f) rfl rfl rfl
set_option maxRecDepth 100000 in
theorem bs_155_32 (call : QC FA) (x : Int32) (ls : List (Option PV)) (L : QH FA) (F : Nat) : xnG call 155 (F + 1) 52 ls [vI x] L = some (some (vI x), L) := rfl
set_option maxRecDepth 100000 in
theorem bs_155_33 (call : QC FA) (x : Int32) (hx : I x < 0 ∨ 3 < I x) (ls : List (Option PV)) (L : QH FA) (F : Nat) : xnG call 155 (F + 1) 25 ls [vI x] L = xnG call 155 F 53 ls [] L := pwd_ (ih := xnG call 155 F) (a := 0) (b := 3) (tg := [53, 26, 32, 38, 44]) (st := []) hx rfl
set_option maxRecDepth 100000 in
theorem bs_155_34 (call : QC FA) (x1 : Int32) (x2 : Int32) (x3 : Int32) (x4 : Int32) (x5 : Int32) (L : QH FA) (F : Nat) : xnG call 155 (F + 1) 53 [some (vR 0), some (vI x1), some (vI x2), some (vI x3), some (vI x4), some (vI x5)] [] L = xnG call 155 F 54 [some (vR 0), some (vI x1), some (vI x2), some (vI x3), some (vI x4), some (vI x5)] [vI x5] L := rfl
set_option maxRecDepth 100000 in
theorem bs_155_35 (call : QC FA) (x : Int32) (ls : List (Option PV)) (L : QH FA) (F : Nat) : xnG call 155 (F + 1) 54 ls [vI x] L = bif pcmp 0 x 0 then xnG call 155 F 57 ls [] L else xnG call 155 F 55 ls [] L := rfl
set_option maxRecDepth 100000 in
theorem bs_155_36 (call : QC FA) (x1 : Int32) (x2 : Int32) (x3 : Int32) (x4 : Int32) (x5 : Int32) (z : Nat → Int32) (f : Nat → FA) (F : Nat) : xnG call 155 (F + 3) 57 [some (vR 0), some (vI x1), some (vI x2), some (vI x3), some (vI x4), some (vI x5)] [] (LW W z f) = xnG call 155 F 60 [some (vR 0), some (vI x1), some (vI x2), some (vI x3), some (vI x4), some (vI x5)] [vI x4, vR 8] (LW W z f) := rfl
set_option maxRecDepth 100000 in
theorem bs_155_37 (call : QC FA) (a0 : Int32) (ls : List (Option PV)) (z : Nat → Int32) (f : Nat → FA) (F : Nat) : xnG call 155 (F + 1) 60 ls [vI a0, vR 8] (LW W z f) = cbd (call 10 [vR 8, vI a0] (LW W z f)) (fun r L' => xnG call 155 F 61 ls (r.toList ++ []) L') := pcY (ih := xnG call 155 F) (call := call) (a := 10) (b := 1) (v := 1) (t := 61) (x := 8) (ls := ls) (As := [vI a0]) (st' := []) (L := LW W z f) rfl rfl rfl
set_option maxRecDepth 100000 in
theorem bs_155_38 (call : QC FA) (x : Int32) (ls : List (Option PV)) (L : QH FA) (F : Nat) : xnG call 155 (F + 1) 61 ls [vI x] L = some (some (vI x), L) := rfl
set_option maxRecDepth 100000 in
theorem bs_155_39 (call : QC FA) (x1 : Int32) (x2 : Int32) (x3 : Int32) (x4 : Int32) (o5 : Option PV) (L : QH FA) (F : Nat) : xnG call 155 (F + 4) 20 [some (vR 0), some (vI x1), some (vI x2), some (vI x3), some (vI x4), o5] [] L = xnG call 155 F 25 [some (vR 0), some (vI x1), some (vI x2), some (vI x3), some (vI x4), some (vI 1)] [vI x3] L := rfl
set_option maxRecDepth 100000 in
theorem bs_155_40 (call : QC FA) (x1 : Int32) (x2 : Int32) (x3 : Int32) (x4 : Int32) (x5 : Int32) (L : QH FA) (F : Nat) : xnG call 155 (F + 2) 46 [some (vR 0), some (vI x1), some (vI x2), some (vI x3), some (vI x4), some (vI x5)] [] L = xnG call 155 F 52 [some (vR 0), some (vI x1), some (vI x2), some (vI x3), some (vI x4), some (vI x5)] [vI ((-1))] L := rfl
set_option maxRecDepth 100000 in
theorem bs_155_41 (call : QC FA) (x1 : Int32) (x2 : Int32) (x3 : Int32) (x4 : Int32) (x5 : Int32) (L : QH FA) (F : Nat) : xnG call 155 (F + 2) 55 [some (vR 0), some (vI x1), some (vI x2), some (vI x3), some (vI x4), some (vI x5)] [] L = xnG call 155 F 61 [some (vR 0), some (vI x1), some (vI x2), some (vI x3), some (vI x4), some (vI x5)] [vI ((-1))] L := rfl
theorem vcs_155_0 (call : QC FA) (x1 : Int32) (x2 : Int32) (x3 : Int32) (o4 : Option PV) (o5 : Option PV) (z : Nat → Int32) (f : Nat → FA) (res : Option PV × QH FA) (H : (∃ (r1 : Int32) (z1 : Nat → Int32) (f1 : Nat → FA), call 28 [vI x1, vI x2] (LW W z f) = some (some (vI r1), LW W z1 f1) ∧ ((r1 = (-1) → res = (some (vI ((-2))), LW W z1 f1)) ∧ (¬ r1 = (-1) → ((I x3 < 0 → res = (some (vI ((-2))), LW W z1 f1)) ∧ (0 ≤ I x3 → ((I x3 ≤ 4 → (∃ (r2 : Int32) (z2 : Nat → Int32) (f2 : Nat → FA), call 6 [vR 2, vI r1] (LW W z1 f1) = some (some (vI r2), LW W z2 f2) ∧ ((¬ r2 = 0 → ((x3 = 0 → (∃ (r3 : Int32) (z3 : Nat → Int32) (f3 : Nat → FA), call 11 [vR 2, vI r1] (LW W z2 f2) = some (some (vI r3), LW W z3 f3) ∧ res = (some (vI r3), LW W z3 f3))) ∧ (¬ x3 = 0 → ((x3 = 1 → (∃ (r4 : Int32) (z4 : Nat → Int32) (f4 : Nat → FA), call 7 [vR 2, vI r1] (LW W z2 f2) = some (some (vI r4), LW W z4 f4) ∧ res = (some (vI r4), LW W z4 f4))) ∧ (¬ x3 = 1 → ((x3 = 2 → (∃ (r5 : Int32) (z5 : Nat → Int32) (f5 : Nat → FA), call 15 [vR 2, vI r1] (LW W z2 f2) = some (some (vI r5), LW W z5 f5) ∧ res = (some (vI r5), LW W z5 f5))) ∧ (¬ x3 = 2 → ((x3 = 3 → (∃ (r6 : Int32) (z6 : Nat → Int32) (f6 : Nat → FA), call 96 [vR 8, vI r1] (LW W z2 f2) = some (some (vI r6), LW W z6 f6) ∧ res = (some (vI r6), LW W z6 f6))) ∧ (¬ x3 = 3 → (∃ (r7 : Int32) (z7 : Nat → Int32) (f7 : Nat → FA), call 10 [vR 8, vI r1] (LW W z2 f2) = some (some (vI r7), LW W z7 f7) ∧ res = (some (vI r7), LW W z7 f7))))))))))) ∧ (r2 = 0 → ((x3 = 0 → (∃ (r8 : Int32) (z8 : Nat → Int32) (f8 : Nat → FA), call 11 [vR 2, vI r1] (LW W z2 f2) = some (some (vI r8), LW W z8 f8) ∧ res = (some (vI r8), LW W z8 f8))) ∧ (¬ x3 = 0 → ((x3 = 1 → (∃ (r9 : Int32) (z9 : Nat → Int32) (f9 : Nat → FA), call 7 [vR 2, vI r1] (LW W z2 f2) = some (some (vI r9), LW W z9 f9) ∧ res = (some (vI r9), LW W z9 f9))) ∧ (¬ x3 = 1 → ((x3 = 2 → (∃ (r10 : Int32) (z10 : Nat → Int32) (f10 : Nat → FA), call 15 [vR 2, vI r1] (LW W z2 f2) = some (some (vI r10), LW W z10 f10) ∧ res = (some (vI r10), LW W z10 f10))) ∧ (¬ x3 = 2 → ((x3 = 3 → res = (some (vI ((-1))), LW W z2 f2)) ∧ (¬ x3 = 3 → res = (some (vI ((-1))), LW W z2 f2))))))))))))) ∧ (4 < I x3 → res = (some (vI ((-2))), LW W z1 f1))))))))) : XC call (mP 155) 0 [some (vR 0), some (vI x1), some (vI x2), some (vI x3), o4, o5] [] (LW W z f) res := by
  refine xc_b (i' := 2) (ls' := [some (vR 0), some (vI x1), some (vI x2), some (vI x3), o4, o5]) (st' := [vI x2, vI x1]) (L' := LW W z f) 2 (bs_155_1 call x1 x2 x3 o4 o5 _) ?_
  obtain ⟨r1, z1, f1, hc, H⟩ := H
  refine xc_call (t := 3) (ls' := [some (vR 0), some (vI x1), some (vI x2), some (vI x3), o4, o5]) (st' := []) (bs_155_2 call x1 x2 _ z f) hc ?_
  show XC call (mP 155) 3 [some (vR 0), some (vI x1), some (vI x2), some (vI x3), o4, o5] [vI r1] (LW W z1 f1) res
  refine xc_b (i' := 6) (ls' := [some (vR 0), some (vI x1), some (vI x2), some (vI x3), some (vI r1), o5]) (st' := [vI ((-1)), vI r1]) (L' := LW W z1 f1) 3 (bs_155_3 call x1 x2 x3 o4 o5 r1 _) ?_
  refine xc_if (it := 12) (ie := 7) (ls' := [some (vR 0), some (vI x1), some (vI x2), some (vI x3), some (vI r1), o5]) (st' := []) (bs_155_4 call r1 ((-1)) _ _) (fun q1 => ?_) (fun q1 => ?_)
  · have H := H.1 (cI0t q1)
    refine xc_b (i' := 13) (ls' := [some (vR 0), some (vI x1), some (vI x2), some (vI x3), some (vI r1), o5]) (st' := [vI ((-2))]) (L' := LW W z1 f1) 1 (bs_155_5 call x1 x2 x3 r1 o5 _) ?_
    subst H
    exact xc_ret (bs_155_6 call _ _ _)
  · have H := H.2 (cI0f q1)
    refine xc_b (i' := 8) (ls' := [some (vR 0), some (vI x1), some (vI x2), some (vI x3), some (vI r1), o5]) (st' := [vI x3]) (L' := LW W z1 f1) 1 (bs_155_7 call x1 x2 x3 r1 o5 _) ?_
    refine xc_if (it := 12) (ie := 9) (ls' := [some (vR 0), some (vI x1), some (vI x2), some (vI x3), some (vI r1), o5]) (st' := []) (bs_155_8 call x3 _ _) (fun q2 => ?_) (fun q2 => ?_)
    · have H := H.1 (cI2t q2 rfl rfl)
      refine xc_b (i' := 13) (ls' := [some (vR 0), some (vI x1), some (vI x2), some (vI x3), some (vI r1), o5]) (st' := [vI ((-2))]) (L' := LW W z1 f1) 1 (bs_155_5 call x1 x2 x3 r1 o5 _) ?_
      subst H
      exact xc_ret (bs_155_6 call _ _ _)
    · have H := H.2 (cI2f q2 rfl rfl)
      refine xc_b (i' := 11) (ls' := [some (vR 0), some (vI x1), some (vI x2), some (vI x3), some (vI r1), o5]) (st' := [vI 4, vI x3]) (L' := LW W z1 f1) 2 (bs_155_9 call x1 x2 x3 r1 o5 _) ?_
      refine xc_if (it := 14) (ie := 12) (ls' := [some (vR 0), some (vI x1), some (vI x2), some (vI x3), some (vI r1), o5]) (st' := []) (bs_155_10 call x3 4 _ _) (fun q3 => ?_) (fun q3 => ?_)
      · have H := H.1 (cI5t q3 rfl rfl)
        refine xc_b (i' := 18) (ls' := [some (vR 0), some (vI x1), some (vI x2), some (vI x3), some (vI r1), o5]) (st' := [vI r1, vR 2]) (L' := LW W z1 f1) 4 (bs_155_11 call x1 x2 x3 r1 o5 z1 f1) ?_
        obtain ⟨r2, z2, f2, hc, H⟩ := H
        refine xc_call (t := 19) (ls' := [some (vR 0), some (vI x1), some (vI x2), some (vI x3), some (vI r1), o5]) (st' := []) (bs_155_12 call r1 _ z1 f1) hc ?_
        show XC call (mP 155) 19 [some (vR 0), some (vI x1), some (vI x2), some (vI x3), some (vI r1), o5] [vI r2] (LW W z2 f2) res
        refine xc_if (it := 22) (ie := 20) (ls' := [some (vR 0), some (vI x1), some (vI x2), some (vI x3), some (vI r1), o5]) (st' := []) (bs_155_13 call r2 _ _) (fun q4 => ?_) (fun q4 => ?_)
        · have H := H.1 (cI1t q4)
          refine xc_b (i' := 25) (ls' := [some (vR 0), some (vI x1), some (vI x2), some (vI x3), some (vI r1), some (vI 0)]) (st' := [vI x3]) (L' := LW W z2 f2) 3 (bs_155_14 call x1 x2 x3 r1 o5 _) ?_
          by_cases q5 : x3 = 0
          · have H := H.1 q5
            refine xc_b (i' := 26) (ls' := [some (vR 0), some (vI x1), some (vI x2), some (vI x3), some (vI r1), some (vI 0)]) (st' := []) (L' := LW W z2 f2) 1 (bs_155_15 call x3 q5 _ _) ?_
            refine xc_b (i' := 30) (ls' := [some (vR 0), some (vI x1), some (vI x2), some (vI x3), some (vI r1), some (vI 0)]) (st' := [vI r1, vR 2]) (L' := LW W z2 f2) 4 (bs_155_16 call x1 x2 x3 r1 0 z2 f2) ?_
            obtain ⟨r3, z3, f3, hc, H⟩ := H
            refine xc_call (t := 31) (ls' := [some (vR 0), some (vI x1), some (vI x2), some (vI x3), some (vI r1), some (vI 0)]) (st' := []) (bs_155_17 call r1 _ z2 f2) hc ?_
            show XC call (mP 155) 31 [some (vR 0), some (vI x1), some (vI x2), some (vI x3), some (vI r1), some (vI 0)] [vI r3] (LW W z3 f3) res
            subst H
            exact xc_ret (bs_155_18 call _ _ _)
          · have H := H.2 q5
            by_cases q6 : x3 = 1
            · have H := H.1 q6
              refine xc_b (i' := 32) (ls' := [some (vR 0), some (vI x1), some (vI x2), some (vI x3), some (vI r1), some (vI 0)]) (st' := []) (L' := LW W z2 f2) 1 (bs_155_19 call x3 q6 _ _) ?_
              refine xc_b (i' := 36) (ls' := [some (vR 0), some (vI x1), some (vI x2), some (vI x3), some (vI r1), some (vI 0)]) (st' := [vI r1, vR 2]) (L' := LW W z2 f2) 4 (bs_155_20 call x1 x2 x3 r1 0 z2 f2) ?_
              obtain ⟨r4, z4, f4, hc, H⟩ := H
              refine xc_call (t := 37) (ls' := [some (vR 0), some (vI x1), some (vI x2), some (vI x3), some (vI r1), some (vI 0)]) (st' := []) (bs_155_21 call r1 _ z2 f2) hc ?_
              show XC call (mP 155) 37 [some (vR 0), some (vI x1), some (vI x2), some (vI x3), some (vI r1), some (vI 0)] [vI r4] (LW W z4 f4) res
              subst H
              exact xc_ret (bs_155_22 call _ _ _)
            · have H := H.2 q6
              by_cases q7 : x3 = 2
              · have H := H.1 q7
                refine xc_b (i' := 38) (ls' := [some (vR 0), some (vI x1), some (vI x2), some (vI x3), some (vI r1), some (vI 0)]) (st' := []) (L' := LW W z2 f2) 1 (bs_155_23 call x3 q7 _ _) ?_
                refine xc_b (i' := 42) (ls' := [some (vR 0), some (vI x1), some (vI x2), some (vI x3), some (vI r1), some (vI 0)]) (st' := [vI r1, vR 2]) (L' := LW W z2 f2) 4 (bs_155_24 call x1 x2 x3 r1 0 z2 f2) ?_
                obtain ⟨r5, z5, f5, hc, H⟩ := H
                refine xc_call (t := 43) (ls' := [some (vR 0), some (vI x1), some (vI x2), some (vI x3), some (vI r1), some (vI 0)]) (st' := []) (bs_155_25 call r1 _ z2 f2) hc ?_
                show XC call (mP 155) 43 [some (vR 0), some (vI x1), some (vI x2), some (vI x3), some (vI r1), some (vI 0)] [vI r5] (LW W z5 f5) res
                subst H
                exact xc_ret (bs_155_26 call _ _ _)
              · have H := H.2 q7
                by_cases q8 : x3 = 3
                · have H := H.1 q8
                  refine xc_b (i' := 44) (ls' := [some (vR 0), some (vI x1), some (vI x2), some (vI x3), some (vI r1), some (vI 0)]) (st' := []) (L' := LW W z2 f2) 1 (bs_155_27 call x3 q8 _ _) ?_
                  refine xc_b (i' := 45) (ls' := [some (vR 0), some (vI x1), some (vI x2), some (vI x3), some (vI r1), some (vI 0)]) (st' := [vI 0]) (L' := LW W z2 f2) 1 (bs_155_28 call x1 x2 x3 r1 0 _) ?_
                  refine xc_t (it := 48) (ie := 46) (ls' := [some (vR 0), some (vI x1), some (vI x2), some (vI x3), some (vI r1), some (vI 0)]) (st' := []) (bs_155_29 call 0 _ _) (by decide) ?_
                  refine xc_b (i' := 51) (ls' := [some (vR 0), some (vI x1), some (vI x2), some (vI x3), some (vI r1), some (vI 0)]) (st' := [vI r1, vR 8]) (L' := LW W z2 f2) 3 (bs_155_30 call x1 x2 x3 r1 0 z2 f2) ?_
                  obtain ⟨r6, z6, f6, hc, H⟩ := H
                  refine xc_call (t := 52) (ls' := [some (vR 0), some (vI x1), some (vI x2), some (vI x3), some (vI r1), some (vI 0)]) (st' := []) (bs_155_31 call r1 _ z2 f2) hc ?_
                  show XC call (mP 155) 52 [some (vR 0), some (vI x1), some (vI x2), some (vI x3), some (vI r1), some (vI 0)] [vI r6] (LW W z6 f6) res
                  subst H
                  exact xc_ret (bs_155_32 call _ _ _)
                · have H := H.2 q8
                  refine xc_b (i' := 53) (ls' := [some (vR 0), some (vI x1), some (vI x2), some (vI x3), some (vI r1), some (vI 0)]) (st' := []) (L' := LW W z2 f2) 1 (bs_155_33 call x3 (by have := (show I x3 ≠ 0 from ne_I q5); have := (show I x3 ≠ 1 from ne_I q6); have := (show I x3 ≠ 2 from ne_I q7); have := (show I x3 ≠ 3 from ne_I q8); omega) _ _) ?_
                  refine xc_b (i' := 54) (ls' := [some (vR 0), some (vI x1), some (vI x2), some (vI x3), some (vI r1), some (vI 0)]) (st' := [vI 0]) (L' := LW W z2 f2) 1 (bs_155_34 call x1 x2 x3 r1 0 _) ?_
                  refine xc_t (it := 57) (ie := 55) (ls' := [some (vR 0), some (vI x1), some (vI x2), some (vI x3), some (vI r1), some (vI 0)]) (st' := []) (bs_155_35 call 0 _ _) (by decide) ?_
                  refine xc_b (i' := 60) (ls' := [some (vR 0), some (vI x1), some (vI x2), some (vI x3), some (vI r1), some (vI 0)]) (st' := [vI r1, vR 8]) (L' := LW W z2 f2) 3 (bs_155_36 call x1 x2 x3 r1 0 z2 f2) ?_
                  obtain ⟨r7, z7, f7, hc, H⟩ := H
                  refine xc_call (t := 61) (ls' := [some (vR 0), some (vI x1), some (vI x2), some (vI x3), some (vI r1), some (vI 0)]) (st' := []) (bs_155_37 call r1 _ z2 f2) hc ?_
                  show XC call (mP 155) 61 [some (vR 0), some (vI x1), some (vI x2), some (vI x3), some (vI r1), some (vI 0)] [vI r7] (LW W z7 f7) res
                  subst H
                  exact xc_ret (bs_155_38 call _ _ _)
        · have H := H.2 (cI1f q4)
          refine xc_b (i' := 25) (ls' := [some (vR 0), some (vI x1), some (vI x2), some (vI x3), some (vI r1), some (vI 1)]) (st' := [vI x3]) (L' := LW W z2 f2) 4 (bs_155_39 call x1 x2 x3 r1 o5 _) ?_
          by_cases q9 : x3 = 0
          · have H := H.1 q9
            refine xc_b (i' := 26) (ls' := [some (vR 0), some (vI x1), some (vI x2), some (vI x3), some (vI r1), some (vI 1)]) (st' := []) (L' := LW W z2 f2) 1 (bs_155_15 call x3 q9 _ _) ?_
            refine xc_b (i' := 30) (ls' := [some (vR 0), some (vI x1), some (vI x2), some (vI x3), some (vI r1), some (vI 1)]) (st' := [vI r1, vR 2]) (L' := LW W z2 f2) 4 (bs_155_16 call x1 x2 x3 r1 1 z2 f2) ?_
            obtain ⟨r8, z8, f8, hc, H⟩ := H
            refine xc_call (t := 31) (ls' := [some (vR 0), some (vI x1), some (vI x2), some (vI x3), some (vI r1), some (vI 1)]) (st' := []) (bs_155_17 call r1 _ z2 f2) hc ?_
            show XC call (mP 155) 31 [some (vR 0), some (vI x1), some (vI x2), some (vI x3), some (vI r1), some (vI 1)] [vI r8] (LW W z8 f8) res
            subst H
            exact xc_ret (bs_155_18 call _ _ _)
          · have H := H.2 q9
            by_cases q10 : x3 = 1
            · have H := H.1 q10
              refine xc_b (i' := 32) (ls' := [some (vR 0), some (vI x1), some (vI x2), some (vI x3), some (vI r1), some (vI 1)]) (st' := []) (L' := LW W z2 f2) 1 (bs_155_19 call x3 q10 _ _) ?_
              refine xc_b (i' := 36) (ls' := [some (vR 0), some (vI x1), some (vI x2), some (vI x3), some (vI r1), some (vI 1)]) (st' := [vI r1, vR 2]) (L' := LW W z2 f2) 4 (bs_155_20 call x1 x2 x3 r1 1 z2 f2) ?_
              obtain ⟨r9, z9, f9, hc, H⟩ := H
              refine xc_call (t := 37) (ls' := [some (vR 0), some (vI x1), some (vI x2), some (vI x3), some (vI r1), some (vI 1)]) (st' := []) (bs_155_21 call r1 _ z2 f2) hc ?_
              show XC call (mP 155) 37 [some (vR 0), some (vI x1), some (vI x2), some (vI x3), some (vI r1), some (vI 1)] [vI r9] (LW W z9 f9) res
              subst H
              exact xc_ret (bs_155_22 call _ _ _)
            · have H := H.2 q10
              by_cases q11 : x3 = 2
              · have H := H.1 q11
                refine xc_b (i' := 38) (ls' := [some (vR 0), some (vI x1), some (vI x2), some (vI x3), some (vI r1), some (vI 1)]) (st' := []) (L' := LW W z2 f2) 1 (bs_155_23 call x3 q11 _ _) ?_
                refine xc_b (i' := 42) (ls' := [some (vR 0), some (vI x1), some (vI x2), some (vI x3), some (vI r1), some (vI 1)]) (st' := [vI r1, vR 2]) (L' := LW W z2 f2) 4 (bs_155_24 call x1 x2 x3 r1 1 z2 f2) ?_
                obtain ⟨r10, z10, f10, hc, H⟩ := H
                refine xc_call (t := 43) (ls' := [some (vR 0), some (vI x1), some (vI x2), some (vI x3), some (vI r1), some (vI 1)]) (st' := []) (bs_155_25 call r1 _ z2 f2) hc ?_
                show XC call (mP 155) 43 [some (vR 0), some (vI x1), some (vI x2), some (vI x3), some (vI r1), some (vI 1)] [vI r10] (LW W z10 f10) res
                subst H
                exact xc_ret (bs_155_26 call _ _ _)
              · have H := H.2 q11
                by_cases q12 : x3 = 3
                · have H := H.1 q12
                  refine xc_b (i' := 44) (ls' := [some (vR 0), some (vI x1), some (vI x2), some (vI x3), some (vI r1), some (vI 1)]) (st' := []) (L' := LW W z2 f2) 1 (bs_155_27 call x3 q12 _ _) ?_
                  refine xc_b (i' := 45) (ls' := [some (vR 0), some (vI x1), some (vI x2), some (vI x3), some (vI r1), some (vI 1)]) (st' := [vI 1]) (L' := LW W z2 f2) 1 (bs_155_28 call x1 x2 x3 r1 1 _) ?_
                  refine xc_f (it := 48) (ie := 46) (ls' := [some (vR 0), some (vI x1), some (vI x2), some (vI x3), some (vI r1), some (vI 1)]) (st' := []) (bs_155_29 call 1 _ _) (by decide) ?_
                  refine xc_b (i' := 52) (ls' := [some (vR 0), some (vI x1), some (vI x2), some (vI x3), some (vI r1), some (vI 1)]) (st' := [vI ((-1))]) (L' := LW W z2 f2) 2 (bs_155_40 call x1 x2 x3 r1 1 _) ?_
                  subst H
                  exact xc_ret (bs_155_32 call _ _ _)
                · have H := H.2 q12
                  refine xc_b (i' := 53) (ls' := [some (vR 0), some (vI x1), some (vI x2), some (vI x3), some (vI r1), some (vI 1)]) (st' := []) (L' := LW W z2 f2) 1 (bs_155_33 call x3 (by have := (show I x3 ≠ 0 from ne_I q9); have := (show I x3 ≠ 1 from ne_I q10); have := (show I x3 ≠ 2 from ne_I q11); have := (show I x3 ≠ 3 from ne_I q12); omega) _ _) ?_
                  refine xc_b (i' := 54) (ls' := [some (vR 0), some (vI x1), some (vI x2), some (vI x3), some (vI r1), some (vI 1)]) (st' := [vI 1]) (L' := LW W z2 f2) 1 (bs_155_34 call x1 x2 x3 r1 1 _) ?_
                  refine xc_f (it := 57) (ie := 55) (ls' := [some (vR 0), some (vI x1), some (vI x2), some (vI x3), some (vI r1), some (vI 1)]) (st' := []) (bs_155_35 call 1 _ _) (by decide) ?_
                  refine xc_b (i' := 61) (ls' := [some (vR 0), some (vI x1), some (vI x2), some (vI x3), some (vI r1), some (vI 1)]) (st' := [vI ((-1))]) (L' := LW W z2 f2) 2 (bs_155_41 call x1 x2 x3 r1 1 _) ?_
                  subst H
                  exact xc_ret (bs_155_38 call _ _ _)
      · have H := H.2 (cI5f q3 rfl rfl)
        refine xc_b (i' := 13) (ls' := [some (vR 0), some (vI x1), some (vI x2), some (vI x3), some (vI r1), o5]) (st' := [vI ((-2))]) (L' := LW W z1 f1) 1 (bs_155_5 call x1 x2 x3 r1 o5 _) ?_
        subst H
        exact xc_ret (bs_155_6 call _ _ _)
set_option maxRecDepth 100000 in
theorem bs_103_1 (call : QC FA) (x1 : Int32) (x2 : Int32) (o3 : Option PV) (L : QH FA) (F : Nat) : xnG call 103 (F + 1) 0 [some (vR 5), some (vI x1), some (vI x2), o3] [] L = xnG call 103 F 1 [some (vR 5), some (vI x1), some (vI x2), o3] [vI x1] L := rfl
set_option maxRecDepth 100000 in
theorem bs_103_2 (call : QC FA) (x : Int32) (ls : List (Option PV)) (L : QH FA) (F : Nat) : xnG call 103 (F + 1) 1 ls [vI x] L = bif pcmp 2 x 0 then xnG call 103 F 12 ls [] L else xnG call 103 F 2 ls [] L := rfl
set_option maxRecDepth 100000 in
theorem bs_103_3 (call : QC FA) (x1 : Int32) (x2 : Int32) (o3 : Option PV) (L : QH FA) (F : Nat) : xnG call 103 (F + 3) 12 [some (vR 5), some (vI x1), some (vI x2), o3] [] L = xnG call 103 F 15 [some (vR 5), some (vI x1), some (vI x2), some (vI 0)] [vI 0] L := rfl
set_option maxRecDepth 100000 in
theorem bs_103_4 (call : QC FA) (x : Int32) (ls : List (Option PV)) (L : QH FA) (F : Nat) : xnG call 103 (F + 1) 15 ls [vI x] L = bif pcmp 0 x 0 then xnG call 103 F 25 ls [] L else xnG call 103 F 16 ls [] L := rfl
set_option maxRecDepth 100000 in
theorem bs_103_5 (call : QC FA) (x1 : Int32) (x2 : Int32) (x3 : Int32) (L : QH FA) (F : Nat) : xnG call 103 (F + 1) 25 [some (vR 5), some (vI x1), some (vI x2), some (vI x3)] [] L = xnG call 103 F 26 [some (vR 5), some (vI x1), some (vI x2), some (vI x3)] [vI 0] L := rfl
set_option maxRecDepth 100000 in
theorem bs_103_6 (call : QC FA) (x : Int32) (ls : List (Option PV)) (L : QH FA) (F : Nat) : xnG call 103 (F + 1) 26 ls [vI x] L = some (some (vI x), L) := rfl
set_option maxRecDepth 100000 in
theorem bs_103_7 (call : QC FA) (x1 : Int32) (x2 : Int32) (o3 : Option PV) (L : QH FA) (F : Nat) : xnG call 103 (F + 2) 2 [some (vR 5), some (vI x1), some (vI x2), o3] [] L = xnG call 103 F 4 [some (vR 5), some (vI x1), some (vI x2), o3] [vI 150, vI x1] L := rfl
set_option maxRecDepth 100000 in
theorem bs_103_8 (call : QC FA) (x y : Int32) (ls : List (Option PV)) (L : QH FA) (F : Nat) : xnG call 103 (F + 1) 4 ls [vI y, vI x] L = bif pcmp 3 x y then xnG call 103 F 12 ls [] L else xnG call 103 F 5 ls [] L := rfl
set_option maxRecDepth 100000 in
theorem bs_103_9 (call : QC FA) (x1 : Int32) (x2 : Int32) (o3 : Option PV) (L : QH FA) (F : Nat) : xnG call 103 (F + 1) 5 [some (vR 5), some (vI x1), some (vI x2), o3] [] L = xnG call 103 F 6 [some (vR 5), some (vI x1), some (vI x2), o3] [vI x2] L := rfl
set_option maxRecDepth 100000 in
theorem bs_103_10 (call : QC FA) (x : Int32) (ls : List (Option PV)) (L : QH FA) (F : Nat) : xnG call 103 (F + 1) 6 ls [vI x] L = bif pcmp 2 x 0 then xnG call 103 F 12 ls [] L else xnG call 103 F 7 ls [] L := rfl
set_option maxRecDepth 100000 in
theorem bs_103_11 (call : QC FA) (x1 : Int32) (x2 : Int32) (o3 : Option PV) (L : QH FA) (F : Nat) : xnG call 103 (F + 2) 7 [some (vR 5), some (vI x1), some (vI x2), o3] [] L = xnG call 103 F 9 [some (vR 5), some (vI x1), some (vI x2), o3] [vI 5, vI x2] L := rfl
set_option maxRecDepth 100000 in
theorem bs_103_12 (call : QC FA) (x y : Int32) (ls : List (Option PV)) (L : QH FA) (F : Nat) : xnG call 103 (F + 1) 9 ls [vI y, vI x] L = bif pcmp 3 x y then xnG call 103 F 12 ls [] L else xnG call 103 F 10 ls [] L := rfl
set_option maxRecDepth 100000 in
theorem bs_103_13 (call : QC FA) (x1 : Int32) (x2 : Int32) (o3 : Option PV) (L : QH FA) (F : Nat) : xnG call 103 (F + 4) 10 [some (vR 5), some (vI x1), some (vI x2), o3] [] L = xnG call 103 F 15 [some (vR 5), some (vI x1), some (vI x2), some (vI 1)] [vI 1] L := rfl
set_option maxRecDepth 100000 in
theorem bs_103_14 (call : QC FA) (x1 : Int32) (x2 : Int32) (x3 : Int32) (z : Nat → Int32) (f : Nat → FA) (F : Nat) : xnG call 103 (F + 7) 16 [some (vR 5), some (vI x1), some (vI x2), some (vI x3)] [] (LW W z f) = xnG call 103 F 23 [some (vR 5), some (vI x1), some (vI x2), some (vI x3)] [vI ((x1 * 5) + x2), vR 6] (LW W z f) := rfl
set_option maxRecDepth 100000 in
theorem bs_103_15 (call : QC FA) (x : Int32) (ls : List (Option PV)) (z : Nat → Int32) (f : Nat → FA) (F : Nat) : xnG call 103 (F + 1) 23 ls [vI x, vR 6] (LW W z f) = bif (Nat.beq 0 0 && pin x 750) then xnG call 103 F 24 ls [vI (f 6 (ix x))] (LW W z f) else none := rfl
set_option maxRecDepth 100000 in
theorem bs_103_16 (call : QC FA) (x1 : Int32) (x2 : Int32) (x3 : Int32) (s0 : Int32) (L : QH FA) (F : Nat) : xnG call 103 (F + 1) 24 [some (vR 5), some (vI x1), some (vI x2), some (vI x3)] [vI s0] L = xnG call 103 F 26 [some (vR 5), some (vI x1), some (vI x2), some (vI x3)] [vI s0] L := rfl
theorem vcs_103_0 (call : QC FA) (x1 : Int32) (x2 : Int32) (o3 : Option PV) (z : Nat → Int32) (f : Nat → FA) (res : Option PV × QH FA) (H : ((I x1 < 0 → res = (some (vI 0), LW W z f)) ∧ (0 ≤ I x1 → ((150 ≤ I x1 → res = (some (vI 0), LW W z f)) ∧ (I x1 < 150 → ((I x2 < 0 → res = (some (vI 0), LW W z f)) ∧ (0 ≤ I x2 → ((5 ≤ I x2 → res = (some (vI 0), LW W z f)) ∧ (I x2 < 5 → (pin ((x1 * 5) + x2) 750 = true ∧ res = (some (vI (f 6 (ix ((x1 * 5) + x2)))), LW W z f))))))))))) : XC call (mP 103) 0 [some (vR 5), some (vI x1), some (vI x2), o3] [] (LW W z f) res := by
  refine xc_b (i' := 1) (ls' := [some (vR 5), some (vI x1), some (vI x2), o3]) (st' := [vI x1]) (L' := LW W z f) 1 (bs_103_1 call x1 x2 o3 _) ?_
  refine xc_if (it := 12) (ie := 2) (ls' := [some (vR 5), some (vI x1), some (vI x2), o3]) (st' := []) (bs_103_2 call x1 _ _) (fun q1 => ?_) (fun q1 => ?_)
  · have H := H.1 (cI2t q1 rfl rfl)
    refine xc_b (i' := 15) (ls' := [some (vR 5), some (vI x1), some (vI x2), some (vI 0)]) (st' := [vI 0]) (L' := LW W z f) 3 (bs_103_3 call x1 x2 o3 _) ?_
    refine xc_t (it := 25) (ie := 16) (ls' := [some (vR 5), some (vI x1), some (vI x2), some (vI 0)]) (st' := []) (bs_103_4 call 0 _ _) (by decide) ?_
    refine xc_b (i' := 26) (ls' := [some (vR 5), some (vI x1), some (vI x2), some (vI 0)]) (st' := [vI 0]) (L' := LW W z f) 1 (bs_103_5 call x1 x2 0 _) ?_
    subst H
    exact xc_ret (bs_103_6 call _ _ _)
  · have H := H.2 (cI2f q1 rfl rfl)
    refine xc_b (i' := 4) (ls' := [some (vR 5), some (vI x1), some (vI x2), o3]) (st' := [vI 150, vI x1]) (L' := LW W z f) 2 (bs_103_7 call x1 x2 o3 _) ?_
    refine xc_if (it := 12) (ie := 5) (ls' := [some (vR 5), some (vI x1), some (vI x2), o3]) (st' := []) (bs_103_8 call x1 150 _ _) (fun q2 => ?_) (fun q2 => ?_)
    · have H := H.1 (cI3t q2 rfl rfl)
      refine xc_b (i' := 15) (ls' := [some (vR 5), some (vI x1), some (vI x2), some (vI 0)]) (st' := [vI 0]) (L' := LW W z f) 3 (bs_103_3 call x1 x2 o3 _) ?_
      refine xc_t (it := 25) (ie := 16) (ls' := [some (vR 5), some (vI x1), some (vI x2), some (vI 0)]) (st' := []) (bs_103_4 call 0 _ _) (by decide) ?_
      refine xc_b (i' := 26) (ls' := [some (vR 5), some (vI x1), some (vI x2), some (vI 0)]) (st' := [vI 0]) (L' := LW W z f) 1 (bs_103_5 call x1 x2 0 _) ?_
      subst H
      exact xc_ret (bs_103_6 call _ _ _)
    · have H := H.2 (cI3f q2 rfl rfl)
      refine xc_b (i' := 6) (ls' := [some (vR 5), some (vI x1), some (vI x2), o3]) (st' := [vI x2]) (L' := LW W z f) 1 (bs_103_9 call x1 x2 o3 _) ?_
      refine xc_if (it := 12) (ie := 7) (ls' := [some (vR 5), some (vI x1), some (vI x2), o3]) (st' := []) (bs_103_10 call x2 _ _) (fun q3 => ?_) (fun q3 => ?_)
      · have H := H.1 (cI2t q3 rfl rfl)
        refine xc_b (i' := 15) (ls' := [some (vR 5), some (vI x1), some (vI x2), some (vI 0)]) (st' := [vI 0]) (L' := LW W z f) 3 (bs_103_3 call x1 x2 o3 _) ?_
        refine xc_t (it := 25) (ie := 16) (ls' := [some (vR 5), some (vI x1), some (vI x2), some (vI 0)]) (st' := []) (bs_103_4 call 0 _ _) (by decide) ?_
        refine xc_b (i' := 26) (ls' := [some (vR 5), some (vI x1), some (vI x2), some (vI 0)]) (st' := [vI 0]) (L' := LW W z f) 1 (bs_103_5 call x1 x2 0 _) ?_
        subst H
        exact xc_ret (bs_103_6 call _ _ _)
      · have H := H.2 (cI2f q3 rfl rfl)
        refine xc_b (i' := 9) (ls' := [some (vR 5), some (vI x1), some (vI x2), o3]) (st' := [vI 5, vI x2]) (L' := LW W z f) 2 (bs_103_11 call x1 x2 o3 _) ?_
        refine xc_if (it := 12) (ie := 10) (ls' := [some (vR 5), some (vI x1), some (vI x2), o3]) (st' := []) (bs_103_12 call x2 5 _ _) (fun q4 => ?_) (fun q4 => ?_)
        · have H := H.1 (cI3t q4 rfl rfl)
          refine xc_b (i' := 15) (ls' := [some (vR 5), some (vI x1), some (vI x2), some (vI 0)]) (st' := [vI 0]) (L' := LW W z f) 3 (bs_103_3 call x1 x2 o3 _) ?_
          refine xc_t (it := 25) (ie := 16) (ls' := [some (vR 5), some (vI x1), some (vI x2), some (vI 0)]) (st' := []) (bs_103_4 call 0 _ _) (by decide) ?_
          refine xc_b (i' := 26) (ls' := [some (vR 5), some (vI x1), some (vI x2), some (vI 0)]) (st' := [vI 0]) (L' := LW W z f) 1 (bs_103_5 call x1 x2 0 _) ?_
          subst H
          exact xc_ret (bs_103_6 call _ _ _)
        · have H := H.2 (cI3f q4 rfl rfl)
          refine xc_b (i' := 15) (ls' := [some (vR 5), some (vI x1), some (vI x2), some (vI 1)]) (st' := [vI 1]) (L' := LW W z f) 4 (bs_103_13 call x1 x2 o3 _) ?_
          refine xc_f (it := 25) (ie := 16) (ls' := [some (vR 5), some (vI x1), some (vI x2), some (vI 1)]) (st' := []) (bs_103_4 call 1 _ _) (by decide) ?_
          refine xc_b (i' := 23) (ls' := [some (vR 5), some (vI x1), some (vI x2), some (vI 1)]) (st' := [vI ((x1 * 5) + x2), vR 6]) (L' := LW W z f) 7 (bs_103_14 call x1 x2 1 z f) ?_
          obtain ⟨g1, H⟩ := H
          refine xc_g (i' := 24) (ls' := [some (vR 5), some (vI x1), some (vI x2), some (vI 1)]) (st' := [vI (f 6 (ix ((x1 * 5) + x2)))]) (L' := LW W z f) (bs_103_15 call ((x1 * 5) + x2) _ z f) (pinG g1) ?_
          refine xc_b (i' := 26) (ls' := [some (vR 5), some (vI x1), some (vI x2), some (vI 1)]) (st' := [vI (f 6 (ix ((x1 * 5) + x2)))]) (L' := LW W z f) 1 (bs_103_16 call x1 x2 1 (f 6 (ix ((x1 * 5) + x2))) _) ?_
          subst H
          exact xc_ret (bs_103_6 call _ _ _)
section SMALL
variable {L : LAW} {n nv nw ns : Nat}
/-- the state -/
theorem simStateU (d d' : Nat) {c : Nat} {z zr : Nat → Int32} {f r : Nat → FA} (x : Int32) (hR : WR W L n nv nw ns z f zr r) (hG : RGA c c c nv z f zr r) : ∃ a z' f' zr' r' c', xcall (d + 2) 179 [vR 0, vI x] (LW W z f) = some (some (vI a), LW W z' f') ∧ mcall (d' + 1) 277 [vR 0, vI x] (LR zr r) = some (some (vI a), LR zr' r') ∧ WR W L n nv nw ns z' f' zr' r' ∧ RGA c' c' c' nv z' f' zr' r' ∧ HF z f zr r z' f' zr' r' := by
  have zd : z 28 = r 1 2 := hR.1.1.2.1.2.2.2.2.2.2.1
  have x2 : ix 2 = 2 := by decide
  have hc : CRL 2 nv (uZ (uZ z 28 x) 123 0) f (uA r 1 (upd (r 1) 2 x)) := by
    have q := cr_drawn x hR.1.1
    exact CRo.st (c := 2) q (fun i h1 h2 => uZ_n (by omega)) rfl rfl
  have H1 : HF z f zr r (uZ (uZ z 28 x) 123 0) f (uZ (uZ zr 0 0) 3 0) (uA r 1 (upd (r 1) 2 x)) := ⟨fun j hj => by rw [uZ_n (by omega), uZ_n (by omega)], fun _ _ _ => rfl, fun j h1 h2 => by rw [uZ_n h2, uZ_n h1], fun k hk => uA_ne (fun q => hk (by rw [q]; decide))⟩
  have hr : RLn nv (uZ (uZ z 28 x) 123 0) f (uZ (uZ zr 0 0) 3 0) (uA r 1 (upd (r 1) 2 x)) := ⟨hc, fun j hj => by rw [uA_ne (show (7 : Nat) ≠ 1 by decide)]; exact hR.1.2.1 j hj, by rw [uZ_n (by decide), uZ_n (by decide)]; exact hR.1.2.2⟩
  exact ⟨r 1 2, _, f, _, _, 0, xcall_i (mq179 (cu := [])).2.2 rfl (vcs_179_0 (xcall (d + 1)) x none z f _ ⟨_, _, wForget d, by rw [zd]⟩), mcall_i (mq277 (cu := [])).2.2 rfl (vc277_0 (mcall d') x none zr r _ ⟨by decide, by decide, by rw [x2]⟩), hR.hf hr H1, hG.forget (by rw [uZ_n (by decide), uZ_n (by decide)]) uZ_s uZ_s, H1⟩
/-- the book -/
theorem simBookU (d d' : Nat) {z zr : Nat → Int32} {f r : Nat → FA} (x y : Int32) (hR : WR W L n nv nw ns z f zr r) : ∃ a, xcall (d + 2) 152 [vR 0, vI x, vI y] (LW W z f) = some (some (vI a), LW W z f) ∧ mcall (d' + 2) 191 [vR 0, vI x, vI y] (LR zr r) = some (some (vI a), LR (uZ zr 0 0) r) := by
  obtain ⟨l, hl, el⟩ := hR.1.1.2.2.2.2.2
  have z29 : z 29 = nI l := hR.1.1.2.1.2.2.2.2.2.2.2.trans el
  have il : I (z 29) = l := by rw [z29]; exact I_nI (by omega)
  have x3 : ix 3 = 3 := by decide
  have ip : I (r 1 (ix 3) - 1) = (l : Int) - 1 := by rw [x3, el]; exact I_pred hl
  by_cases cx : 0 ≤ I x ∧ I x < l
  · by_cases cy : 0 ≤ I y ∧ I y ≤ 4
    · obtain ⟨a, rfl, a1, a2⟩ := nI_ofI cx.1
      obtain ⟨b, rfl, b1, b2⟩ := nI_ofI cy.1
      have e1 : nI a * 5 + nI b = nI (5 * a + b) := by rw [show (5 : Int32) = nI 5 from rfl, mul_nI, nI_add, Nat.mul_comm]
      have e2 : 5 * nI a + nI b = nI (5 * a + b) := by rw [show (5 : Int32) = nI 5 from rfl, mul_nI, nI_add]
      have nb : xcall (d + 1) 103 [vR 5, vI (nI a), vI (nI b)] (LW W z f) = some (some (vI (f 6 (5 * a + b))), LW W z f) := by
        refine xcall_i (mq103 (cu := [])).2.2 rfl (vcs_103_0 (xcall d) (nI a) (nI b) none z f _ ⟨fun q => by omega, fun _ => ⟨fun q => by omega, fun _ => ⟨fun q => by omega, fun _ => ⟨fun q => by omega, fun _ => ⟨?_, ?_⟩⟩⟩⟩⟩)
        · rw [e1]
          exact pin_nI (by omega) (by omega)
        · rw [e1, ix_nI (j := 5 * a + b) (by omega)]
      have bk := hR.1.2.1 (5 * a + b) (by omega)
      refine ⟨f 6 (5 * a + b), xcall_i (mq152 (cu := [])).2.2 rfl (vcs_152_0 (xcall (d + 1)) _ _ z f _ ⟨fun q => by omega, fun _ => ⟨fun q => by omega, fun _ => ⟨fun q => by omega, fun _ => ⟨fun _ => ⟨_, _, _, nb, rfl⟩, fun q => by omega⟩⟩⟩⟩), mcall_i (mq191 (cu := [])).2.2 rfl (vc191_0 d' _ _ zr r _ ⟨by decide, fun _ => ⟨fun _ => ⟨?_, ?_⟩, fun q => absurd cy q⟩, fun q => absurd ⟨cx.1, by rw [ip]; omega⟩ q⟩)⟩
      · rw [e2]
        exact pin_nI (by omega) (by omega)
      · rw [e2, ix_nI (j := 5 * a + b) (by omega), bk]
    · exact ⟨-10000, xcall_i (mq152 (cu := [])).2.2 rfl (vcs_152_0 (xcall (d + 1)) _ _ z f _ ⟨fun _ => rfl, fun _ => ⟨fun _ => rfl, fun _ => ⟨fun _ => rfl, fun q => ⟨fun q2 => absurd ⟨q, by omega⟩ cy, fun _ => rfl⟩⟩⟩⟩), mcall_i (mq191 (cu := [])).2.2 rfl (vc191_0 d' _ _ zr r _ ⟨by decide, fun _ => ⟨fun q => absurd q cy, fun _ => rfl⟩, fun _ => rfl⟩)⟩
  · exact ⟨-10000, xcall_i (mq152 (cu := [])).2.2 rfl (vcs_152_0 (xcall (d + 1)) _ _ z f _ ⟨fun _ => rfl, fun q => ⟨fun _ => rfl, fun q2 => absurd ⟨q, by omega⟩ cx⟩⟩), mcall_i (mq191 (cu := [])).2.2 rfl (vc191_0 d' _ _ zr r _ ⟨by decide, fun q => absurd ⟨q.1, by have := q.2; rw [ip] at this; omega⟩ cx, fun _ => rfl⟩)⟩
/-- a cell -/
theorem simCellU (hW : WTX W) (hC : LWC W 0 L n) (hL : LOK L n) (d d' : Nat) {c : Nat} {z zr : Nat → Int32} {f r : Nat → FA} (x y w : Int32) (hR : WR W L n nv nw ns z f zr r) (hG : RGA c c c nv z f zr r) : ∃ a z' f' zr' r' c', xcall (d + 5) 155 [vR 0, vI x, vI y, vI w] (LW W z f) = some (some (vI a), LW W z' f') ∧ mcall (d' + 6) 197 [vR 0, vI x, vI y, vI w] (LR zr r) = some (some (vI a), LR zr' r') ∧ WR W L n nv nw ns z' f' zr' r' ∧ RGA c' c' c' nv z' f' zr' r' ∧ HF z f zr r z' f' zr' r' := by
  have R0 := hR.z0
  have G0 := hG.z0
  have hn := hR.1.1.1
  by_cases cx : (0 ≤ I x ∧ I x ≤ 11) ∧ (0 ≤ I y ∧ I y ≤ 11)
  · obtain ⟨cx, cy⟩ := cx
    by_cases cw : 0 ≤ I w ∧ I w ≤ 4
    · obtain ⟨a, rfl, x1, x2⟩ := nI_ofI cx.1
      obtain ⟨b, rfl, y1, y2⟩ := nI_ofI cy.1
      obtain ⟨u, rfl, u1, u2⟩ := nI_ofI cw.1
      have hi : 12 * a + b < 144 := by omega
      have e : (12 : Int32) * nI a + nI b = nI (12 * a + b) := by rw [show (12 : Int32) = nI 12 from rfl, mul_nI, nI_add]
      have e67 : (67 : Int32) + (12 * nI a + nI b) = nI (67 + (12 * a + b)) := by rw [e]; exact nI_add 67 _
      have e211 : (211 : Int32) + (12 * nI a + nI b) = nI (211 + (12 * a + b)) := by rw [e]; exact nI_add 211 _
      have e355 : (355 : Int32) + (12 * nI a + nI b) = nI (355 + (12 * a + b)) := by rw [e]; exact nI_add 355 _
      have c0 := wCellAt (W := W) (d + 3) (a := a) (b := b) (by omega) (by omega) (z := z) (f := f)
      have nm : ¬ nI (12 * a + b) = -1 := fun q => by
        have := congrArg I q
        rw [I_nI (by omega), show I (-1) = -1 by decide] at this
        omega
      have c1 := wMkdn (W := W) (d + 3) (z := z) (f := f) hi
      have c2 := mIs (d' + 4) hi (z := uZ zr 0 0) (f := r)
      have hmm := hR.1.1.2.2.2.1
      obtain ⟨q1, q2, q3⟩ := (hmm _ hi).val hn
      have iff := (hmm _ hi).iff hn
      have ow := wOwnn (W := W) (d + 2) (z := z) (f := f) hi
      have wy := wWayn (W := W) (d + 2) (z := z) (f := f) hi
      have dp := wDepn (W := W) (d + 2) (z := z) (f := f) hi
      have own : mkO (f 4 (12 * a + b)) = r 1 (67 + (12 * a + b)) - 1 := by
        rcases q3 with ⟨-, h2, h3⟩ | ⟨-, v, hv, h2, h3, -⟩
        · have h3 : r 1 (67 + (12 * a + b)) = 0 := h3
          have h2 : mkO (f 4 (12 * a + b)) = -1 := h2
          rw [h2, h3]
          decide
        · have h3 : r 1 (67 + (12 * a + b)) = nI (v + 1) := h3
          have h2 : mkO (f 4 (12 * a + b)) = nI v := h2
          rw [h2, h3]
          exact (nI_sub (a := v + 1) (b := 1) (by omega)).symm
      have q1 : mkW (f 4 (12 * a + b)) = r 1 (211 + (12 * a + b)) := q1
      have q2 : mkD (f 4 (12 * a + b)) = r 1 (355 + (12 * a + b)) := q2
      rw [own] at ow
      rw [q1] at wy
      rw [q2] at dp
      have iu : I (nI u) = u := I_nI (by omega)
      -- the class: what each ask comes to
      have cls : ∀ (m : Int32) (res : Option PV × QH FA), (xcall (d + 4) 6 [vR 2, vI (nI (12 * a + b))] (LW W z f) = some (some (vI m), LW W z f)) → _ → xcall (d + 5) 155 [vR 0, vI (nI a), vI (nI b), vI (nI u)] (LW W z f) = some res := fun m res h6 H => xcall_i (mq155 (cu := [])).2.2 rfl (vcs_155_0 (xcall (d + 4)) _ _ _ none none z f res ⟨_, _, _, c0, fun q => absurd q nm, fun _ => ⟨fun q => by omega, fun _ => ⟨fun _ => ⟨_, _, _, h6, H⟩, fun q => by omega⟩⟩⟩)
      have ref : ∀ res, _ → mcall (d' + 6) 197 [vR 0, vI (nI a), vI (nI b), vI (nI u)] (LR zr r) = some res := fun res H => mcall_i (mq197 (cu := [])).2.2 rfl (vc197_0 d' _ _ _ none zr r res ⟨fun _ => ⟨fun _ => ⟨fun _ => H, fun q => absurd cw q⟩, fun q => absurd cy q⟩, fun q => absurd cx q⟩)
      rcases (show u = 0 ∨ u = 1 ∨ u = 2 ∨ u = 3 ∨ u = 4 by omega) with rfl | rfl | rfl | rfl | rfl
      · exact ⟨_, z, f, uZ zr 0 0, r, c, cls _ _ c1 ⟨fun _ => ⟨fun _ => ⟨_, _, _, ow, rfl⟩, fun q => absurd rfl q⟩, fun _ => ⟨fun _ => ⟨_, _, _, ow, rfl⟩, fun q => absurd rfl q⟩⟩, ref _ ⟨fun q => absurd rfl q, fun _ => ⟨by rw [e67]; exact pin_nI (by omega) (by omega), by rw [e67, ix_nI (j := 67 + (12 * a + b)) (by omega)]⟩⟩, R0, G0, HF.z0 z f zr r⟩
      · exact ⟨_, z, f, uZ zr 0 0, r, c, cls _ _ c1 ⟨fun _ => ⟨fun q => absurd q (by decide), fun _ => ⟨fun _ => ⟨_, _, _, wy, rfl⟩, fun q => absurd rfl q⟩⟩, fun _ => ⟨fun q => absurd q (by decide), fun _ => ⟨fun _ => ⟨_, _, _, wy, rfl⟩, fun q => absurd rfl q⟩⟩⟩, ref _ ⟨fun _ => ⟨fun q => absurd rfl q, fun _ => ⟨by rw [e211]; exact pin_nI (by omega) (by omega), by rw [e211, ix_nI (j := 211 + (12 * a + b)) (by omega)]⟩⟩, fun q => absurd q (by decide)⟩, R0, G0, HF.z0 z f zr r⟩
      · exact ⟨_, z, f, uZ zr 0 0, r, c, cls _ _ c1 ⟨fun _ => ⟨fun q => absurd q (by decide), fun _ => ⟨fun q => absurd q (by decide), fun _ => ⟨fun _ => ⟨_, _, _, dp, rfl⟩, fun q => absurd rfl q⟩⟩⟩, fun _ => ⟨fun q => absurd q (by decide), fun _ => ⟨fun q => absurd q (by decide), fun _ => ⟨fun _ => ⟨_, _, _, dp, rfl⟩, fun q => absurd rfl q⟩⟩⟩⟩, ref _ ⟨fun _ => ⟨fun _ => ⟨fun q => absurd rfl q, fun _ => ⟨by rw [e355]; exact pin_nI (by omega) (by omega), by rw [e355, ix_nI (j := 355 + (12 * a + b)) (by omega)]⟩⟩, fun q => absurd q (by decide)⟩, fun q => absurd q (by decide)⟩, R0, G0, HF.z0 z f zr r⟩
      all_goals
        by_cases cm : f 4 (12 * a + b) = 0
        · rw [mk1_f (fun q => q cm)] at c1
          rw [mk1_f (fun q => iff.mpr q cm), ← e] at c2
          exact ⟨-1, z, f, uZ zr 0 0, r, c, cls _ _ c1 ⟨fun q => absurd rfl q, fun _ => ⟨fun q => absurd q (by decide), fun _ => ⟨fun q => absurd q (by decide), fun _ => ⟨fun q => absurd q (by decide), fun _ => ⟨fun _ => rfl, fun _ => rfl⟩⟩⟩⟩⟩, ref _ ⟨fun _ => ⟨fun _ => ⟨fun _ => ⟨_, _, _, c2, fun q => absurd rfl q, fun _ => rfl⟩, fun q => absurd q (by decide)⟩, fun q => absurd q (by decide)⟩, fun q => absurd q (by decide)⟩, R0, G0, HF.z0 z f zr r⟩
        · rw [mk1_t cm] at c1
          rw [mk1_t (iff.mp cm), ← e] at c2
          first
          | (obtain ⟨v, f1, r1, -, s1, s2, s3⟩ := simMltn hW hC hL d d' hi R0.1 R0.2.1 cm
             rw [← e] at s2
             have F1 := s3.fr (z := z)
             have H1 := (HF.z0 z f zr r).trans (F1.hf (uZ zr 0 0))
             exact ⟨v, z, f1, uZ zr 0 0, r1, c, cls _ _ c1 ⟨fun _ => ⟨fun q => absurd q (by decide), fun _ => ⟨fun q => absurd q (by decide), fun _ => ⟨fun q => absurd q (by decide), fun _ => ⟨fun _ => ⟨_, _, _, s1, rfl⟩, fun q => absurd rfl q⟩⟩⟩⟩, fun q => absurd q (by decide)⟩, ref _ ⟨fun _ => ⟨fun _ => ⟨fun _ => ⟨_, _, _, c2, fun _ => ⟨fun q => absurd rfl q, fun _ => ⟨_, _, _, s2, rfl⟩⟩, fun q => absurd q (by decide)⟩, fun q => absurd q (by decide)⟩, fun q => absurd q (by decide)⟩, fun q => absurd q (by decide)⟩, hR.hf (s3.rl R0.1) H1, G0.fr F1, H1⟩)
          | (obtain ⟨v, f1, r1, -, s1, s2, s3⟩ := simWghn hW hC hL d d' hi R0.1 R0.2.1 cm
             rw [← e] at s2
             have F1 := s3.fr (z := z)
             have H1 := (HF.z0 z f zr r).trans (F1.hf (uZ zr 0 0))
             exact ⟨v, z, f1, uZ zr 0 0, r1, c, cls _ _ c1 ⟨fun _ => ⟨fun q => absurd q (by decide), fun _ => ⟨fun q => absurd q (by decide), fun _ => ⟨fun q => absurd q (by decide), fun _ => ⟨fun q => absurd q (by decide), fun _ => ⟨_, _, _, s1, rfl⟩⟩⟩⟩⟩, fun q => absurd q (by decide)⟩, ref _ ⟨fun _ => ⟨fun _ => ⟨fun _ => ⟨_, _, _, c2, fun _ => ⟨fun _ => ⟨_, _, _, s2, rfl⟩, fun q => absurd q (by decide)⟩, fun q => absurd q (by decide)⟩, fun q => absurd q (by decide)⟩, fun q => absurd q (by decide)⟩, fun q => absurd q (by decide)⟩, hR.hf (s3.rl R0.1) H1, G0.fr F1, H1⟩)
    · obtain ⟨a, rfl, x1, x2⟩ := nI_ofI cx.1
      obtain ⟨b, rfl, y1, y2⟩ := nI_ofI cy.1
      have c0 := wCellAt (W := W) (d + 3) (a := a) (b := b) (by omega) (by omega) (z := z) (f := f)
      exact ⟨-2, z, f, uZ zr 0 0, r, c, xcall_i (mq155 (cu := [])).2.2 rfl (vcs_155_0 (xcall (d + 4)) _ _ _ none none z f _ ⟨_, _, _, c0, fun _ => rfl, fun _ => ⟨fun _ => rfl, fun q => ⟨fun q2 => absurd ⟨q, q2⟩ cw, fun _ => rfl⟩⟩⟩), mcall_i (mq197 (cu := [])).2.2 rfl (vc197_0 d' _ _ _ none zr r _ ⟨fun _ => ⟨fun _ => ⟨fun q => absurd q cw, fun _ => rfl⟩, fun _ => rfl⟩, fun _ => rfl⟩), R0, G0, HF.z0 z f zr r⟩
  · exact ⟨-2, z, f, uZ zr 0 0, r, c, xcall_i (mq155 (cu := [])).2.2 rfl (vcs_155_0 (xcall (d + 4)) _ _ _ none none z f _ ⟨_, _, _, wCellAtN (d + 3) cx, fun _ => rfl, fun q => absurd rfl q⟩), mcall_i (mq197 (cu := [])).2.2 rfl (vc197_0 d' _ _ _ none zr r _ ⟨fun q1 => ⟨fun q2 => absurd ⟨q1, q2⟩ cx, fun _ => rfl⟩, fun _ => rfl⟩), R0, G0, HF.z0 z f zr r⟩
end SMALL
end TWs
